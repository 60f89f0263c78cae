theorem d_FI_init_0 : decode b_FI_init 0 = .ok (.aload_n 0, 1) := by decide +kernel
theorem d_FI_init_1 : decode b_FI_init 1 = .ok (.invokespecial 5, 3) := by decide +kernel
theorem d_FI_init_4 : decode b_FI_init 4 = .ok (.aload_n 0, 1) := by decide +kernel
theorem d_FI_init_5 : decode b_FI_init 5 = .ok (.iconst 0, 1) := by decide +kernel
theorem d_FI_init_6 : decode b_FI_init 6 = .ok (.putfield 11, 3) := by decide +kernel
theorem d_FI_init_9 : decode b_FI_init 9 = .ok (.aload_n 0, 1) := by decide +kernel
theorem d_FI_init_10 : decode b_FI_init 10 = .ok (.iconst 0, 1) := by decide +kernel
theorem d_FI_init_11 : decode b_FI_init 11 = .ok (.putfield 15, 3) := by decide +kernel
theorem d_FI_init_14 : decode b_FI_init 14 = .ok (.aload_n 0, 1) := by decide +kernel
theorem d_FI_init_15 : decode b_FI_init 15 = .ok (.iconst 0, 1) := by decide +kernel
theorem d_FI_init_16 : decode b_FI_init 16 = .ok (.putfield 18, 3) := by decide +kernel
theorem d_FI_init_19 : decode b_FI_init 19 = .ok (.aload_n 0, 1) := by decide +kernel
theorem d_FI_init_20 : decode b_FI_init 20 = .ok (.iconst 0, 1) := by decide +kernel
theorem d_FI_init_21 : decode b_FI_init 21 = .ok (.putfield 22, 3) := by decide +kernel
theorem d_FI_init_24 : decode b_FI_init 24 = .ok (.aload_n 0, 1) := by decide +kernel
theorem d_FI_init_25 : decode b_FI_init 25 = .ok (.iconst 0, 1) := by decide +kernel
theorem d_FI_init_26 : decode b_FI_init 26 = .ok (.putfield 25, 3) := by decide +kernel
theorem d_FI_init_29 : decode b_FI_init 29 = .ok (.aload_n 0, 1) := by decide +kernel
theorem d_FI_init_30 : decode b_FI_init 30 = .ok (.iconst 0, 1) := by decide +kernel
theorem d_FI_init_31 : decode b_FI_init 31 = .ok (.putfield 28, 3) := by decide +kernel
theorem d_FI_init_34 : decode b_FI_init 34 = .ok (.aload_n 0, 1) := by decide +kernel
theorem d_FI_init_35 : decode b_FI_init 35 = .ok (.sipush 256, 3) := by decide +kernel
theorem d_FI_init_38 : decode b_FI_init 38 = .ok (.newarray .int, 2) := by decide +kernel
theorem d_FI_init_40 : decode b_FI_init 40 = .ok (.putfield 31, 3) := by decide +kernel
theorem d_FI_init_43 : decode b_FI_init 43 = .ok (.aload_n 0, 1) := by decide +kernel
theorem d_FI_init_44 : decode b_FI_init 44 = .ok (.bipush 16, 2) := by decide +kernel
theorem d_FI_init_46 : decode b_FI_init 46 = .ok (.newarray .long, 2) := by decide +kernel
theorem d_FI_init_48 : decode b_FI_init 48 = .ok (.putfield 35, 3) := by decide +kernel
theorem d_FI_init_51 : decode b_FI_init 51 = .ok (.aload_n 0, 1) := by decide +kernel
theorem d_FI_init_52 : decode b_FI_init 52 = .ok (.sipush 256, 3) := by decide +kernel
theorem d_FI_init_55 : decode b_FI_init 55 = .ok (.newarray .int, 2) := by decide +kernel
theorem d_FI_init_57 : decode b_FI_init 57 = .ok (.putfield 39, 3) := by decide +kernel
theorem d_FI_init_60 : decode b_FI_init 60 = .ok (.return_, 1) := by decide +kernel
theorem d_FI_begin_0 : decode b_FI_begin 0 = .ok (.aload_n 0, 1) := by decide +kernel
theorem d_FI_begin_1 : decode b_FI_begin 1 = .ok (.iconst 1, 1) := by decide +kernel
theorem d_FI_begin_2 : decode b_FI_begin 2 = .ok (.putfield 11, 3) := by decide +kernel
theorem d_FI_begin_5 : decode b_FI_begin 5 = .ok (.aload_n 0, 1) := by decide +kernel
theorem d_FI_begin_6 : decode b_FI_begin 6 = .ok (.iconst 0, 1) := by decide +kernel
theorem d_FI_begin_7 : decode b_FI_begin 7 = .ok (.putfield 15, 3) := by decide +kernel
theorem d_FI_begin_10 : decode b_FI_begin 10 = .ok (.aload_n 0, 1) := by decide +kernel
theorem d_FI_begin_11 : decode b_FI_begin 11 = .ok (.iconst 0, 1) := by decide +kernel
theorem d_FI_begin_12 : decode b_FI_begin 12 = .ok (.putfield 18, 3) := by decide +kernel
theorem d_FI_begin_15 : decode b_FI_begin 15 = .ok (.aload_n 0, 1) := by decide +kernel
theorem d_FI_begin_16 : decode b_FI_begin 16 = .ok (.iconst 0, 1) := by decide +kernel
theorem d_FI_begin_17 : decode b_FI_begin 17 = .ok (.putfield 22, 3) := by decide +kernel
theorem d_FI_begin_20 : decode b_FI_begin 20 = .ok (.aload_n 0, 1) := by decide +kernel
theorem d_FI_begin_21 : decode b_FI_begin 21 = .ok (.iconst 0, 1) := by decide +kernel
theorem d_FI_begin_22 : decode b_FI_begin 22 = .ok (.putfield 25, 3) := by decide +kernel
theorem d_FI_begin_25 : decode b_FI_begin 25 = .ok (.aload_n 0, 1) := by decide +kernel
theorem d_FI_begin_26 : decode b_FI_begin 26 = .ok (.iconst 0, 1) := by decide +kernel
theorem d_FI_begin_27 : decode b_FI_begin 27 = .ok (.putfield 28, 3) := by decide +kernel
theorem d_FI_begin_30 : decode b_FI_begin 30 = .ok (.aload_n 0, 1) := by decide +kernel
theorem d_FI_begin_31 : decode b_FI_begin 31 = .ok (.getfield 39, 3) := by decide +kernel
theorem d_FI_begin_34 : decode b_FI_begin 34 = .ok (.iconst (-1), 1) := by decide +kernel
theorem d_FI_begin_35 : decode b_FI_begin 35 = .ok (.invokestatic 42, 3) := by decide +kernel
theorem d_FI_begin_38 : decode b_FI_begin 38 = .ok (.return_, 1) := by decide +kernel
theorem d_FI_addState_0 : decode b_FI_addState 0 = .ok (.aload_n 0, 1) := by decide +kernel
theorem d_FI_addState_1 : decode b_FI_addState 1 = .ok (.getfield 18, 3) := by decide +kernel
theorem d_FI_addState_4 : decode b_FI_addState 4 = .ok (.aload_n 0, 1) := by decide +kernel
theorem d_FI_addState_5 : decode b_FI_addState 5 = .ok (.getfield 31, 3) := by decide +kernel
theorem d_FI_addState_8 : decode b_FI_addState 8 = .ok (.arraylength, 1) := by decide +kernel
theorem d_FI_addState_9 : decode b_FI_addState 9 = .ok (.if_icmp .lt 28, 3) := by decide +kernel
theorem d_FI_addState_12 : decode b_FI_addState 12 = .ok (.aload_n 0, 1) := by decide +kernel
theorem d_FI_addState_13 : decode b_FI_addState 13 = .ok (.aload_n 0, 1) := by decide +kernel
theorem d_FI_addState_14 : decode b_FI_addState 14 = .ok (.getfield 31, 3) := by decide +kernel
theorem d_FI_addState_17 : decode b_FI_addState 17 = .ok (.sipush 12000, 3) := by decide +kernel
theorem d_FI_addState_20 : decode b_FI_addState 20 = .ok (.aload_n 0, 1) := by decide +kernel
theorem d_FI_addState_21 : decode b_FI_addState 21 = .ok (.getfield 31, 3) := by decide +kernel
theorem d_FI_addState_24 : decode b_FI_addState 24 = .ok (.arraylength, 1) := by decide +kernel
theorem d_FI_addState_25 : decode b_FI_addState 25 = .ok (.bipush 8, 2) := by decide +kernel
theorem d_FI_addState_27 : decode b_FI_addState 27 = .ok (.imul, 1) := by decide +kernel
theorem d_FI_addState_28 : decode b_FI_addState 28 = .ok (.invokestatic 48, 3) := by decide +kernel
theorem d_FI_addState_31 : decode b_FI_addState 31 = .ok (.invokestatic 54, 3) := by decide +kernel
theorem d_FI_addState_34 : decode b_FI_addState 34 = .ok (.putfield 31, 3) := by decide +kernel
theorem d_FI_addState_37 : decode b_FI_addState 37 = .ok (.aload_n 0, 1) := by decide +kernel
theorem d_FI_addState_38 : decode b_FI_addState 38 = .ok (.getfield 18, 3) := by decide +kernel
theorem d_FI_addState_41 : decode b_FI_addState 41 = .ok (.aload_n 0, 1) := by decide +kernel
theorem d_FI_addState_42 : decode b_FI_addState 42 = .ok (.getfield 31, 3) := by decide +kernel
theorem d_FI_addState_45 : decode b_FI_addState 45 = .ok (.arraylength, 1) := by decide +kernel
theorem d_FI_addState_46 : decode b_FI_addState 46 = .ok (.if_icmp .ge 27, 3) := by decide +kernel
theorem d_FI_addState_49 : decode b_FI_addState 49 = .ok (.aload_n 0, 1) := by decide +kernel
theorem d_FI_addState_50 : decode b_FI_addState 50 = .ok (.getfield 31, 3) := by decide +kernel
theorem d_FI_addState_53 : decode b_FI_addState 53 = .ok (.aload_n 0, 1) := by decide +kernel
theorem d_FI_addState_54 : decode b_FI_addState 54 = .ok (.getfield 18, 3) := by decide +kernel
theorem d_FI_addState_57 : decode b_FI_addState 57 = .ok (.iload_n 1, 1) := by decide +kernel
theorem d_FI_addState_58 : decode b_FI_addState 58 = .ok (.iconst 5, 1) := by decide +kernel
theorem d_FI_addState_59 : decode b_FI_addState 59 = .ok (.ishl, 1) := by decide +kernel
theorem d_FI_addState_60 : decode b_FI_addState 60 = .ok (.iload_n 2, 1) := by decide +kernel
theorem d_FI_addState_61 : decode b_FI_addState 61 = .ok (.ior, 1) := by decide +kernel
theorem d_FI_addState_62 : decode b_FI_addState 62 = .ok (.iastore, 1) := by decide +kernel
theorem d_FI_addState_63 : decode b_FI_addState 63 = .ok (.aload_n 0, 1) := by decide +kernel
theorem d_FI_addState_64 : decode b_FI_addState 64 = .ok (.dup, 1) := by decide +kernel
theorem d_FI_addState_65 : decode b_FI_addState 65 = .ok (.getfield 18, 3) := by decide +kernel
theorem d_FI_addState_68 : decode b_FI_addState 68 = .ok (.iconst 1, 1) := by decide +kernel
theorem d_FI_addState_69 : decode b_FI_addState 69 = .ok (.iadd, 1) := by decide +kernel
theorem d_FI_addState_70 : decode b_FI_addState 70 = .ok (.putfield 18, 3) := by decide +kernel
theorem d_FI_addState_73 : decode b_FI_addState 73 = .ok (.return_, 1) := by decide +kernel
theorem d_FI_addEnd_0 : decode b_FI_addEnd 0 = .ok (.aload_n 0, 1) := by decide +kernel
theorem d_FI_addEnd_1 : decode b_FI_addEnd 1 = .ok (.getfield 28, 3) := by decide +kernel
theorem d_FI_addEnd_4 : decode b_FI_addEnd 4 = .ok (.aload_n 0, 1) := by decide +kernel
theorem d_FI_addEnd_5 : decode b_FI_addEnd 5 = .ok (.getfield 35, 3) := by decide +kernel
theorem d_FI_addEnd_8 : decode b_FI_addEnd 8 = .ok (.arraylength, 1) := by decide +kernel
theorem d_FI_addEnd_9 : decode b_FI_addEnd 9 = .ok (.if_icmp .lt 28, 3) := by decide +kernel
theorem d_FI_addEnd_12 : decode b_FI_addEnd 12 = .ok (.aload_n 0, 1) := by decide +kernel
theorem d_FI_addEnd_13 : decode b_FI_addEnd 13 = .ok (.aload_n 0, 1) := by decide +kernel
theorem d_FI_addEnd_14 : decode b_FI_addEnd 14 = .ok (.getfield 35, 3) := by decide +kernel
theorem d_FI_addEnd_17 : decode b_FI_addEnd 17 = .ok (.sipush 12000, 3) := by decide +kernel
theorem d_FI_addEnd_20 : decode b_FI_addEnd 20 = .ok (.aload_n 0, 1) := by decide +kernel
theorem d_FI_addEnd_21 : decode b_FI_addEnd 21 = .ok (.getfield 35, 3) := by decide +kernel
theorem d_FI_addEnd_24 : decode b_FI_addEnd 24 = .ok (.arraylength, 1) := by decide +kernel
theorem d_FI_addEnd_25 : decode b_FI_addEnd 25 = .ok (.bipush 8, 2) := by decide +kernel
theorem d_FI_addEnd_27 : decode b_FI_addEnd 27 = .ok (.imul, 1) := by decide +kernel
theorem d_FI_addEnd_28 : decode b_FI_addEnd 28 = .ok (.invokestatic 48, 3) := by decide +kernel
theorem d_FI_addEnd_31 : decode b_FI_addEnd 31 = .ok (.invokestatic 58, 3) := by decide +kernel
theorem d_FI_addEnd_34 : decode b_FI_addEnd 34 = .ok (.putfield 35, 3) := by decide +kernel
theorem d_FI_addEnd_37 : decode b_FI_addEnd 37 = .ok (.aload_n 0, 1) := by decide +kernel
theorem d_FI_addEnd_38 : decode b_FI_addEnd 38 = .ok (.getfield 28, 3) := by decide +kernel
theorem d_FI_addEnd_41 : decode b_FI_addEnd 41 = .ok (.aload_n 0, 1) := by decide +kernel
theorem d_FI_addEnd_42 : decode b_FI_addEnd 42 = .ok (.getfield 35, 3) := by decide +kernel
theorem d_FI_addEnd_45 : decode b_FI_addEnd 45 = .ok (.arraylength, 1) := by decide +kernel
theorem d_FI_addEnd_46 : decode b_FI_addEnd 46 = .ok (.if_icmp .ge 29, 3) := by decide +kernel
theorem d_FI_addEnd_49 : decode b_FI_addEnd 49 = .ok (.aload_n 0, 1) := by decide +kernel
theorem d_FI_addEnd_50 : decode b_FI_addEnd 50 = .ok (.getfield 35, 3) := by decide +kernel
theorem d_FI_addEnd_53 : decode b_FI_addEnd 53 = .ok (.aload_n 0, 1) := by decide +kernel
theorem d_FI_addEnd_54 : decode b_FI_addEnd 54 = .ok (.getfield 28, 3) := by decide +kernel
theorem d_FI_addEnd_57 : decode b_FI_addEnd 57 = .ok (.lload_n 1, 1) := by decide +kernel
theorem d_FI_addEnd_58 : decode b_FI_addEnd 58 = .ok (.bipush 14, 2) := by decide +kernel
theorem d_FI_addEnd_60 : decode b_FI_addEnd 60 = .ok (.lshl, 1) := by decide +kernel
theorem d_FI_addEnd_61 : decode b_FI_addEnd 61 = .ok (.iload_n 3, 1) := by decide +kernel
theorem d_FI_addEnd_62 : decode b_FI_addEnd 62 = .ok (.i2l, 1) := by decide +kernel
theorem d_FI_addEnd_63 : decode b_FI_addEnd 63 = .ok (.lor, 1) := by decide +kernel
theorem d_FI_addEnd_64 : decode b_FI_addEnd 64 = .ok (.lastore, 1) := by decide +kernel
theorem d_FI_addEnd_65 : decode b_FI_addEnd 65 = .ok (.aload_n 0, 1) := by decide +kernel
theorem d_FI_addEnd_66 : decode b_FI_addEnd 66 = .ok (.dup, 1) := by decide +kernel
theorem d_FI_addEnd_67 : decode b_FI_addEnd 67 = .ok (.getfield 28, 3) := by decide +kernel
theorem d_FI_addEnd_70 : decode b_FI_addEnd 70 = .ok (.iconst 1, 1) := by decide +kernel
theorem d_FI_addEnd_71 : decode b_FI_addEnd 71 = .ok (.iadd, 1) := by decide +kernel
theorem d_FI_addEnd_72 : decode b_FI_addEnd 72 = .ok (.putfield 28, 3) := by decide +kernel
theorem d_FI_addEnd_75 : decode b_FI_addEnd 75 = .ok (.return_, 1) := by decide +kernel
theorem d_FI_addCut_0 : decode b_FI_addCut 0 = .ok (.aload_n 0, 1) := by decide +kernel
theorem d_FI_addCut_1 : decode b_FI_addCut 1 = .ok (.getfield 39, 3) := by decide +kernel
theorem d_FI_addCut_4 : decode b_FI_addCut 4 = .ok (.iload_n 1, 1) := by decide +kernel
theorem d_FI_addCut_5 : decode b_FI_addCut 5 = .ok (.iaload, 1) := by decide +kernel
theorem d_FI_addCut_6 : decode b_FI_addCut 6 = .ok (.iconst (-1), 1) := by decide +kernel
theorem d_FI_addCut_7 : decode b_FI_addCut 7 = .ok (.if_icmp .ne 20, 3) := by decide +kernel
theorem d_FI_addCut_10 : decode b_FI_addCut 10 = .ok (.aload_n 0, 1) := by decide +kernel
theorem d_FI_addCut_11 : decode b_FI_addCut 11 = .ok (.getfield 39, 3) := by decide +kernel
theorem d_FI_addCut_14 : decode b_FI_addCut 14 = .ok (.iload_n 1, 1) := by decide +kernel
theorem d_FI_addCut_15 : decode b_FI_addCut 15 = .ok (.iload_n 2, 1) := by decide +kernel
theorem d_FI_addCut_16 : decode b_FI_addCut 16 = .ok (.iastore, 1) := by decide +kernel
theorem d_FI_addCut_17 : decode b_FI_addCut 17 = .ok (.aload_n 0, 1) := by decide +kernel
theorem d_FI_addCut_18 : decode b_FI_addCut 18 = .ok (.dup, 1) := by decide +kernel
theorem d_FI_addCut_19 : decode b_FI_addCut 19 = .ok (.getfield 25, 3) := by decide +kernel
theorem d_FI_addCut_22 : decode b_FI_addCut 22 = .ok (.iconst 1, 1) := by decide +kernel
theorem d_FI_addCut_23 : decode b_FI_addCut 23 = .ok (.iadd, 1) := by decide +kernel
theorem d_FI_addCut_24 : decode b_FI_addCut 24 = .ok (.putfield 25, 3) := by decide +kernel
theorem d_FI_addCut_27 : decode b_FI_addCut 27 = .ok (.return_, 1) := by decide +kernel
theorem d_FI_sortEnds_0 : decode b_FI_sortEnds 0 = .ok (.aload_n 0, 1) := by decide +kernel
theorem d_FI_sortEnds_1 : decode b_FI_sortEnds 1 = .ok (.getfield 28, 3) := by decide +kernel
theorem d_FI_sortEnds_4 : decode b_FI_sortEnds 4 = .ok (.iconst 2, 1) := by decide +kernel
theorem d_FI_sortEnds_5 : decode b_FI_sortEnds 5 = .ok (.idiv, 1) := by decide +kernel
theorem d_FI_sortEnds_6 : decode b_FI_sortEnds 6 = .ok (.istore_n 1, 1) := by decide +kernel
theorem d_FI_sortEnds_7 : decode b_FI_sortEnds 7 = .ok (.iload_n 1, 1) := by decide +kernel
theorem d_FI_sortEnds_8 : decode b_FI_sortEnds 8 = .ok (.ifCond .le 89, 3) := by decide +kernel
theorem d_FI_sortEnds_11 : decode b_FI_sortEnds 11 = .ok (.iload_n 1, 1) := by decide +kernel
theorem d_FI_sortEnds_12 : decode b_FI_sortEnds 12 = .ok (.istore_n 2, 1) := by decide +kernel
theorem d_FI_sortEnds_13 : decode b_FI_sortEnds 13 = .ok (.iload_n 2, 1) := by decide +kernel
theorem d_FI_sortEnds_14 : decode b_FI_sortEnds 14 = .ok (.aload_n 0, 1) := by decide +kernel
theorem d_FI_sortEnds_15 : decode b_FI_sortEnds 15 = .ok (.getfield 28, 3) := by decide +kernel
theorem d_FI_sortEnds_18 : decode b_FI_sortEnds 18 = .ok (.if_icmp .ge 72, 3) := by decide +kernel
theorem d_FI_sortEnds_21 : decode b_FI_sortEnds 21 = .ok (.aload_n 0, 1) := by decide +kernel
theorem d_FI_sortEnds_22 : decode b_FI_sortEnds 22 = .ok (.getfield 35, 3) := by decide +kernel
theorem d_FI_sortEnds_25 : decode b_FI_sortEnds 25 = .ok (.iload_n 2, 1) := by decide +kernel
theorem d_FI_sortEnds_26 : decode b_FI_sortEnds 26 = .ok (.laload, 1) := by decide +kernel
theorem d_FI_sortEnds_27 : decode b_FI_sortEnds 27 = .ok (.lstore_n 3, 1) := by decide +kernel
theorem d_FI_sortEnds_28 : decode b_FI_sortEnds 28 = .ok (.iload_n 2, 1) := by decide +kernel
theorem d_FI_sortEnds_29 : decode b_FI_sortEnds 29 = .ok (.istore 5, 2) := by decide +kernel
theorem d_FI_sortEnds_31 : decode b_FI_sortEnds 31 = .ok (.iload 5, 2) := by decide +kernel
theorem d_FI_sortEnds_33 : decode b_FI_sortEnds 33 = .ok (.iload_n 1, 1) := by decide +kernel
theorem d_FI_sortEnds_34 : decode b_FI_sortEnds 34 = .ok (.if_icmp .lt 42, 3) := by decide +kernel
theorem d_FI_sortEnds_37 : decode b_FI_sortEnds 37 = .ok (.aload_n 0, 1) := by decide +kernel
theorem d_FI_sortEnds_38 : decode b_FI_sortEnds 38 = .ok (.getfield 35, 3) := by decide +kernel
theorem d_FI_sortEnds_41 : decode b_FI_sortEnds 41 = .ok (.iload 5, 2) := by decide +kernel
theorem d_FI_sortEnds_43 : decode b_FI_sortEnds 43 = .ok (.iload_n 1, 1) := by decide +kernel
theorem d_FI_sortEnds_44 : decode b_FI_sortEnds 44 = .ok (.isub, 1) := by decide +kernel
theorem d_FI_sortEnds_45 : decode b_FI_sortEnds 45 = .ok (.laload, 1) := by decide +kernel
theorem d_FI_sortEnds_46 : decode b_FI_sortEnds 46 = .ok (.lload_n 3, 1) := by decide +kernel
theorem d_FI_sortEnds_47 : decode b_FI_sortEnds 47 = .ok (.lcmp, 1) := by decide +kernel
theorem d_FI_sortEnds_48 : decode b_FI_sortEnds 48 = .ok (.ifCond .le 28, 3) := by decide +kernel
theorem d_FI_sortEnds_51 : decode b_FI_sortEnds 51 = .ok (.aload_n 0, 1) := by decide +kernel
theorem d_FI_sortEnds_52 : decode b_FI_sortEnds 52 = .ok (.getfield 35, 3) := by decide +kernel
theorem d_FI_sortEnds_55 : decode b_FI_sortEnds 55 = .ok (.iload 5, 2) := by decide +kernel
theorem d_FI_sortEnds_57 : decode b_FI_sortEnds 57 = .ok (.aload_n 0, 1) := by decide +kernel
theorem d_FI_sortEnds_58 : decode b_FI_sortEnds 58 = .ok (.getfield 35, 3) := by decide +kernel
theorem d_FI_sortEnds_61 : decode b_FI_sortEnds 61 = .ok (.iload 5, 2) := by decide +kernel
theorem d_FI_sortEnds_63 : decode b_FI_sortEnds 63 = .ok (.iload_n 1, 1) := by decide +kernel
theorem d_FI_sortEnds_64 : decode b_FI_sortEnds 64 = .ok (.isub, 1) := by decide +kernel
theorem d_FI_sortEnds_65 : decode b_FI_sortEnds 65 = .ok (.laload, 1) := by decide +kernel
theorem d_FI_sortEnds_66 : decode b_FI_sortEnds 66 = .ok (.lastore, 1) := by decide +kernel
theorem d_FI_sortEnds_67 : decode b_FI_sortEnds 67 = .ok (.iload 5, 2) := by decide +kernel
theorem d_FI_sortEnds_69 : decode b_FI_sortEnds 69 = .ok (.iload_n 1, 1) := by decide +kernel
theorem d_FI_sortEnds_70 : decode b_FI_sortEnds 70 = .ok (.isub, 1) := by decide +kernel
theorem d_FI_sortEnds_71 : decode b_FI_sortEnds 71 = .ok (.istore 5, 2) := by decide +kernel
theorem d_FI_sortEnds_73 : decode b_FI_sortEnds 73 = .ok (.goto (-42), 3) := by decide +kernel
theorem d_FI_sortEnds_76 : decode b_FI_sortEnds 76 = .ok (.aload_n 0, 1) := by decide +kernel
theorem d_FI_sortEnds_77 : decode b_FI_sortEnds 77 = .ok (.getfield 35, 3) := by decide +kernel
theorem d_FI_sortEnds_80 : decode b_FI_sortEnds 80 = .ok (.iload 5, 2) := by decide +kernel
theorem d_FI_sortEnds_82 : decode b_FI_sortEnds 82 = .ok (.lload_n 3, 1) := by decide +kernel
theorem d_FI_sortEnds_83 : decode b_FI_sortEnds 83 = .ok (.lastore, 1) := by decide +kernel
theorem d_FI_sortEnds_84 : decode b_FI_sortEnds 84 = .ok (.iinc 2 1, 3) := by decide +kernel
theorem d_FI_sortEnds_87 : decode b_FI_sortEnds 87 = .ok (.goto (-74), 3) := by decide +kernel
theorem d_FI_sortEnds_90 : decode b_FI_sortEnds 90 = .ok (.iload_n 1, 1) := by decide +kernel
theorem d_FI_sortEnds_91 : decode b_FI_sortEnds 91 = .ok (.iconst 2, 1) := by decide +kernel
theorem d_FI_sortEnds_92 : decode b_FI_sortEnds 92 = .ok (.idiv, 1) := by decide +kernel
theorem d_FI_sortEnds_93 : decode b_FI_sortEnds 93 = .ok (.istore_n 1, 1) := by decide +kernel
theorem d_FI_sortEnds_94 : decode b_FI_sortEnds 94 = .ok (.goto (-87), 3) := by decide +kernel
theorem d_FI_sortEnds_97 : decode b_FI_sortEnds 97 = .ok (.return_, 1) := by decide +kernel
theorem d_FI_hasEnd_0 : decode b_FI_hasEnd 0 = .ok (.iload_n 1, 1) := by decide +kernel
theorem d_FI_hasEnd_1 : decode b_FI_hasEnd 1 = .ok (.ifCond .lt 15, 3) := by decide +kernel
theorem d_FI_hasEnd_4 : decode b_FI_hasEnd 4 = .ok (.iload_n 1, 1) := by decide +kernel
theorem d_FI_hasEnd_5 : decode b_FI_hasEnd 5 = .ok (.aload_n 0, 1) := by decide +kernel
theorem d_FI_hasEnd_6 : decode b_FI_hasEnd 6 = .ok (.getfield 28, 3) := by decide +kernel
theorem d_FI_hasEnd_9 : decode b_FI_hasEnd 9 = .ok (.if_icmp .ge 7, 3) := by decide +kernel
theorem d_FI_hasEnd_12 : decode b_FI_hasEnd 12 = .ok (.iconst 1, 1) := by decide +kernel
theorem d_FI_hasEnd_13 : decode b_FI_hasEnd 13 = .ok (.goto 4, 3) := by decide +kernel
theorem d_FI_hasEnd_16 : decode b_FI_hasEnd 16 = .ok (.iconst 0, 1) := by decide +kernel
theorem d_FI_hasEnd_17 : decode b_FI_hasEnd 17 = .ok (.ireturn, 1) := by decide +kernel
theorem d_FI_outcomeAt_0 : decode b_FI_outcomeAt 0 = .ok (.aload_n 0, 1) := by decide +kernel
theorem d_FI_outcomeAt_1 : decode b_FI_outcomeAt 1 = .ok (.getfield 35, 3) := by decide +kernel
theorem d_FI_outcomeAt_4 : decode b_FI_outcomeAt 4 = .ok (.iload_n 1, 1) := by decide +kernel
theorem d_FI_outcomeAt_5 : decode b_FI_outcomeAt 5 = .ok (.laload, 1) := by decide +kernel
theorem d_FI_outcomeAt_6 : decode b_FI_outcomeAt 6 = .ok (.bipush 14, 2) := by decide +kernel
theorem d_FI_outcomeAt_8 : decode b_FI_outcomeAt 8 = .ok (.lshr, 1) := by decide +kernel
theorem d_FI_outcomeAt_9 : decode b_FI_outcomeAt 9 = .ok (.lreturn, 1) := by decide +kernel
theorem d_FI_hasOutcome_0 : decode b_FI_hasOutcome 0 = .ok (.iconst 0, 1) := by decide +kernel
theorem d_FI_hasOutcome_1 : decode b_FI_hasOutcome 1 = .ok (.istore_n 3, 1) := by decide +kernel
theorem d_FI_hasOutcome_2 : decode b_FI_hasOutcome 2 = .ok (.aload_n 0, 1) := by decide +kernel
theorem d_FI_hasOutcome_3 : decode b_FI_hasOutcome 3 = .ok (.getfield 28, 3) := by decide +kernel
theorem d_FI_hasOutcome_6 : decode b_FI_hasOutcome 6 = .ok (.istore 4, 2) := by decide +kernel
theorem d_FI_hasOutcome_8 : decode b_FI_hasOutcome 8 = .ok (.iload_n 3, 1) := by decide +kernel
theorem d_FI_hasOutcome_9 : decode b_FI_hasOutcome 9 = .ok (.iload 4, 2) := by decide +kernel
theorem d_FI_hasOutcome_11 : decode b_FI_hasOutcome 11 = .ok (.if_icmp .ge 37, 3) := by decide +kernel
theorem d_FI_hasOutcome_14 : decode b_FI_hasOutcome 14 = .ok (.iload_n 3, 1) := by decide +kernel
theorem d_FI_hasOutcome_15 : decode b_FI_hasOutcome 15 = .ok (.iload 4, 2) := by decide +kernel
theorem d_FI_hasOutcome_17 : decode b_FI_hasOutcome 17 = .ok (.iadd, 1) := by decide +kernel
theorem d_FI_hasOutcome_18 : decode b_FI_hasOutcome 18 = .ok (.iconst 2, 1) := by decide +kernel
theorem d_FI_hasOutcome_19 : decode b_FI_hasOutcome 19 = .ok (.idiv, 1) := by decide +kernel
theorem d_FI_hasOutcome_20 : decode b_FI_hasOutcome 20 = .ok (.istore 5, 2) := by decide +kernel
theorem d_FI_hasOutcome_22 : decode b_FI_hasOutcome 22 = .ok (.aload_n 0, 1) := by decide +kernel
theorem d_FI_hasOutcome_23 : decode b_FI_hasOutcome 23 = .ok (.iload 5, 2) := by decide +kernel
theorem d_FI_hasOutcome_25 : decode b_FI_hasOutcome 25 = .ok (.invokevirtual 61, 3) := by decide +kernel
theorem d_FI_hasOutcome_28 : decode b_FI_hasOutcome 28 = .ok (.lload_n 1, 1) := by decide +kernel
theorem d_FI_hasOutcome_29 : decode b_FI_hasOutcome 29 = .ok (.lcmp, 1) := by decide +kernel
theorem d_FI_hasOutcome_30 : decode b_FI_hasOutcome 30 = .ok (.ifCond .ge 11, 3) := by decide +kernel
theorem d_FI_hasOutcome_33 : decode b_FI_hasOutcome 33 = .ok (.iload 5, 2) := by decide +kernel
theorem d_FI_hasOutcome_35 : decode b_FI_hasOutcome 35 = .ok (.iconst 1, 1) := by decide +kernel
theorem d_FI_hasOutcome_36 : decode b_FI_hasOutcome 36 = .ok (.iadd, 1) := by decide +kernel
theorem d_FI_hasOutcome_37 : decode b_FI_hasOutcome 37 = .ok (.istore_n 3, 1) := by decide +kernel
theorem d_FI_hasOutcome_38 : decode b_FI_hasOutcome 38 = .ok (.goto 7, 3) := by decide +kernel
theorem d_FI_hasOutcome_41 : decode b_FI_hasOutcome 41 = .ok (.iload 5, 2) := by decide +kernel
theorem d_FI_hasOutcome_43 : decode b_FI_hasOutcome 43 = .ok (.istore 4, 2) := by decide +kernel
theorem d_FI_hasOutcome_45 : decode b_FI_hasOutcome 45 = .ok (.goto (-37), 3) := by decide +kernel
theorem d_FI_hasOutcome_48 : decode b_FI_hasOutcome 48 = .ok (.iload_n 3, 1) := by decide +kernel
theorem d_FI_hasOutcome_49 : decode b_FI_hasOutcome 49 = .ok (.aload_n 0, 1) := by decide +kernel
theorem d_FI_hasOutcome_50 : decode b_FI_hasOutcome 50 = .ok (.getfield 28, 3) := by decide +kernel
theorem d_FI_hasOutcome_53 : decode b_FI_hasOutcome 53 = .ok (.if_icmp .ge 17, 3) := by decide +kernel
theorem d_FI_hasOutcome_56 : decode b_FI_hasOutcome 56 = .ok (.aload_n 0, 1) := by decide +kernel
theorem d_FI_hasOutcome_57 : decode b_FI_hasOutcome 57 = .ok (.iload_n 3, 1) := by decide +kernel
theorem d_FI_hasOutcome_58 : decode b_FI_hasOutcome 58 = .ok (.invokevirtual 61, 3) := by decide +kernel
theorem d_FI_hasOutcome_61 : decode b_FI_hasOutcome 61 = .ok (.lload_n 1, 1) := by decide +kernel
theorem d_FI_hasOutcome_62 : decode b_FI_hasOutcome 62 = .ok (.lcmp, 1) := by decide +kernel
theorem d_FI_hasOutcome_63 : decode b_FI_hasOutcome 63 = .ok (.ifCond .ne 7, 3) := by decide +kernel
theorem d_FI_hasOutcome_66 : decode b_FI_hasOutcome 66 = .ok (.iconst 1, 1) := by decide +kernel
theorem d_FI_hasOutcome_67 : decode b_FI_hasOutcome 67 = .ok (.goto 4, 3) := by decide +kernel
theorem d_FI_hasOutcome_70 : decode b_FI_hasOutcome 70 = .ok (.iconst 0, 1) := by decide +kernel
theorem d_FI_hasOutcome_71 : decode b_FI_hasOutcome 71 = .ok (.ireturn, 1) := by decide +kernel
theorem d_FI_stepOfRow_0 : decode b_FI_stepOfRow 0 = .ok (.aload_n 0, 1) := by decide +kernel
theorem d_FI_stepOfRow_1 : decode b_FI_stepOfRow 1 = .ok (.getfield 35, 3) := by decide +kernel
theorem d_FI_stepOfRow_4 : decode b_FI_stepOfRow 4 = .ok (.iload_n 1, 1) := by decide +kernel
theorem d_FI_stepOfRow_5 : decode b_FI_stepOfRow 5 = .ok (.laload, 1) := by decide +kernel
theorem d_FI_stepOfRow_6 : decode b_FI_stepOfRow 6 = .ok (.l2i, 1) := by decide +kernel
theorem d_FI_stepOfRow_7 : decode b_FI_stepOfRow 7 = .ok (.sipush 16383, 3) := by decide +kernel
theorem d_FI_stepOfRow_10 : decode b_FI_stepOfRow 10 = .ok (.iand, 1) := by decide +kernel
theorem d_FI_stepOfRow_11 : decode b_FI_stepOfRow 11 = .ok (.istore_n 3, 1) := by decide +kernel
theorem d_FI_stepOfRow_12 : decode b_FI_stepOfRow 12 = .ok (.iconst 0, 1) := by decide +kernel
theorem d_FI_stepOfRow_13 : decode b_FI_stepOfRow 13 = .ok (.istore 4, 2) := by decide +kernel
theorem d_FI_stepOfRow_15 : decode b_FI_stepOfRow 15 = .ok (.iload_n 3, 1) := by decide +kernel
theorem d_FI_stepOfRow_16 : decode b_FI_stepOfRow 16 = .ok (.istore 5, 2) := by decide +kernel
theorem d_FI_stepOfRow_18 : decode b_FI_stepOfRow 18 = .ok (.iload 5, 2) := by decide +kernel
theorem d_FI_stepOfRow_20 : decode b_FI_stepOfRow 20 = .ok (.ifCond .le 24, 3) := by decide +kernel
theorem d_FI_stepOfRow_23 : decode b_FI_stepOfRow 23 = .ok (.iload 4, 2) := by decide +kernel
theorem d_FI_stepOfRow_25 : decode b_FI_stepOfRow 25 = .ok (.bipush 40, 2) := by decide +kernel
theorem d_FI_stepOfRow_27 : decode b_FI_stepOfRow 27 = .ok (.if_icmp .ge 17, 3) := by decide +kernel
theorem d_FI_stepOfRow_30 : decode b_FI_stepOfRow 30 = .ok (.iinc 4 1, 3) := by decide +kernel
theorem d_FI_stepOfRow_33 : decode b_FI_stepOfRow 33 = .ok (.aload_n 0, 1) := by decide +kernel
theorem d_FI_stepOfRow_34 : decode b_FI_stepOfRow 34 = .ok (.iload 5, 2) := by decide +kernel
theorem d_FI_stepOfRow_36 : decode b_FI_stepOfRow 36 = .ok (.invokevirtual 65, 3) := by decide +kernel
theorem d_FI_stepOfRow_39 : decode b_FI_stepOfRow 39 = .ok (.istore 5, 2) := by decide +kernel
theorem d_FI_stepOfRow_41 : decode b_FI_stepOfRow 41 = .ok (.goto (-23), 3) := by decide +kernel
theorem d_FI_stepOfRow_44 : decode b_FI_stepOfRow 44 = .ok (.iload_n 2, 1) := by decide +kernel
theorem d_FI_stepOfRow_45 : decode b_FI_stepOfRow 45 = .ok (.iload 4, 2) := by decide +kernel
theorem d_FI_stepOfRow_47 : decode b_FI_stepOfRow 47 = .ok (.if_icmp .lt 5, 3) := by decide +kernel
theorem d_FI_stepOfRow_50 : decode b_FI_stepOfRow 50 = .ok (.iconst (-1), 1) := by decide +kernel
theorem d_FI_stepOfRow_51 : decode b_FI_stepOfRow 51 = .ok (.ireturn, 1) := by decide +kernel
theorem d_FI_stepOfRow_52 : decode b_FI_stepOfRow 52 = .ok (.iload_n 3, 1) := by decide +kernel
theorem d_FI_stepOfRow_53 : decode b_FI_stepOfRow 53 = .ok (.istore 5, 2) := by decide +kernel
theorem d_FI_stepOfRow_55 : decode b_FI_stepOfRow 55 = .ok (.iload 4, 2) := by decide +kernel
theorem d_FI_stepOfRow_57 : decode b_FI_stepOfRow 57 = .ok (.iconst 1, 1) := by decide +kernel
theorem d_FI_stepOfRow_58 : decode b_FI_stepOfRow 58 = .ok (.isub, 1) := by decide +kernel
theorem d_FI_stepOfRow_59 : decode b_FI_stepOfRow 59 = .ok (.istore 6, 2) := by decide +kernel
theorem d_FI_stepOfRow_61 : decode b_FI_stepOfRow 61 = .ok (.iload 6, 2) := by decide +kernel
theorem d_FI_stepOfRow_63 : decode b_FI_stepOfRow 63 = .ok (.iload_n 2, 1) := by decide +kernel
theorem d_FI_stepOfRow_64 : decode b_FI_stepOfRow 64 = .ok (.if_icmp .le 17, 3) := by decide +kernel
theorem d_FI_stepOfRow_67 : decode b_FI_stepOfRow 67 = .ok (.aload_n 0, 1) := by decide +kernel
theorem d_FI_stepOfRow_68 : decode b_FI_stepOfRow 68 = .ok (.iload 5, 2) := by decide +kernel
theorem d_FI_stepOfRow_70 : decode b_FI_stepOfRow 70 = .ok (.invokevirtual 65, 3) := by decide +kernel
theorem d_FI_stepOfRow_73 : decode b_FI_stepOfRow 73 = .ok (.istore 5, 2) := by decide +kernel
theorem d_FI_stepOfRow_75 : decode b_FI_stepOfRow 75 = .ok (.iinc 6 (-1), 3) := by decide +kernel
theorem d_FI_stepOfRow_78 : decode b_FI_stepOfRow 78 = .ok (.goto (-17), 3) := by decide +kernel
theorem d_FI_stepOfRow_81 : decode b_FI_stepOfRow 81 = .ok (.aload_n 0, 1) := by decide +kernel
theorem d_FI_stepOfRow_82 : decode b_FI_stepOfRow 82 = .ok (.getfield 31, 3) := by decide +kernel
theorem d_FI_stepOfRow_85 : decode b_FI_stepOfRow 85 = .ok (.iload 5, 2) := by decide +kernel
theorem d_FI_stepOfRow_87 : decode b_FI_stepOfRow 87 = .ok (.iaload, 1) := by decide +kernel
theorem d_FI_stepOfRow_88 : decode b_FI_stepOfRow 88 = .ok (.bipush 31, 2) := by decide +kernel
theorem d_FI_stepOfRow_90 : decode b_FI_stepOfRow 90 = .ok (.iand, 1) := by decide +kernel
theorem d_FI_stepOfRow_91 : decode b_FI_stepOfRow 91 = .ok (.ireturn, 1) := by decide +kernel
theorem d_FI_before_0 : decode b_FI_before 0 = .ok (.aload_n 0, 1) := by decide +kernel
theorem d_FI_before_1 : decode b_FI_before 1 = .ok (.getfield 31, 3) := by decide +kernel
theorem d_FI_before_4 : decode b_FI_before 4 = .ok (.iload_n 1, 1) := by decide +kernel
theorem d_FI_before_5 : decode b_FI_before 5 = .ok (.iaload, 1) := by decide +kernel
theorem d_FI_before_6 : decode b_FI_before 6 = .ok (.iconst 5, 1) := by decide +kernel
theorem d_FI_before_7 : decode b_FI_before 7 = .ok (.ishr, 1) := by decide +kernel
theorem d_FI_before_8 : decode b_FI_before 8 = .ok (.ireturn, 1) := by decide +kernel
theorem d_FI_cutAt_0 : decode b_FI_cutAt 0 = .ok (.iload_n 1, 1) := by decide +kernel
theorem d_FI_cutAt_1 : decode b_FI_cutAt 1 = .ok (.istore_n 2, 1) := by decide +kernel
theorem d_FI_cutAt_2 : decode b_FI_cutAt 2 = .ok (.iconst 0, 1) := by decide +kernel
theorem d_FI_cutAt_3 : decode b_FI_cutAt 3 = .ok (.istore_n 3, 1) := by decide +kernel
theorem d_FI_cutAt_4 : decode b_FI_cutAt 4 = .ok (.iload_n 3, 1) := by decide +kernel
theorem d_FI_cutAt_5 : decode b_FI_cutAt 5 = .ok (.sipush 256, 3) := by decide +kernel
theorem d_FI_cutAt_8 : decode b_FI_cutAt 8 = .ok (.if_icmp .ge 28, 3) := by decide +kernel
theorem d_FI_cutAt_11 : decode b_FI_cutAt 11 = .ok (.aload_n 0, 1) := by decide +kernel
theorem d_FI_cutAt_12 : decode b_FI_cutAt 12 = .ok (.getfield 39, 3) := by decide +kernel
theorem d_FI_cutAt_15 : decode b_FI_cutAt 15 = .ok (.iload_n 3, 1) := by decide +kernel
theorem d_FI_cutAt_16 : decode b_FI_cutAt 16 = .ok (.iaload, 1) := by decide +kernel
theorem d_FI_cutAt_17 : decode b_FI_cutAt 17 = .ok (.iconst (-1), 1) := by decide +kernel
theorem d_FI_cutAt_18 : decode b_FI_cutAt 18 = .ok (.if_icmp .eq 12, 3) := by decide +kernel
theorem d_FI_cutAt_21 : decode b_FI_cutAt 21 = .ok (.iload_n 2, 1) := by decide +kernel
theorem d_FI_cutAt_22 : decode b_FI_cutAt 22 = .ok (.ifCond .ne 5, 3) := by decide +kernel
theorem d_FI_cutAt_25 : decode b_FI_cutAt 25 = .ok (.iload_n 3, 1) := by decide +kernel
theorem d_FI_cutAt_26 : decode b_FI_cutAt 26 = .ok (.ireturn, 1) := by decide +kernel
theorem d_FI_cutAt_27 : decode b_FI_cutAt 27 = .ok (.iinc 2 (-1), 3) := by decide +kernel
theorem d_FI_cutAt_30 : decode b_FI_cutAt 30 = .ok (.iinc 3 1, 3) := by decide +kernel
theorem d_FI_cutAt_33 : decode b_FI_cutAt 33 = .ok (.goto (-29), 3) := by decide +kernel
theorem d_FI_cutAt_36 : decode b_FI_cutAt 36 = .ok (.iconst (-1), 1) := by decide +kernel
theorem d_FI_cutAt_37 : decode b_FI_cutAt 37 = .ok (.ireturn, 1) := by decide +kernel
theorem d_FI_fewestSteps_0 : decode b_FI_fewestSteps 0 = .ok (.iconst (-1), 1) := by decide +kernel
theorem d_FI_fewestSteps_1 : decode b_FI_fewestSteps 1 = .ok (.istore_n 3, 1) := by decide +kernel
theorem d_FI_fewestSteps_2 : decode b_FI_fewestSteps 2 = .ok (.iconst 0, 1) := by decide +kernel
theorem d_FI_fewestSteps_3 : decode b_FI_fewestSteps 3 = .ok (.istore 4, 2) := by decide +kernel
theorem d_FI_fewestSteps_5 : decode b_FI_fewestSteps 5 = .ok (.iload 4, 2) := by decide +kernel
theorem d_FI_fewestSteps_7 : decode b_FI_fewestSteps 7 = .ok (.sipush 256, 3) := by decide +kernel
theorem d_FI_fewestSteps_10 : decode b_FI_fewestSteps 10 = .ok (.if_icmp .ge 54, 3) := by decide +kernel
theorem d_FI_fewestSteps_13 : decode b_FI_fewestSteps 13 = .ok (.aload_n 0, 1) := by decide +kernel
theorem d_FI_fewestSteps_14 : decode b_FI_fewestSteps 14 = .ok (.getfield 39, 3) := by decide +kernel
theorem d_FI_fewestSteps_17 : decode b_FI_fewestSteps 17 = .ok (.iload 4, 2) := by decide +kernel
theorem d_FI_fewestSteps_19 : decode b_FI_fewestSteps 19 = .ok (.iaload, 1) := by decide +kernel
theorem d_FI_fewestSteps_20 : decode b_FI_fewestSteps 20 = .ok (.istore 5, 2) := by decide +kernel
theorem d_FI_fewestSteps_22 : decode b_FI_fewestSteps 22 = .ok (.iload 5, 2) := by decide +kernel
theorem d_FI_fewestSteps_24 : decode b_FI_fewestSteps 24 = .ok (.iconst (-1), 1) := by decide +kernel
theorem d_FI_fewestSteps_25 : decode b_FI_fewestSteps 25 = .ok (.if_icmp .eq 33, 3) := by decide +kernel
theorem d_FI_fewestSteps_28 : decode b_FI_fewestSteps 28 = .ok (.iload 4, 2) := by decide +kernel
theorem d_FI_fewestSteps_30 : decode b_FI_fewestSteps 30 = .ok (.iload_n 1, 1) := by decide +kernel
theorem d_FI_fewestSteps_31 : decode b_FI_fewestSteps 31 = .ok (.invokestatic 69, 3) := by decide +kernel
theorem d_FI_fewestSteps_34 : decode b_FI_fewestSteps 34 = .ok (.ishr, 1) := by decide +kernel
theorem d_FI_fewestSteps_35 : decode b_FI_fewestSteps 35 = .ok (.iconst 3, 1) := by decide +kernel
theorem d_FI_fewestSteps_36 : decode b_FI_fewestSteps 36 = .ok (.iand, 1) := by decide +kernel
theorem d_FI_fewestSteps_37 : decode b_FI_fewestSteps 37 = .ok (.iload_n 2, 1) := by decide +kernel
theorem d_FI_fewestSteps_38 : decode b_FI_fewestSteps 38 = .ok (.if_icmp .ne 20, 3) := by decide +kernel
theorem d_FI_fewestSteps_41 : decode b_FI_fewestSteps 41 = .ok (.iload_n 3, 1) := by decide +kernel
theorem d_FI_fewestSteps_42 : decode b_FI_fewestSteps 42 = .ok (.iconst (-1), 1) := by decide +kernel
theorem d_FI_fewestSteps_43 : decode b_FI_fewestSteps 43 = .ok (.if_icmp .ne 8, 3) := by decide +kernel
theorem d_FI_fewestSteps_46 : decode b_FI_fewestSteps 46 = .ok (.iload 5, 2) := by decide +kernel
theorem d_FI_fewestSteps_48 : decode b_FI_fewestSteps 48 = .ok (.goto 9, 3) := by decide +kernel
theorem d_FI_fewestSteps_51 : decode b_FI_fewestSteps 51 = .ok (.iload_n 3, 1) := by decide +kernel
theorem d_FI_fewestSteps_52 : decode b_FI_fewestSteps 52 = .ok (.iload 5, 2) := by decide +kernel
theorem d_FI_fewestSteps_54 : decode b_FI_fewestSteps 54 = .ok (.invokestatic 48, 3) := by decide +kernel
theorem d_FI_fewestSteps_57 : decode b_FI_fewestSteps 57 = .ok (.istore_n 3, 1) := by decide +kernel
theorem d_FI_fewestSteps_58 : decode b_FI_fewestSteps 58 = .ok (.iinc 4 1, 3) := by decide +kernel
theorem d_FI_fewestSteps_61 : decode b_FI_fewestSteps 61 = .ok (.goto (-56), 3) := by decide +kernel
theorem d_FI_fewestSteps_64 : decode b_FI_fewestSteps 64 = .ok (.iload_n 3, 1) := by decide +kernel
theorem d_FI_fewestSteps_65 : decode b_FI_fewestSteps 65 = .ok (.ireturn, 1) := by decide +kernel
theorem d_FI_leastOfOne_0 : decode b_FI_leastOfOne 0 = .ok (.iconst 0, 1) := by decide +kernel
theorem d_FI_leastOfOne_1 : decode b_FI_leastOfOne 1 = .ok (.istore_n 2, 1) := by decide +kernel
theorem d_FI_leastOfOne_2 : decode b_FI_leastOfOne 2 = .ok (.iload_n 2, 1) := by decide +kernel
theorem d_FI_leastOfOne_3 : decode b_FI_leastOfOne 3 = .ok (.sipush 12000, 3) := by decide +kernel
theorem d_FI_leastOfOne_6 : decode b_FI_leastOfOne 6 = .ok (.if_icmp .ge 91, 3) := by decide +kernel
theorem d_FI_leastOfOne_9 : decode b_FI_leastOfOne 9 = .ok (.iload_n 2, 1) := by decide +kernel
theorem d_FI_leastOfOne_10 : decode b_FI_leastOfOne 10 = .ok (.aload_n 0, 1) := by decide +kernel
theorem d_FI_leastOfOne_11 : decode b_FI_leastOfOne 11 = .ok (.getfield 28, 3) := by decide +kernel
theorem d_FI_leastOfOne_14 : decode b_FI_leastOfOne 14 = .ok (.if_icmp .lt 15, 3) := by decide +kernel
theorem d_FI_leastOfOne_17 : decode b_FI_leastOfOne 17 = .ok (.iload_n 2, 1) := by decide +kernel
theorem d_FI_leastOfOne_18 : decode b_FI_leastOfOne 18 = .ok (.aload_n 1, 1) := by decide +kernel
theorem d_FI_leastOfOne_19 : decode b_FI_leastOfOne 19 = .ok (.getfield 28, 3) := by decide +kernel
theorem d_FI_leastOfOne_22 : decode b_FI_leastOfOne 22 = .ok (.if_icmp .lt 7, 3) := by decide +kernel
theorem d_FI_leastOfOne_25 : decode b_FI_leastOfOne 25 = .ok (.ldc2_w 74, 3) := by decide +kernel
theorem d_FI_leastOfOne_28 : decode b_FI_leastOfOne 28 = .ok (.lreturn, 1) := by decide +kernel
theorem d_FI_leastOfOne_29 : decode b_FI_leastOfOne 29 = .ok (.iload_n 2, 1) := by decide +kernel
theorem d_FI_leastOfOne_30 : decode b_FI_leastOfOne 30 = .ok (.aload_n 0, 1) := by decide +kernel
theorem d_FI_leastOfOne_31 : decode b_FI_leastOfOne 31 = .ok (.getfield 28, 3) := by decide +kernel
theorem d_FI_leastOfOne_34 : decode b_FI_leastOfOne 34 = .ok (.if_icmp .lt 9, 3) := by decide +kernel
theorem d_FI_leastOfOne_37 : decode b_FI_leastOfOne 37 = .ok (.aload_n 1, 1) := by decide +kernel
theorem d_FI_leastOfOne_38 : decode b_FI_leastOfOne 38 = .ok (.iload_n 2, 1) := by decide +kernel
theorem d_FI_leastOfOne_39 : decode b_FI_leastOfOne 39 = .ok (.invokevirtual 61, 3) := by decide +kernel
theorem d_FI_leastOfOne_42 : decode b_FI_leastOfOne 42 = .ok (.lreturn, 1) := by decide +kernel
theorem d_FI_leastOfOne_43 : decode b_FI_leastOfOne 43 = .ok (.iload_n 2, 1) := by decide +kernel
theorem d_FI_leastOfOne_44 : decode b_FI_leastOfOne 44 = .ok (.aload_n 1, 1) := by decide +kernel
theorem d_FI_leastOfOne_45 : decode b_FI_leastOfOne 45 = .ok (.getfield 28, 3) := by decide +kernel
theorem d_FI_leastOfOne_48 : decode b_FI_leastOfOne 48 = .ok (.if_icmp .ge 17, 3) := by decide +kernel
theorem d_FI_leastOfOne_51 : decode b_FI_leastOfOne 51 = .ok (.aload_n 0, 1) := by decide +kernel
theorem d_FI_leastOfOne_52 : decode b_FI_leastOfOne 52 = .ok (.iload_n 2, 1) := by decide +kernel
theorem d_FI_leastOfOne_53 : decode b_FI_leastOfOne 53 = .ok (.invokevirtual 61, 3) := by decide +kernel
theorem d_FI_leastOfOne_56 : decode b_FI_leastOfOne 56 = .ok (.aload_n 1, 1) := by decide +kernel
theorem d_FI_leastOfOne_57 : decode b_FI_leastOfOne 57 = .ok (.iload_n 2, 1) := by decide +kernel
theorem d_FI_leastOfOne_58 : decode b_FI_leastOfOne 58 = .ok (.invokevirtual 61, 3) := by decide +kernel
theorem d_FI_leastOfOne_61 : decode b_FI_leastOfOne 61 = .ok (.lcmp, 1) := by decide +kernel
theorem d_FI_leastOfOne_62 : decode b_FI_leastOfOne 62 = .ok (.ifCond .ge 9, 3) := by decide +kernel
theorem d_FI_leastOfOne_65 : decode b_FI_leastOfOne 65 = .ok (.aload_n 0, 1) := by decide +kernel
theorem d_FI_leastOfOne_66 : decode b_FI_leastOfOne 66 = .ok (.iload_n 2, 1) := by decide +kernel
theorem d_FI_leastOfOne_67 : decode b_FI_leastOfOne 67 = .ok (.invokevirtual 61, 3) := by decide +kernel
theorem d_FI_leastOfOne_70 : decode b_FI_leastOfOne 70 = .ok (.lreturn, 1) := by decide +kernel
theorem d_FI_leastOfOne_71 : decode b_FI_leastOfOne 71 = .ok (.aload_n 0, 1) := by decide +kernel
theorem d_FI_leastOfOne_72 : decode b_FI_leastOfOne 72 = .ok (.iload_n 2, 1) := by decide +kernel
theorem d_FI_leastOfOne_73 : decode b_FI_leastOfOne 73 = .ok (.invokevirtual 61, 3) := by decide +kernel
theorem d_FI_leastOfOne_76 : decode b_FI_leastOfOne 76 = .ok (.aload_n 1, 1) := by decide +kernel
theorem d_FI_leastOfOne_77 : decode b_FI_leastOfOne 77 = .ok (.iload_n 2, 1) := by decide +kernel
theorem d_FI_leastOfOne_78 : decode b_FI_leastOfOne 78 = .ok (.invokevirtual 61, 3) := by decide +kernel
theorem d_FI_leastOfOne_81 : decode b_FI_leastOfOne 81 = .ok (.lcmp, 1) := by decide +kernel
theorem d_FI_leastOfOne_82 : decode b_FI_leastOfOne 82 = .ok (.ifCond .le 9, 3) := by decide +kernel
theorem d_FI_leastOfOne_85 : decode b_FI_leastOfOne 85 = .ok (.aload_n 1, 1) := by decide +kernel
theorem d_FI_leastOfOne_86 : decode b_FI_leastOfOne 86 = .ok (.iload_n 2, 1) := by decide +kernel
theorem d_FI_leastOfOne_87 : decode b_FI_leastOfOne 87 = .ok (.invokevirtual 61, 3) := by decide +kernel
theorem d_FI_leastOfOne_90 : decode b_FI_leastOfOne 90 = .ok (.lreturn, 1) := by decide +kernel
theorem d_FI_leastOfOne_91 : decode b_FI_leastOfOne 91 = .ok (.iinc 2 1, 3) := by decide +kernel
theorem d_FI_leastOfOne_94 : decode b_FI_leastOfOne 94 = .ok (.goto (-92), 3) := by decide +kernel
theorem d_FI_leastOfOne_97 : decode b_FI_leastOfOne 97 = .ok (.ldc2_w 74, 3) := by decide +kernel
theorem d_FI_leastOfOne_100 : decode b_FI_leastOfOne 100 = .ok (.lreturn, 1) := by decide +kernel
