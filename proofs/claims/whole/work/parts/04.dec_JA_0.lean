theorem d_JA_copyOf_aII_0 : decode b_JA_copyOf_aII 0 = .ok (.iload_n 1, 1) := by decide +kernel
theorem d_JA_copyOf_aII_1 : decode b_JA_copyOf_aII 1 = .ok (.aload_n 0, 1) := by decide +kernel
theorem d_JA_copyOf_aII_2 : decode b_JA_copyOf_aII 2 = .ok (.arraylength, 1) := by decide +kernel
theorem d_JA_copyOf_aII_3 : decode b_JA_copyOf_aII 3 = .ok (.if_icmp .ne 11, 3) := by decide +kernel
theorem d_JA_copyOf_aII_6 : decode b_JA_copyOf_aII 6 = .ok (.aload_n 0, 1) := by decide +kernel
theorem d_JA_copyOf_aII_7 : decode b_JA_copyOf_aII 7 = .ok (.invokevirtual 316, 3) := by decide +kernel
theorem d_JA_copyOf_aII_10 : decode b_JA_copyOf_aII 10 = .ok (.checkcast 317, 3) := by decide +kernel
theorem d_JA_copyOf_aII_13 : decode b_JA_copyOf_aII 13 = .ok (.areturn, 1) := by decide +kernel
theorem d_JA_copyOf_aII_14 : decode b_JA_copyOf_aII 14 = .ok (.iload_n 1, 1) := by decide +kernel
theorem d_JA_copyOf_aII_15 : decode b_JA_copyOf_aII 15 = .ok (.newarray .int, 2) := by decide +kernel
theorem d_JA_copyOf_aII_17 : decode b_JA_copyOf_aII 17 = .ok (.astore_n 2, 1) := by decide +kernel
theorem d_JA_copyOf_aII_18 : decode b_JA_copyOf_aII 18 = .ok (.aload_n 0, 1) := by decide +kernel
theorem d_JA_copyOf_aII_19 : decode b_JA_copyOf_aII 19 = .ok (.iconst 0, 1) := by decide +kernel
theorem d_JA_copyOf_aII_20 : decode b_JA_copyOf_aII 20 = .ok (.aload_n 2, 1) := by decide +kernel
theorem d_JA_copyOf_aII_21 : decode b_JA_copyOf_aII 21 = .ok (.iconst 0, 1) := by decide +kernel
theorem d_JA_copyOf_aII_22 : decode b_JA_copyOf_aII 22 = .ok (.aload_n 0, 1) := by decide +kernel
theorem d_JA_copyOf_aII_23 : decode b_JA_copyOf_aII 23 = .ok (.arraylength, 1) := by decide +kernel
theorem d_JA_copyOf_aII_24 : decode b_JA_copyOf_aII 24 = .ok (.iload_n 1, 1) := by decide +kernel
theorem d_JA_copyOf_aII_25 : decode b_JA_copyOf_aII 25 = .ok (.invokestatic 304, 3) := by decide +kernel
theorem d_JA_copyOf_aII_28 : decode b_JA_copyOf_aII 28 = .ok (.invokestatic 150, 3) := by decide +kernel
theorem d_JA_copyOf_aII_31 : decode b_JA_copyOf_aII 31 = .ok (.aload_n 2, 1) := by decide +kernel
theorem d_JA_copyOf_aII_32 : decode b_JA_copyOf_aII 32 = .ok (.areturn, 1) := by decide +kernel
theorem d_JA_copyOf_aJI_0 : decode b_JA_copyOf_aJI 0 = .ok (.iload_n 1, 1) := by decide +kernel
theorem d_JA_copyOf_aJI_1 : decode b_JA_copyOf_aJI 1 = .ok (.aload_n 0, 1) := by decide +kernel
theorem d_JA_copyOf_aJI_2 : decode b_JA_copyOf_aJI 2 = .ok (.arraylength, 1) := by decide +kernel
theorem d_JA_copyOf_aJI_3 : decode b_JA_copyOf_aJI 3 = .ok (.if_icmp .ne 11, 3) := by decide +kernel
theorem d_JA_copyOf_aJI_6 : decode b_JA_copyOf_aJI 6 = .ok (.aload_n 0, 1) := by decide +kernel
theorem d_JA_copyOf_aJI_7 : decode b_JA_copyOf_aJI 7 = .ok (.invokevirtual 319, 3) := by decide +kernel
theorem d_JA_copyOf_aJI_10 : decode b_JA_copyOf_aJI 10 = .ok (.checkcast 320, 3) := by decide +kernel
theorem d_JA_copyOf_aJI_13 : decode b_JA_copyOf_aJI 13 = .ok (.areturn, 1) := by decide +kernel
theorem d_JA_copyOf_aJI_14 : decode b_JA_copyOf_aJI 14 = .ok (.iload_n 1, 1) := by decide +kernel
theorem d_JA_copyOf_aJI_15 : decode b_JA_copyOf_aJI 15 = .ok (.newarray .long, 2) := by decide +kernel
theorem d_JA_copyOf_aJI_17 : decode b_JA_copyOf_aJI 17 = .ok (.astore_n 2, 1) := by decide +kernel
theorem d_JA_copyOf_aJI_18 : decode b_JA_copyOf_aJI 18 = .ok (.aload_n 0, 1) := by decide +kernel
theorem d_JA_copyOf_aJI_19 : decode b_JA_copyOf_aJI 19 = .ok (.iconst 0, 1) := by decide +kernel
theorem d_JA_copyOf_aJI_20 : decode b_JA_copyOf_aJI 20 = .ok (.aload_n 2, 1) := by decide +kernel
theorem d_JA_copyOf_aJI_21 : decode b_JA_copyOf_aJI 21 = .ok (.iconst 0, 1) := by decide +kernel
theorem d_JA_copyOf_aJI_22 : decode b_JA_copyOf_aJI 22 = .ok (.aload_n 0, 1) := by decide +kernel
theorem d_JA_copyOf_aJI_23 : decode b_JA_copyOf_aJI 23 = .ok (.arraylength, 1) := by decide +kernel
theorem d_JA_copyOf_aJI_24 : decode b_JA_copyOf_aJI 24 = .ok (.iload_n 1, 1) := by decide +kernel
theorem d_JA_copyOf_aJI_25 : decode b_JA_copyOf_aJI 25 = .ok (.invokestatic 304, 3) := by decide +kernel
theorem d_JA_copyOf_aJI_28 : decode b_JA_copyOf_aJI 28 = .ok (.invokestatic 150, 3) := by decide +kernel
theorem d_JA_copyOf_aJI_31 : decode b_JA_copyOf_aJI 31 = .ok (.aload_n 2, 1) := by decide +kernel
theorem d_JA_copyOf_aJI_32 : decode b_JA_copyOf_aJI 32 = .ok (.areturn, 1) := by decide +kernel
theorem d_JA_fill_aII_0 : decode b_JA_fill_aII 0 = .ok (.iconst 0, 1) := by decide +kernel
theorem d_JA_fill_aII_1 : decode b_JA_fill_aII 1 = .ok (.istore_n 2, 1) := by decide +kernel
theorem d_JA_fill_aII_2 : decode b_JA_fill_aII 2 = .ok (.aload_n 0, 1) := by decide +kernel
theorem d_JA_fill_aII_3 : decode b_JA_fill_aII 3 = .ok (.arraylength, 1) := by decide +kernel
theorem d_JA_fill_aII_4 : decode b_JA_fill_aII 4 = .ok (.istore_n 3, 1) := by decide +kernel
theorem d_JA_fill_aII_5 : decode b_JA_fill_aII 5 = .ok (.iload_n 2, 1) := by decide +kernel
theorem d_JA_fill_aII_6 : decode b_JA_fill_aII 6 = .ok (.iload_n 3, 1) := by decide +kernel
theorem d_JA_fill_aII_7 : decode b_JA_fill_aII 7 = .ok (.if_icmp .ge 13, 3) := by decide +kernel
theorem d_JA_fill_aII_10 : decode b_JA_fill_aII 10 = .ok (.aload_n 0, 1) := by decide +kernel
theorem d_JA_fill_aII_11 : decode b_JA_fill_aII 11 = .ok (.iload_n 2, 1) := by decide +kernel
theorem d_JA_fill_aII_12 : decode b_JA_fill_aII 12 = .ok (.iload_n 1, 1) := by decide +kernel
theorem d_JA_fill_aII_13 : decode b_JA_fill_aII 13 = .ok (.iastore, 1) := by decide +kernel
theorem d_JA_fill_aII_14 : decode b_JA_fill_aII 14 = .ok (.iinc 2 1, 3) := by decide +kernel
theorem d_JA_fill_aII_17 : decode b_JA_fill_aII 17 = .ok (.goto (-12), 3) := by decide +kernel
theorem d_JA_fill_aII_20 : decode b_JA_fill_aII 20 = .ok (.return_, 1) := by decide +kernel
theorem d_JA_fill_aIIII_0 : decode b_JA_fill_aIIII 0 = .ok (.aload_n 0, 1) := by decide +kernel
theorem d_JA_fill_aIIII_1 : decode b_JA_fill_aIIII 1 = .ok (.arraylength, 1) := by decide +kernel
theorem d_JA_fill_aIIII_2 : decode b_JA_fill_aIIII 2 = .ok (.iload_n 1, 1) := by decide +kernel
theorem d_JA_fill_aIIII_3 : decode b_JA_fill_aIIII 3 = .ok (.iload_n 2, 1) := by decide +kernel
theorem d_JA_fill_aIIII_4 : decode b_JA_fill_aIIII 4 = .ok (.invokestatic 13, 3) := by decide +kernel
theorem d_JA_fill_aIIII_7 : decode b_JA_fill_aIIII 7 = .ok (.iload_n 1, 1) := by decide +kernel
theorem d_JA_fill_aIIII_8 : decode b_JA_fill_aIIII 8 = .ok (.istore 4, 2) := by decide +kernel
theorem d_JA_fill_aIIII_10 : decode b_JA_fill_aIIII 10 = .ok (.iload 4, 2) := by decide +kernel
theorem d_JA_fill_aIIII_12 : decode b_JA_fill_aIIII 12 = .ok (.iload_n 2, 1) := by decide +kernel
theorem d_JA_fill_aIIII_13 : decode b_JA_fill_aIIII 13 = .ok (.if_icmp .ge 14, 3) := by decide +kernel
theorem d_JA_fill_aIIII_16 : decode b_JA_fill_aIIII 16 = .ok (.aload_n 0, 1) := by decide +kernel
theorem d_JA_fill_aIIII_17 : decode b_JA_fill_aIIII 17 = .ok (.iload 4, 2) := by decide +kernel
theorem d_JA_fill_aIIII_19 : decode b_JA_fill_aIIII 19 = .ok (.iload_n 3, 1) := by decide +kernel
theorem d_JA_fill_aIIII_20 : decode b_JA_fill_aIIII 20 = .ok (.iastore, 1) := by decide +kernel
theorem d_JA_fill_aIIII_21 : decode b_JA_fill_aIIII 21 = .ok (.iinc 4 1, 3) := by decide +kernel
theorem d_JA_fill_aIIII_24 : decode b_JA_fill_aIIII 24 = .ok (.goto (-14), 3) := by decide +kernel
theorem d_JA_fill_aIIII_27 : decode b_JA_fill_aIIII 27 = .ok (.return_, 1) := by decide +kernel
theorem d_JA_rangeCheck_0 : decode b_JA_rangeCheck 0 = .ok (.iload_n 1, 1) := by decide +kernel
theorem d_JA_rangeCheck_1 : decode b_JA_rangeCheck 1 = .ok (.iload_n 2, 1) := by decide +kernel
theorem d_JA_rangeCheck_2 : decode b_JA_rangeCheck 2 = .ok (.if_icmp .le 44, 3) := by decide +kernel
theorem d_JA_rangeCheck_5 : decode b_JA_rangeCheck 5 = .ok (.new 43, 3) := by decide +kernel
theorem d_JA_rangeCheck_8 : decode b_JA_rangeCheck 8 = .ok (.dup, 1) := by decide +kernel
theorem d_JA_rangeCheck_9 : decode b_JA_rangeCheck 9 = .ok (.new 45, 3) := by decide +kernel
theorem d_JA_rangeCheck_12 : decode b_JA_rangeCheck 12 = .ok (.dup, 1) := by decide +kernel
theorem d_JA_rangeCheck_13 : decode b_JA_rangeCheck 13 = .ok (.invokespecial 47, 3) := by decide +kernel
theorem d_JA_rangeCheck_16 : decode b_JA_rangeCheck 16 = .ok (.ldc 48, 2) := by decide +kernel
theorem d_JA_rangeCheck_18 : decode b_JA_rangeCheck 18 = .ok (.invokevirtual 50, 3) := by decide +kernel
theorem d_JA_rangeCheck_21 : decode b_JA_rangeCheck 21 = .ok (.iload_n 1, 1) := by decide +kernel
theorem d_JA_rangeCheck_22 : decode b_JA_rangeCheck 22 = .ok (.invokevirtual 54, 3) := by decide +kernel
theorem d_JA_rangeCheck_25 : decode b_JA_rangeCheck 25 = .ok (.ldc 57, 2) := by decide +kernel
theorem d_JA_rangeCheck_27 : decode b_JA_rangeCheck 27 = .ok (.invokevirtual 50, 3) := by decide +kernel
theorem d_JA_rangeCheck_30 : decode b_JA_rangeCheck 30 = .ok (.iload_n 2, 1) := by decide +kernel
theorem d_JA_rangeCheck_31 : decode b_JA_rangeCheck 31 = .ok (.invokevirtual 54, 3) := by decide +kernel
theorem d_JA_rangeCheck_34 : decode b_JA_rangeCheck 34 = .ok (.ldc 59, 2) := by decide +kernel
theorem d_JA_rangeCheck_36 : decode b_JA_rangeCheck 36 = .ok (.invokevirtual 50, 3) := by decide +kernel
theorem d_JA_rangeCheck_39 : decode b_JA_rangeCheck 39 = .ok (.invokevirtual 61, 3) := by decide +kernel
theorem d_JA_rangeCheck_42 : decode b_JA_rangeCheck 42 = .ok (.invokespecial 65, 3) := by decide +kernel
theorem d_JA_rangeCheck_45 : decode b_JA_rangeCheck 45 = .ok (.athrow, 1) := by decide +kernel
theorem d_JA_rangeCheck_46 : decode b_JA_rangeCheck 46 = .ok (.iload_n 1, 1) := by decide +kernel
theorem d_JA_rangeCheck_47 : decode b_JA_rangeCheck 47 = .ok (.ifCond .ge 12, 3) := by decide +kernel
theorem d_JA_rangeCheck_50 : decode b_JA_rangeCheck 50 = .ok (.new 68, 3) := by decide +kernel
theorem d_JA_rangeCheck_53 : decode b_JA_rangeCheck 53 = .ok (.dup, 1) := by decide +kernel
theorem d_JA_rangeCheck_54 : decode b_JA_rangeCheck 54 = .ok (.iload_n 1, 1) := by decide +kernel
theorem d_JA_rangeCheck_55 : decode b_JA_rangeCheck 55 = .ok (.invokespecial 70, 3) := by decide +kernel
theorem d_JA_rangeCheck_58 : decode b_JA_rangeCheck 58 = .ok (.athrow, 1) := by decide +kernel
theorem d_JA_rangeCheck_59 : decode b_JA_rangeCheck 59 = .ok (.iload_n 2, 1) := by decide +kernel
theorem d_JA_rangeCheck_60 : decode b_JA_rangeCheck 60 = .ok (.iload_n 0, 1) := by decide +kernel
theorem d_JA_rangeCheck_61 : decode b_JA_rangeCheck 61 = .ok (.if_icmp .le 12, 3) := by decide +kernel
theorem d_JA_rangeCheck_64 : decode b_JA_rangeCheck 64 = .ok (.new 68, 3) := by decide +kernel
theorem d_JA_rangeCheck_67 : decode b_JA_rangeCheck 67 = .ok (.dup, 1) := by decide +kernel
theorem d_JA_rangeCheck_68 : decode b_JA_rangeCheck 68 = .ok (.iload_n 2, 1) := by decide +kernel
theorem d_JA_rangeCheck_69 : decode b_JA_rangeCheck 69 = .ok (.invokespecial 70, 3) := by decide +kernel
theorem d_JA_rangeCheck_72 : decode b_JA_rangeCheck 72 = .ok (.athrow, 1) := by decide +kernel
theorem d_JA_rangeCheck_73 : decode b_JA_rangeCheck 73 = .ok (.return_, 1) := by decide +kernel
