theorem d_PR_init_0 : decode b_PR_init 0 = .ok (.aload_n 0, 1) := by decide +kernel
theorem d_PR_init_1 : decode b_PR_init 1 = .ok (.invokespecial 3, 3) := by decide +kernel
theorem d_PR_init_4 : decode b_PR_init 4 = .ok (.aload_n 0, 1) := by decide +kernel
theorem d_PR_init_5 : decode b_PR_init 5 = .ok (.bipush 20, 2) := by decide +kernel
theorem d_PR_init_7 : decode b_PR_init 7 = .ok (.newarray .int, 2) := by decide +kernel
theorem d_PR_init_9 : decode b_PR_init 9 = .ok (.putfield 9, 3) := by decide +kernel
theorem d_PR_init_12 : decode b_PR_init 12 = .ok (.aload_n 0, 1) := by decide +kernel
theorem d_PR_init_13 : decode b_PR_init 13 = .ok (.iconst 4, 1) := by decide +kernel
theorem d_PR_init_14 : decode b_PR_init 14 = .ok (.newarray .int, 2) := by decide +kernel
theorem d_PR_init_16 : decode b_PR_init 16 = .ok (.putfield 15, 3) := by decide +kernel
theorem d_PR_init_19 : decode b_PR_init 19 = .ok (.return_, 1) := by decide +kernel
theorem d_PR_canBe_0 : decode b_PR_canBe 0 = .ok (.iload_n 0, 1) := by decide +kernel
theorem d_PR_canBe_1 : decode b_PR_canBe 1 = .ok (.ifCond .lt 17, 3) := by decide +kernel
theorem d_PR_canBe_4 : decode b_PR_canBe 4 = .ok (.iload_n 0, 1) := by decide +kernel
theorem d_PR_canBe_5 : decode b_PR_canBe 5 = .ok (.iconst 4, 1) := by decide +kernel
theorem d_PR_canBe_6 : decode b_PR_canBe 6 = .ok (.if_icmp .ge 12, 3) := by decide +kernel
theorem d_PR_canBe_9 : decode b_PR_canBe 9 = .ok (.iload_n 1, 1) := by decide +kernel
theorem d_PR_canBe_10 : decode b_PR_canBe 10 = .ok (.ifCond .lt 8, 3) := by decide +kernel
theorem d_PR_canBe_13 : decode b_PR_canBe 13 = .ok (.iload_n 1, 1) := by decide +kernel
theorem d_PR_canBe_14 : decode b_PR_canBe 14 = .ok (.iconst 3, 1) := by decide +kernel
theorem d_PR_canBe_15 : decode b_PR_canBe 15 = .ok (.if_icmp .le 5, 3) := by decide +kernel
theorem d_PR_canBe_18 : decode b_PR_canBe 18 = .ok (.iconst 0, 1) := by decide +kernel
theorem d_PR_canBe_19 : decode b_PR_canBe 19 = .ok (.ireturn, 1) := by decide +kernel
theorem d_PR_canBe_20 : decode b_PR_canBe 20 = .ok (.iload_n 1, 1) := by decide +kernel
theorem d_PR_canBe_21 : decode b_PR_canBe 21 = .ok (.iconst 2, 1) := by decide +kernel
theorem d_PR_canBe_22 : decode b_PR_canBe 22 = .ok (.if_icmp .ne 17, 3) := by decide +kernel
theorem d_PR_canBe_25 : decode b_PR_canBe 25 = .ok (.iload_n 2, 1) := by decide +kernel
theorem d_PR_canBe_26 : decode b_PR_canBe 26 = .ok (.ifCond .ne 11, 3) := by decide +kernel
theorem d_PR_canBe_29 : decode b_PR_canBe 29 = .ok (.iload_n 3, 1) := by decide +kernel
theorem d_PR_canBe_30 : decode b_PR_canBe 30 = .ok (.ifCond .ne 7, 3) := by decide +kernel
theorem d_PR_canBe_33 : decode b_PR_canBe 33 = .ok (.iconst 1, 1) := by decide +kernel
theorem d_PR_canBe_34 : decode b_PR_canBe 34 = .ok (.goto 4, 3) := by decide +kernel
theorem d_PR_canBe_37 : decode b_PR_canBe 37 = .ok (.iconst 0, 1) := by decide +kernel
theorem d_PR_canBe_38 : decode b_PR_canBe 38 = .ok (.ireturn, 1) := by decide +kernel
theorem d_PR_canBe_39 : decode b_PR_canBe 39 = .ok (.iload_n 2, 1) := by decide +kernel
theorem d_PR_canBe_40 : decode b_PR_canBe 40 = .ok (.invokestatic 18, 3) := by decide +kernel
theorem d_PR_canBe_43 : decode b_PR_canBe 43 = .ok (.ifCond .eq 14, 3) := by decide +kernel
theorem d_PR_canBe_46 : decode b_PR_canBe 46 = .ok (.iload_n 3, 1) := by decide +kernel
theorem d_PR_canBe_47 : decode b_PR_canBe 47 = .ok (.invokestatic 18, 3) := by decide +kernel
theorem d_PR_canBe_50 : decode b_PR_canBe 50 = .ok (.ifCond .eq 7, 3) := by decide +kernel
theorem d_PR_canBe_53 : decode b_PR_canBe 53 = .ok (.iconst 1, 1) := by decide +kernel
theorem d_PR_canBe_54 : decode b_PR_canBe 54 = .ok (.goto 4, 3) := by decide +kernel
theorem d_PR_canBe_57 : decode b_PR_canBe 57 = .ok (.iconst 0, 1) := by decide +kernel
theorem d_PR_canBe_58 : decode b_PR_canBe 58 = .ok (.ireturn, 1) := by decide +kernel
theorem d_PR_lengthOf_0 : decode b_PR_lengthOf 0 = .ok (.aload_n 0, 1) := by decide +kernel
theorem d_PR_lengthOf_1 : decode b_PR_lengthOf 1 = .ok (.getfield 15, 3) := by decide +kernel
theorem d_PR_lengthOf_4 : decode b_PR_lengthOf 4 = .ok (.iload_n 1, 1) := by decide +kernel
theorem d_PR_lengthOf_5 : decode b_PR_lengthOf 5 = .ok (.iaload, 1) := by decide +kernel
theorem d_PR_lengthOf_6 : decode b_PR_lengthOf 6 = .ok (.ireturn, 1) := by decide +kernel
theorem d_PR_codeOf_0 : decode b_PR_codeOf 0 = .ok (.aload_n 0, 1) := by decide +kernel
theorem d_PR_codeOf_1 : decode b_PR_codeOf 1 = .ok (.getfield 9, 3) := by decide +kernel
theorem d_PR_codeOf_4 : decode b_PR_codeOf 4 = .ok (.iload_n 1, 1) := by decide +kernel
theorem d_PR_codeOf_5 : decode b_PR_codeOf 5 = .ok (.iconst 5, 1) := by decide +kernel
theorem d_PR_codeOf_6 : decode b_PR_codeOf 6 = .ok (.imul, 1) := by decide +kernel
theorem d_PR_codeOf_7 : decode b_PR_codeOf 7 = .ok (.iload_n 2, 1) := by decide +kernel
theorem d_PR_codeOf_8 : decode b_PR_codeOf 8 = .ok (.iadd, 1) := by decide +kernel
theorem d_PR_codeOf_9 : decode b_PR_codeOf 9 = .ok (.iaload, 1) := by decide +kernel
theorem d_PR_codeOf_10 : decode b_PR_codeOf 10 = .ok (.ireturn, 1) := by decide +kernel
theorem d_PR_append_0 : decode b_PR_append 0 = .ok (.aload_n 0, 1) := by decide +kernel
theorem d_PR_append_1 : decode b_PR_append 1 = .ok (.getfield 9, 3) := by decide +kernel
theorem d_PR_append_4 : decode b_PR_append 4 = .ok (.iload_n 1, 1) := by decide +kernel
theorem d_PR_append_5 : decode b_PR_append 5 = .ok (.iconst 5, 1) := by decide +kernel
theorem d_PR_append_6 : decode b_PR_append 6 = .ok (.imul, 1) := by decide +kernel
theorem d_PR_append_7 : decode b_PR_append 7 = .ok (.aload_n 0, 1) := by decide +kernel
theorem d_PR_append_8 : decode b_PR_append 8 = .ok (.getfield 15, 3) := by decide +kernel
theorem d_PR_append_11 : decode b_PR_append 11 = .ok (.iload_n 1, 1) := by decide +kernel
theorem d_PR_append_12 : decode b_PR_append 12 = .ok (.iaload, 1) := by decide +kernel
theorem d_PR_append_13 : decode b_PR_append 13 = .ok (.iadd, 1) := by decide +kernel
theorem d_PR_append_14 : decode b_PR_append 14 = .ok (.iload_n 2, 1) := by decide +kernel
theorem d_PR_append_15 : decode b_PR_append 15 = .ok (.iconst 4, 1) := by decide +kernel
theorem d_PR_append_16 : decode b_PR_append 16 = .ok (.imul, 1) := by decide +kernel
theorem d_PR_append_17 : decode b_PR_append 17 = .ok (.iload_n 3, 1) := by decide +kernel
theorem d_PR_append_18 : decode b_PR_append 18 = .ok (.iadd, 1) := by decide +kernel
theorem d_PR_append_19 : decode b_PR_append 19 = .ok (.iconst 4, 1) := by decide +kernel
theorem d_PR_append_20 : decode b_PR_append 20 = .ok (.imul, 1) := by decide +kernel
theorem d_PR_append_21 : decode b_PR_append 21 = .ok (.iload 4, 2) := by decide +kernel
theorem d_PR_append_23 : decode b_PR_append 23 = .ok (.iadd, 1) := by decide +kernel
theorem d_PR_append_24 : decode b_PR_append 24 = .ok (.iastore, 1) := by decide +kernel
theorem d_PR_append_25 : decode b_PR_append 25 = .ok (.aload_n 0, 1) := by decide +kernel
theorem d_PR_append_26 : decode b_PR_append 26 = .ok (.getfield 15, 3) := by decide +kernel
theorem d_PR_append_29 : decode b_PR_append 29 = .ok (.iload_n 1, 1) := by decide +kernel
theorem d_PR_append_30 : decode b_PR_append 30 = .ok (.dup2, 1) := by decide +kernel
theorem d_PR_append_31 : decode b_PR_append 31 = .ok (.iaload, 1) := by decide +kernel
theorem d_PR_append_32 : decode b_PR_append 32 = .ok (.iconst 1, 1) := by decide +kernel
theorem d_PR_append_33 : decode b_PR_append 33 = .ok (.iadd, 1) := by decide +kernel
theorem d_PR_append_34 : decode b_PR_append 34 = .ok (.iastore, 1) := by decide +kernel
theorem d_PR_append_35 : decode b_PR_append 35 = .ok (.return_, 1) := by decide +kernel
theorem d_PR_dropAll_0 : decode b_PR_dropAll 0 = .ok (.aload_n 0, 1) := by decide +kernel
theorem d_PR_dropAll_1 : decode b_PR_dropAll 1 = .ok (.getfield 15, 3) := by decide +kernel
theorem d_PR_dropAll_4 : decode b_PR_dropAll 4 = .ok (.iconst 0, 1) := by decide +kernel
theorem d_PR_dropAll_5 : decode b_PR_dropAll 5 = .ok (.invokestatic 22, 3) := by decide +kernel
theorem d_PR_dropAll_8 : decode b_PR_dropAll 8 = .ok (.return_, 1) := by decide +kernel
theorem d_PR_actionCount_0 : decode b_PR_actionCount 0 = .ok (.iconst 0, 1) := by decide +kernel
theorem d_PR_actionCount_1 : decode b_PR_actionCount 1 = .ok (.istore_n 1, 1) := by decide +kernel
theorem d_PR_actionCount_2 : decode b_PR_actionCount 2 = .ok (.iconst 0, 1) := by decide +kernel
theorem d_PR_actionCount_3 : decode b_PR_actionCount 3 = .ok (.istore_n 2, 1) := by decide +kernel
theorem d_PR_actionCount_4 : decode b_PR_actionCount 4 = .ok (.iload_n 2, 1) := by decide +kernel
theorem d_PR_actionCount_5 : decode b_PR_actionCount 5 = .ok (.iconst 4, 1) := by decide +kernel
theorem d_PR_actionCount_6 : decode b_PR_actionCount 6 = .ok (.if_icmp .ge 18, 3) := by decide +kernel
theorem d_PR_actionCount_9 : decode b_PR_actionCount 9 = .ok (.iload_n 1, 1) := by decide +kernel
theorem d_PR_actionCount_10 : decode b_PR_actionCount 10 = .ok (.aload_n 0, 1) := by decide +kernel
theorem d_PR_actionCount_11 : decode b_PR_actionCount 11 = .ok (.getfield 15, 3) := by decide +kernel
theorem d_PR_actionCount_14 : decode b_PR_actionCount 14 = .ok (.iload_n 2, 1) := by decide +kernel
theorem d_PR_actionCount_15 : decode b_PR_actionCount 15 = .ok (.iaload, 1) := by decide +kernel
theorem d_PR_actionCount_16 : decode b_PR_actionCount 16 = .ok (.iadd, 1) := by decide +kernel
theorem d_PR_actionCount_17 : decode b_PR_actionCount 17 = .ok (.istore_n 1, 1) := by decide +kernel
theorem d_PR_actionCount_18 : decode b_PR_actionCount 18 = .ok (.iinc 2 1, 3) := by decide +kernel
theorem d_PR_actionCount_21 : decode b_PR_actionCount 21 = .ok (.goto (-17), 3) := by decide +kernel
theorem d_PR_actionCount_24 : decode b_PR_actionCount 24 = .ok (.iload_n 1, 1) := by decide +kernel
theorem d_PR_actionCount_25 : decode b_PR_actionCount 25 = .ok (.ireturn, 1) := by decide +kernel
theorem d_PR_threadCount_0 : decode b_PR_threadCount 0 = .ok (.iconst 0, 1) := by decide +kernel
theorem d_PR_threadCount_1 : decode b_PR_threadCount 1 = .ok (.istore_n 1, 1) := by decide +kernel
theorem d_PR_threadCount_2 : decode b_PR_threadCount 2 = .ok (.iconst 0, 1) := by decide +kernel
theorem d_PR_threadCount_3 : decode b_PR_threadCount 3 = .ok (.istore_n 2, 1) := by decide +kernel
theorem d_PR_threadCount_4 : decode b_PR_threadCount 4 = .ok (.iload_n 2, 1) := by decide +kernel
theorem d_PR_threadCount_5 : decode b_PR_threadCount 5 = .ok (.iconst 4, 1) := by decide +kernel
theorem d_PR_threadCount_6 : decode b_PR_threadCount 6 = .ok (.if_icmp .ge 26, 3) := by decide +kernel
theorem d_PR_threadCount_9 : decode b_PR_threadCount 9 = .ok (.iload_n 1, 1) := by decide +kernel
theorem d_PR_threadCount_10 : decode b_PR_threadCount 10 = .ok (.aload_n 0, 1) := by decide +kernel
theorem d_PR_threadCount_11 : decode b_PR_threadCount 11 = .ok (.getfield 15, 3) := by decide +kernel
theorem d_PR_threadCount_14 : decode b_PR_threadCount 14 = .ok (.iload_n 2, 1) := by decide +kernel
theorem d_PR_threadCount_15 : decode b_PR_threadCount 15 = .ok (.iaload, 1) := by decide +kernel
theorem d_PR_threadCount_16 : decode b_PR_threadCount 16 = .ok (.ifCond .le 7, 3) := by decide +kernel
theorem d_PR_threadCount_19 : decode b_PR_threadCount 19 = .ok (.iconst 1, 1) := by decide +kernel
theorem d_PR_threadCount_20 : decode b_PR_threadCount 20 = .ok (.goto 4, 3) := by decide +kernel
theorem d_PR_threadCount_23 : decode b_PR_threadCount 23 = .ok (.iconst 0, 1) := by decide +kernel
theorem d_PR_threadCount_24 : decode b_PR_threadCount 24 = .ok (.iadd, 1) := by decide +kernel
theorem d_PR_threadCount_25 : decode b_PR_threadCount 25 = .ok (.istore_n 1, 1) := by decide +kernel
theorem d_PR_threadCount_26 : decode b_PR_threadCount 26 = .ok (.iinc 2 1, 3) := by decide +kernel
theorem d_PR_threadCount_29 : decode b_PR_threadCount 29 = .ok (.goto (-25), 3) := by decide +kernel
theorem d_PR_threadCount_32 : decode b_PR_threadCount 32 = .ok (.iload_n 1, 1) := by decide +kernel
theorem d_PR_threadCount_33 : decode b_PR_threadCount 33 = .ok (.ireturn, 1) := by decide +kernel
theorem d_PR_countOf_0 : decode b_PR_countOf 0 = .ok (.iconst 0, 1) := by decide +kernel
theorem d_PR_countOf_1 : decode b_PR_countOf 1 = .ok (.istore_n 2, 1) := by decide +kernel
theorem d_PR_countOf_2 : decode b_PR_countOf 2 = .ok (.iconst 0, 1) := by decide +kernel
theorem d_PR_countOf_3 : decode b_PR_countOf 3 = .ok (.istore_n 3, 1) := by decide +kernel
theorem d_PR_countOf_4 : decode b_PR_countOf 4 = .ok (.iload_n 3, 1) := by decide +kernel
theorem d_PR_countOf_5 : decode b_PR_countOf 5 = .ok (.iconst 4, 1) := by decide +kernel
theorem d_PR_countOf_6 : decode b_PR_countOf 6 = .ok (.if_icmp .ge 51, 3) := by decide +kernel
theorem d_PR_countOf_9 : decode b_PR_countOf 9 = .ok (.iconst 0, 1) := by decide +kernel
theorem d_PR_countOf_10 : decode b_PR_countOf 10 = .ok (.istore 4, 2) := by decide +kernel
theorem d_PR_countOf_12 : decode b_PR_countOf 12 = .ok (.iload 4, 2) := by decide +kernel
theorem d_PR_countOf_14 : decode b_PR_countOf 14 = .ok (.aload_n 0, 1) := by decide +kernel
theorem d_PR_countOf_15 : decode b_PR_countOf 15 = .ok (.getfield 15, 3) := by decide +kernel
theorem d_PR_countOf_18 : decode b_PR_countOf 18 = .ok (.iload_n 3, 1) := by decide +kernel
theorem d_PR_countOf_19 : decode b_PR_countOf 19 = .ok (.iaload, 1) := by decide +kernel
theorem d_PR_countOf_20 : decode b_PR_countOf 20 = .ok (.if_icmp .ge 31, 3) := by decide +kernel
theorem d_PR_countOf_23 : decode b_PR_countOf 23 = .ok (.iload_n 2, 1) := by decide +kernel
theorem d_PR_countOf_24 : decode b_PR_countOf 24 = .ok (.aload_n 0, 1) := by decide +kernel
theorem d_PR_countOf_25 : decode b_PR_countOf 25 = .ok (.iload_n 3, 1) := by decide +kernel
theorem d_PR_countOf_26 : decode b_PR_countOf 26 = .ok (.iload 4, 2) := by decide +kernel
theorem d_PR_countOf_28 : decode b_PR_countOf 28 = .ok (.invokevirtual 28, 3) := by decide +kernel
theorem d_PR_countOf_31 : decode b_PR_countOf 31 = .ok (.bipush 16, 2) := by decide +kernel
theorem d_PR_countOf_33 : decode b_PR_countOf 33 = .ok (.idiv, 1) := by decide +kernel
theorem d_PR_countOf_34 : decode b_PR_countOf 34 = .ok (.iload_n 1, 1) := by decide +kernel
theorem d_PR_countOf_35 : decode b_PR_countOf 35 = .ok (.if_icmp .ne 7, 3) := by decide +kernel
theorem d_PR_countOf_38 : decode b_PR_countOf 38 = .ok (.iconst 1, 1) := by decide +kernel
theorem d_PR_countOf_39 : decode b_PR_countOf 39 = .ok (.goto 4, 3) := by decide +kernel
theorem d_PR_countOf_42 : decode b_PR_countOf 42 = .ok (.iconst 0, 1) := by decide +kernel
theorem d_PR_countOf_43 : decode b_PR_countOf 43 = .ok (.iadd, 1) := by decide +kernel
theorem d_PR_countOf_44 : decode b_PR_countOf 44 = .ok (.istore_n 2, 1) := by decide +kernel
theorem d_PR_countOf_45 : decode b_PR_countOf 45 = .ok (.iinc 4 1, 3) := by decide +kernel
theorem d_PR_countOf_48 : decode b_PR_countOf 48 = .ok (.goto (-36), 3) := by decide +kernel
theorem d_PR_countOf_51 : decode b_PR_countOf 51 = .ok (.iinc 3 1, 3) := by decide +kernel
theorem d_PR_countOf_54 : decode b_PR_countOf 54 = .ok (.goto (-50), 3) := by decide +kernel
theorem d_PR_countOf_57 : decode b_PR_countOf 57 = .ok (.iload_n 2, 1) := by decide +kernel
theorem d_PR_countOf_58 : decode b_PR_countOf 58 = .ok (.ireturn, 1) := by decide +kernel
