theorem d_OM_init_0 : decode b_OM_init 0 = .ok (.aload_n 0, 1) := by decide +kernel
theorem d_OM_init_1 : decode b_OM_init 1 = .ok (.invokespecial 3, 3) := by decide +kernel
theorem d_OM_init_4 : decode b_OM_init 4 = .ok (.aload_n 0, 1) := by decide +kernel
theorem d_OM_init_5 : decode b_OM_init 5 = .ok (.new 9, 3) := by decide +kernel
theorem d_OM_init_8 : decode b_OM_init 8 = .ok (.dup, 1) := by decide +kernel
theorem d_OM_init_9 : decode b_OM_init 9 = .ok (.invokespecial 11, 3) := by decide +kernel
theorem d_OM_init_12 : decode b_OM_init 12 = .ok (.putfield 12, 3) := by decide +kernel
theorem d_OM_init_15 : decode b_OM_init 15 = .ok (.aload_n 0, 1) := by decide +kernel
theorem d_OM_init_16 : decode b_OM_init 16 = .ok (.new 16, 3) := by decide +kernel
theorem d_OM_init_19 : decode b_OM_init 19 = .ok (.dup, 1) := by decide +kernel
theorem d_OM_init_20 : decode b_OM_init 20 = .ok (.aload_n 0, 1) := by decide +kernel
theorem d_OM_init_21 : decode b_OM_init 21 = .ok (.getfield 12, 3) := by decide +kernel
theorem d_OM_init_24 : decode b_OM_init 24 = .ok (.invokespecial 18, 3) := by decide +kernel
theorem d_OM_init_27 : decode b_OM_init 27 = .ok (.putfield 21, 3) := by decide +kernel
theorem d_OM_init_30 : decode b_OM_init 30 = .ok (.aload_n 0, 1) := by decide +kernel
theorem d_OM_init_31 : decode b_OM_init 31 = .ok (.iconst 4, 1) := by decide +kernel
theorem d_OM_init_32 : decode b_OM_init 32 = .ok (.anewarray 25, 3) := by decide +kernel
theorem d_OM_init_35 : decode b_OM_init 35 = .ok (.putfield 27, 3) := by decide +kernel
theorem d_OM_init_38 : decode b_OM_init 38 = .ok (.iconst 0, 1) := by decide +kernel
theorem d_OM_init_39 : decode b_OM_init 39 = .ok (.istore_n 1, 1) := by decide +kernel
theorem d_OM_init_40 : decode b_OM_init 40 = .ok (.iload_n 1, 1) := by decide +kernel
theorem d_OM_init_41 : decode b_OM_init 41 = .ok (.iconst 4, 1) := by decide +kernel
theorem d_OM_init_42 : decode b_OM_init 42 = .ok (.if_icmp .ge 22, 3) := by decide +kernel
theorem d_OM_init_45 : decode b_OM_init 45 = .ok (.aload_n 0, 1) := by decide +kernel
theorem d_OM_init_46 : decode b_OM_init 46 = .ok (.getfield 27, 3) := by decide +kernel
theorem d_OM_init_49 : decode b_OM_init 49 = .ok (.iload_n 1, 1) := by decide +kernel
theorem d_OM_init_50 : decode b_OM_init 50 = .ok (.new 25, 3) := by decide +kernel
theorem d_OM_init_53 : decode b_OM_init 53 = .ok (.dup, 1) := by decide +kernel
theorem d_OM_init_54 : decode b_OM_init 54 = .ok (.invokespecial 31, 3) := by decide +kernel
theorem d_OM_init_57 : decode b_OM_init 57 = .ok (.aastore, 1) := by decide +kernel
theorem d_OM_init_58 : decode b_OM_init 58 = .ok (.iinc 1 1, 3) := by decide +kernel
theorem d_OM_init_61 : decode b_OM_init 61 = .ok (.goto (-21), 3) := by decide +kernel
theorem d_OM_init_64 : decode b_OM_init 64 = .ok (.return_, 1) := by decide +kernel
theorem d_OM_action_0 : decode b_OM_action 0 = .ok (.iload_n 1, 1) := by decide +kernel
theorem d_OM_action_1 : decode b_OM_action 1 = .ok (.iload_n 2, 1) := by decide +kernel
theorem d_OM_action_2 : decode b_OM_action 2 = .ok (.iload_n 3, 1) := by decide +kernel
theorem d_OM_action_3 : decode b_OM_action 3 = .ok (.iload 4, 2) := by decide +kernel
theorem d_OM_action_5 : decode b_OM_action 5 = .ok (.invokestatic 32, 3) := by decide +kernel
theorem d_OM_action_8 : decode b_OM_action 8 = .ok (.ifCond .ne 13, 3) := by decide +kernel
theorem d_OM_action_11 : decode b_OM_action 11 = .ok (.new 36, 3) := by decide +kernel
theorem d_OM_action_14 : decode b_OM_action 14 = .ok (.dup, 1) := by decide +kernel
theorem d_OM_action_15 : decode b_OM_action 15 = .ok (.ldc 38, 2) := by decide +kernel
theorem d_OM_action_17 : decode b_OM_action 17 = .ok (.invokespecial 40, 3) := by decide +kernel
theorem d_OM_action_20 : decode b_OM_action 20 = .ok (.athrow, 1) := by decide +kernel
theorem d_OM_action_21 : decode b_OM_action 21 = .ok (.aload_n 0, 1) := by decide +kernel
theorem d_OM_action_22 : decode b_OM_action 22 = .ok (.getfield 12, 3) := by decide +kernel
theorem d_OM_action_25 : decode b_OM_action 25 = .ok (.iload_n 1, 1) := by decide +kernel
theorem d_OM_action_26 : decode b_OM_action 26 = .ok (.invokevirtual 43, 3) := by decide +kernel
theorem d_OM_action_29 : decode b_OM_action 29 = .ok (.iconst 5, 1) := by decide +kernel
theorem d_OM_action_30 : decode b_OM_action 30 = .ok (.if_icmp .lt 13, 3) := by decide +kernel
theorem d_OM_action_33 : decode b_OM_action 33 = .ok (.new 47, 3) := by decide +kernel
theorem d_OM_action_36 : decode b_OM_action 36 = .ok (.dup, 1) := by decide +kernel
theorem d_OM_action_37 : decode b_OM_action 37 = .ok (.ldc 49, 2) := by decide +kernel
theorem d_OM_action_39 : decode b_OM_action 39 = .ok (.invokespecial 51, 3) := by decide +kernel
theorem d_OM_action_42 : decode b_OM_action 42 = .ok (.athrow, 1) := by decide +kernel
theorem d_OM_action_43 : decode b_OM_action 43 = .ok (.aload_n 0, 1) := by decide +kernel
theorem d_OM_action_44 : decode b_OM_action 44 = .ok (.getfield 12, 3) := by decide +kernel
theorem d_OM_action_47 : decode b_OM_action 47 = .ok (.iload_n 1, 1) := by decide +kernel
theorem d_OM_action_48 : decode b_OM_action 48 = .ok (.iload_n 2, 1) := by decide +kernel
theorem d_OM_action_49 : decode b_OM_action 49 = .ok (.iload_n 3, 1) := by decide +kernel
theorem d_OM_action_50 : decode b_OM_action 50 = .ok (.iload 4, 2) := by decide +kernel
theorem d_OM_action_52 : decode b_OM_action 52 = .ok (.invokevirtual 52, 3) := by decide +kernel
theorem d_OM_action_55 : decode b_OM_action 55 = .ok (.aload_n 0, 1) := by decide +kernel
theorem d_OM_action_56 : decode b_OM_action 56 = .ok (.invokevirtual 56, 3) := by decide +kernel
theorem d_OM_action_59 : decode b_OM_action 59 = .ok (.aload_n 0, 1) := by decide +kernel
theorem d_OM_action_60 : decode b_OM_action 60 = .ok (.getfield 12, 3) := by decide +kernel
theorem d_OM_action_63 : decode b_OM_action 63 = .ok (.iload_n 1, 1) := by decide +kernel
theorem d_OM_action_64 : decode b_OM_action 64 = .ok (.invokevirtual 43, 3) := by decide +kernel
theorem d_OM_action_67 : decode b_OM_action 67 = .ok (.ireturn, 1) := by decide +kernel
theorem d_OM_clear_0 : decode b_OM_clear 0 = .ok (.aload_n 0, 1) := by decide +kernel
theorem d_OM_clear_1 : decode b_OM_clear 1 = .ok (.getfield 12, 3) := by decide +kernel
theorem d_OM_clear_4 : decode b_OM_clear 4 = .ok (.invokevirtual 59, 3) := by decide +kernel
theorem d_OM_clear_7 : decode b_OM_clear 7 = .ok (.aload_n 0, 1) := by decide +kernel
theorem d_OM_clear_8 : decode b_OM_clear 8 = .ok (.invokevirtual 56, 3) := by decide +kernel
theorem d_OM_clear_11 : decode b_OM_clear 11 = .ok (.return_, 1) := by decide +kernel
theorem d_OM_outcomes_0 : decode b_OM_outcomes 0 = .ok (.aload_n 0, 1) := by decide +kernel
theorem d_OM_outcomes_1 : decode b_OM_outcomes 1 = .ok (.iload_n 1, 1) := by decide +kernel
theorem d_OM_outcomes_2 : decode b_OM_outcomes 2 = .ok (.invokevirtual 62, 3) := by decide +kernel
theorem d_OM_outcomes_5 : decode b_OM_outcomes 5 = .ok (.getfield 66, 3) := by decide +kernel
theorem d_OM_outcomes_8 : decode b_OM_outcomes 8 = .ok (.ireturn, 1) := by decide +kernel
theorem d_OM_outcome_0 : decode b_OM_outcome 0 = .ok (.aload_n 0, 1) := by decide +kernel
theorem d_OM_outcome_1 : decode b_OM_outcome 1 = .ok (.iload_n 1, 1) := by decide +kernel
theorem d_OM_outcome_2 : decode b_OM_outcome 2 = .ok (.invokevirtual 62, 3) := by decide +kernel
theorem d_OM_outcome_5 : decode b_OM_outcome 5 = .ok (.astore_n 3, 1) := by decide +kernel
theorem d_OM_outcome_6 : decode b_OM_outcome 6 = .ok (.aload_n 3, 1) := by decide +kernel
theorem d_OM_outcome_7 : decode b_OM_outcome 7 = .ok (.iload_n 2, 1) := by decide +kernel
theorem d_OM_outcome_8 : decode b_OM_outcome 8 = .ok (.invokevirtual 70, 3) := by decide +kernel
theorem d_OM_outcome_11 : decode b_OM_outcome 11 = .ok (.ifCond .ne 13, 3) := by decide +kernel
theorem d_OM_outcome_14 : decode b_OM_outcome 14 = .ok (.new 74, 3) := by decide +kernel
theorem d_OM_outcome_17 : decode b_OM_outcome 17 = .ok (.dup, 1) := by decide +kernel
theorem d_OM_outcome_18 : decode b_OM_outcome 18 = .ok (.ldc 76, 2) := by decide +kernel
theorem d_OM_outcome_20 : decode b_OM_outcome 20 = .ok (.invokespecial 78, 3) := by decide +kernel
theorem d_OM_outcome_23 : decode b_OM_outcome 23 = .ok (.athrow, 1) := by decide +kernel
theorem d_OM_outcome_24 : decode b_OM_outcome 24 = .ok (.aload_n 3, 1) := by decide +kernel
theorem d_OM_outcome_25 : decode b_OM_outcome 25 = .ok (.iload_n 2, 1) := by decide +kernel
theorem d_OM_outcome_26 : decode b_OM_outcome 26 = .ok (.invokevirtual 79, 3) := by decide +kernel
theorem d_OM_outcome_29 : decode b_OM_outcome 29 = .ok (.lreturn, 1) := by decide +kernel
theorem d_OM_states_0 : decode b_OM_states 0 = .ok (.aload_n 0, 1) := by decide +kernel
theorem d_OM_states_1 : decode b_OM_states 1 = .ok (.iload_n 1, 1) := by decide +kernel
theorem d_OM_states_2 : decode b_OM_states 2 = .ok (.invokevirtual 62, 3) := by decide +kernel
theorem d_OM_states_5 : decode b_OM_states 5 = .ok (.getfield 83, 3) := by decide +kernel
theorem d_OM_states_8 : decode b_OM_states 8 = .ok (.ireturn, 1) := by decide +kernel
theorem d_OM_row_0 : decode b_OM_row 0 = .ok (.aload_n 0, 1) := by decide +kernel
theorem d_OM_row_1 : decode b_OM_row 1 = .ok (.iload_n 1, 1) := by decide +kernel
theorem d_OM_row_2 : decode b_OM_row 2 = .ok (.invokevirtual 62, 3) := by decide +kernel
theorem d_OM_row_5 : decode b_OM_row 5 = .ok (.astore 4, 2) := by decide +kernel
theorem d_OM_row_7 : decode b_OM_row 7 = .ok (.aload 4, 2) := by decide +kernel
theorem d_OM_row_9 : decode b_OM_row 9 = .ok (.iload_n 2, 1) := by decide +kernel
theorem d_OM_row_10 : decode b_OM_row 10 = .ok (.invokevirtual 70, 3) := by decide +kernel
theorem d_OM_row_13 : decode b_OM_row 13 = .ok (.ifCond .eq 7, 3) := by decide +kernel
theorem d_OM_row_16 : decode b_OM_row 16 = .ok (.iload_n 3, 1) := by decide +kernel
theorem d_OM_row_17 : decode b_OM_row 17 = .ok (.ifCond .ge 13, 3) := by decide +kernel
theorem d_OM_row_20 : decode b_OM_row 20 = .ok (.new 74, 3) := by decide +kernel
theorem d_OM_row_23 : decode b_OM_row 23 = .ok (.dup, 1) := by decide +kernel
theorem d_OM_row_24 : decode b_OM_row 24 = .ok (.ldc 86, 2) := by decide +kernel
theorem d_OM_row_26 : decode b_OM_row 26 = .ok (.invokespecial 78, 3) := by decide +kernel
theorem d_OM_row_29 : decode b_OM_row 29 = .ok (.athrow, 1) := by decide +kernel
theorem d_OM_row_30 : decode b_OM_row 30 = .ok (.aload 4, 2) := by decide +kernel
theorem d_OM_row_32 : decode b_OM_row 32 = .ok (.iload_n 2, 1) := by decide +kernel
theorem d_OM_row_33 : decode b_OM_row 33 = .ok (.iload_n 3, 1) := by decide +kernel
theorem d_OM_row_34 : decode b_OM_row 34 = .ok (.invokevirtual 88, 3) := by decide +kernel
theorem d_OM_row_37 : decode b_OM_row 37 = .ok (.ireturn, 1) := by decide +kernel
theorem d_OM_cuts_0 : decode b_OM_cuts 0 = .ok (.aload_n 0, 1) := by decide +kernel
theorem d_OM_cuts_1 : decode b_OM_cuts 1 = .ok (.iload_n 1, 1) := by decide +kernel
theorem d_OM_cuts_2 : decode b_OM_cuts 2 = .ok (.invokevirtual 62, 3) := by decide +kernel
theorem d_OM_cuts_5 : decode b_OM_cuts 5 = .ok (.getfield 92, 3) := by decide +kernel
theorem d_OM_cuts_8 : decode b_OM_cuts 8 = .ok (.ireturn, 1) := by decide +kernel
theorem d_OM_cut_0 : decode b_OM_cut 0 = .ok (.aload_n 0, 1) := by decide +kernel
theorem d_OM_cut_1 : decode b_OM_cut 1 = .ok (.iload_n 1, 1) := by decide +kernel
theorem d_OM_cut_2 : decode b_OM_cut 2 = .ok (.invokevirtual 62, 3) := by decide +kernel
theorem d_OM_cut_5 : decode b_OM_cut 5 = .ok (.astore_n 3, 1) := by decide +kernel
theorem d_OM_cut_6 : decode b_OM_cut 6 = .ok (.iload_n 2, 1) := by decide +kernel
theorem d_OM_cut_7 : decode b_OM_cut 7 = .ok (.ifCond .lt 11, 3) := by decide +kernel
theorem d_OM_cut_10 : decode b_OM_cut 10 = .ok (.iload_n 2, 1) := by decide +kernel
theorem d_OM_cut_11 : decode b_OM_cut 11 = .ok (.aload_n 3, 1) := by decide +kernel
theorem d_OM_cut_12 : decode b_OM_cut 12 = .ok (.getfield 92, 3) := by decide +kernel
theorem d_OM_cut_15 : decode b_OM_cut 15 = .ok (.if_icmp .lt 13, 3) := by decide +kernel
theorem d_OM_cut_18 : decode b_OM_cut 18 = .ok (.new 74, 3) := by decide +kernel
theorem d_OM_cut_21 : decode b_OM_cut 21 = .ok (.dup, 1) := by decide +kernel
theorem d_OM_cut_22 : decode b_OM_cut 22 = .ok (.ldc 95, 2) := by decide +kernel
theorem d_OM_cut_24 : decode b_OM_cut 24 = .ok (.invokespecial 78, 3) := by decide +kernel
theorem d_OM_cut_27 : decode b_OM_cut 27 = .ok (.athrow, 1) := by decide +kernel
theorem d_OM_cut_28 : decode b_OM_cut 28 = .ok (.aload_n 3, 1) := by decide +kernel
theorem d_OM_cut_29 : decode b_OM_cut 29 = .ok (.iload_n 2, 1) := by decide +kernel
theorem d_OM_cut_30 : decode b_OM_cut 30 = .ok (.invokevirtual 97, 3) := by decide +kernel
theorem d_OM_cut_33 : decode b_OM_cut 33 = .ok (.ireturn, 1) := by decide +kernel
theorem d_OM_allows_0 : decode b_OM_allows 0 = .ok (.aload_n 0, 1) := by decide +kernel
theorem d_OM_allows_1 : decode b_OM_allows 1 = .ok (.iload_n 1, 1) := by decide +kernel
theorem d_OM_allows_2 : decode b_OM_allows 2 = .ok (.invokevirtual 62, 3) := by decide +kernel
theorem d_OM_allows_5 : decode b_OM_allows 5 = .ok (.lload_n 2, 1) := by decide +kernel
theorem d_OM_allows_6 : decode b_OM_allows 6 = .ok (.invokevirtual 100, 3) := by decide +kernel
theorem d_OM_allows_9 : decode b_OM_allows 9 = .ok (.ireturn, 1) := by decide +kernel
theorem d_OM_differs_0 : decode b_OM_differs 0 = .ok (.iload_n 1, 1) := by decide +kernel
theorem d_OM_differs_1 : decode b_OM_differs 1 = .ok (.invokestatic 104, 3) := by decide +kernel
theorem d_OM_differs_4 : decode b_OM_differs 4 = .ok (.ifCond .eq 10, 3) := by decide +kernel
theorem d_OM_differs_7 : decode b_OM_differs 7 = .ok (.iload_n 2, 1) := by decide +kernel
theorem d_OM_differs_8 : decode b_OM_differs 8 = .ok (.invokestatic 104, 3) := by decide +kernel
theorem d_OM_differs_11 : decode b_OM_differs 11 = .ok (.ifCond .ne 13, 3) := by decide +kernel
theorem d_OM_differs_14 : decode b_OM_differs 14 = .ok (.new 36, 3) := by decide +kernel
theorem d_OM_differs_17 : decode b_OM_differs 17 = .ok (.dup, 1) := by decide +kernel
theorem d_OM_differs_18 : decode b_OM_differs 18 = .ok (.ldc 107, 2) := by decide +kernel
theorem d_OM_differs_20 : decode b_OM_differs 20 = .ok (.invokespecial 40, 3) := by decide +kernel
theorem d_OM_differs_23 : decode b_OM_differs 23 = .ok (.athrow, 1) := by decide +kernel
theorem d_OM_differs_24 : decode b_OM_differs 24 = .ok (.aload_n 0, 1) := by decide +kernel
theorem d_OM_differs_25 : decode b_OM_differs 25 = .ok (.iload_n 1, 1) := by decide +kernel
theorem d_OM_differs_26 : decode b_OM_differs 26 = .ok (.invokevirtual 62, 3) := by decide +kernel
theorem d_OM_differs_29 : decode b_OM_differs 29 = .ok (.aload_n 0, 1) := by decide +kernel
theorem d_OM_differs_30 : decode b_OM_differs 30 = .ok (.iload_n 2, 1) := by decide +kernel
theorem d_OM_differs_31 : decode b_OM_differs 31 = .ok (.invokevirtual 62, 3) := by decide +kernel
theorem d_OM_differs_34 : decode b_OM_differs 34 = .ok (.invokestatic 109, 3) := by decide +kernel
theorem d_OM_differs_37 : decode b_OM_differs 37 = .ok (.lreturn, 1) := by decide +kernel
theorem d_OM_soonest_0 : decode b_OM_soonest 0 = .ok (.iload_n 2, 1) := by decide +kernel
theorem d_OM_soonest_1 : decode b_OM_soonest 1 = .ok (.invokestatic 113, 3) := by decide +kernel
theorem d_OM_soonest_4 : decode b_OM_soonest 4 = .ok (.ifCond .eq 10, 3) := by decide +kernel
theorem d_OM_soonest_7 : decode b_OM_soonest 7 = .ok (.iload_n 3, 1) := by decide +kernel
theorem d_OM_soonest_8 : decode b_OM_soonest 8 = .ok (.invokestatic 113, 3) := by decide +kernel
theorem d_OM_soonest_11 : decode b_OM_soonest 11 = .ok (.ifCond .ne 13, 3) := by decide +kernel
theorem d_OM_soonest_14 : decode b_OM_soonest 14 = .ok (.new 36, 3) := by decide +kernel
theorem d_OM_soonest_17 : decode b_OM_soonest 17 = .ok (.dup, 1) := by decide +kernel
theorem d_OM_soonest_18 : decode b_OM_soonest 18 = .ok (.ldc 116, 2) := by decide +kernel
theorem d_OM_soonest_20 : decode b_OM_soonest 20 = .ok (.invokespecial 40, 3) := by decide +kernel
theorem d_OM_soonest_23 : decode b_OM_soonest 23 = .ok (.athrow, 1) := by decide +kernel
theorem d_OM_soonest_24 : decode b_OM_soonest 24 = .ok (.aload_n 0, 1) := by decide +kernel
theorem d_OM_soonest_25 : decode b_OM_soonest 25 = .ok (.iload_n 1, 1) := by decide +kernel
theorem d_OM_soonest_26 : decode b_OM_soonest 26 = .ok (.invokevirtual 62, 3) := by decide +kernel
theorem d_OM_soonest_29 : decode b_OM_soonest 29 = .ok (.iload_n 2, 1) := by decide +kernel
theorem d_OM_soonest_30 : decode b_OM_soonest 30 = .ok (.iload_n 3, 1) := by decide +kernel
theorem d_OM_soonest_31 : decode b_OM_soonest 31 = .ok (.invokevirtual 118, 3) := by decide +kernel
theorem d_OM_soonest_34 : decode b_OM_soonest 34 = .ok (.ireturn, 1) := by decide +kernel
theorem d_OM_stuck_0 : decode b_OM_stuck 0 = .ok (.aload_n 0, 1) := by decide +kernel
theorem d_OM_stuck_1 : decode b_OM_stuck 1 = .ok (.iload_n 1, 1) := by decide +kernel
theorem d_OM_stuck_2 : decode b_OM_stuck 2 = .ok (.invokevirtual 62, 3) := by decide +kernel
theorem d_OM_stuck_5 : decode b_OM_stuck 5 = .ok (.getfield 121, 3) := by decide +kernel
theorem d_OM_stuck_8 : decode b_OM_stuck 8 = .ok (.ireturn, 1) := by decide +kernel
theorem d_OM_count_0 : decode b_OM_count 0 = .ok (.iload_n 1, 1) := by decide +kernel
theorem d_OM_count_1 : decode b_OM_count 1 = .ok (.tableswitch 91 0 5 #[39, 47, 55, 64, 73, 82], 39) := by decide +kernel
theorem d_OM_count_40 : decode b_OM_count 40 = .ok (.aload_n 0, 1) := by decide +kernel
theorem d_OM_count_41 : decode b_OM_count 41 = .ok (.getfield 12, 3) := by decide +kernel
theorem d_OM_count_44 : decode b_OM_count 44 = .ok (.invokevirtual 124, 3) := by decide +kernel
theorem d_OM_count_47 : decode b_OM_count 47 = .ok (.ireturn, 1) := by decide +kernel
theorem d_OM_count_48 : decode b_OM_count 48 = .ok (.aload_n 0, 1) := by decide +kernel
theorem d_OM_count_49 : decode b_OM_count 49 = .ok (.getfield 12, 3) := by decide +kernel
theorem d_OM_count_52 : decode b_OM_count 52 = .ok (.invokevirtual 128, 3) := by decide +kernel
theorem d_OM_count_55 : decode b_OM_count 55 = .ok (.ireturn, 1) := by decide +kernel
theorem d_OM_count_56 : decode b_OM_count 56 = .ok (.aload_n 0, 1) := by decide +kernel
theorem d_OM_count_57 : decode b_OM_count 57 = .ok (.getfield 12, 3) := by decide +kernel
theorem d_OM_count_60 : decode b_OM_count 60 = .ok (.iconst 0, 1) := by decide +kernel
theorem d_OM_count_61 : decode b_OM_count 61 = .ok (.invokevirtual 131, 3) := by decide +kernel
theorem d_OM_count_64 : decode b_OM_count 64 = .ok (.ireturn, 1) := by decide +kernel
theorem d_OM_count_65 : decode b_OM_count 65 = .ok (.aload_n 0, 1) := by decide +kernel
theorem d_OM_count_66 : decode b_OM_count 66 = .ok (.getfield 12, 3) := by decide +kernel
theorem d_OM_count_69 : decode b_OM_count 69 = .ok (.iconst 1, 1) := by decide +kernel
theorem d_OM_count_70 : decode b_OM_count 70 = .ok (.invokevirtual 131, 3) := by decide +kernel
theorem d_OM_count_73 : decode b_OM_count 73 = .ok (.ireturn, 1) := by decide +kernel
theorem d_OM_count_74 : decode b_OM_count 74 = .ok (.aload_n 0, 1) := by decide +kernel
theorem d_OM_count_75 : decode b_OM_count 75 = .ok (.getfield 12, 3) := by decide +kernel
theorem d_OM_count_78 : decode b_OM_count 78 = .ok (.iconst 2, 1) := by decide +kernel
theorem d_OM_count_79 : decode b_OM_count 79 = .ok (.invokevirtual 131, 3) := by decide +kernel
theorem d_OM_count_82 : decode b_OM_count 82 = .ok (.ireturn, 1) := by decide +kernel
theorem d_OM_count_83 : decode b_OM_count 83 = .ok (.aload_n 0, 1) := by decide +kernel
theorem d_OM_count_84 : decode b_OM_count 84 = .ok (.getfield 12, 3) := by decide +kernel
theorem d_OM_count_87 : decode b_OM_count 87 = .ok (.iconst 3, 1) := by decide +kernel
theorem d_OM_count_88 : decode b_OM_count 88 = .ok (.invokevirtual 131, 3) := by decide +kernel
theorem d_OM_count_91 : decode b_OM_count 91 = .ok (.ireturn, 1) := by decide +kernel
theorem d_OM_count_92 : decode b_OM_count 92 = .ok (.iconst (-1), 1) := by decide +kernel
theorem d_OM_count_93 : decode b_OM_count 93 = .ok (.ireturn, 1) := by decide +kernel
theorem d_OM_forgetFindings_0 : decode b_OM_forgetFindings 0 = .ok (.iconst 0, 1) := by decide +kernel
theorem d_OM_forgetFindings_1 : decode b_OM_forgetFindings 1 = .ok (.istore_n 1, 1) := by decide +kernel
theorem d_OM_forgetFindings_2 : decode b_OM_forgetFindings 2 = .ok (.iload_n 1, 1) := by decide +kernel
theorem d_OM_forgetFindings_3 : decode b_OM_forgetFindings 3 = .ok (.iconst 4, 1) := by decide +kernel
theorem d_OM_forgetFindings_4 : decode b_OM_forgetFindings 4 = .ok (.if_icmp .ge 19, 3) := by decide +kernel
theorem d_OM_forgetFindings_7 : decode b_OM_forgetFindings 7 = .ok (.aload_n 0, 1) := by decide +kernel
theorem d_OM_forgetFindings_8 : decode b_OM_forgetFindings 8 = .ok (.getfield 27, 3) := by decide +kernel
theorem d_OM_forgetFindings_11 : decode b_OM_forgetFindings 11 = .ok (.iload_n 1, 1) := by decide +kernel
theorem d_OM_forgetFindings_12 : decode b_OM_forgetFindings 12 = .ok (.aaload, 1) := by decide +kernel
theorem d_OM_forgetFindings_13 : decode b_OM_forgetFindings 13 = .ok (.iconst 0, 1) := by decide +kernel
theorem d_OM_forgetFindings_14 : decode b_OM_forgetFindings 14 = .ok (.putfield 134, 3) := by decide +kernel
theorem d_OM_forgetFindings_17 : decode b_OM_forgetFindings 17 = .ok (.iinc 1 1, 3) := by decide +kernel
theorem d_OM_forgetFindings_20 : decode b_OM_forgetFindings 20 = .ok (.goto (-18), 3) := by decide +kernel
theorem d_OM_forgetFindings_23 : decode b_OM_forgetFindings 23 = .ok (.return_, 1) := by decide +kernel
theorem d_OM_explored_0 : decode b_OM_explored 0 = .ok (.iload_n 1, 1) := by decide +kernel
theorem d_OM_explored_1 : decode b_OM_explored 1 = .ok (.invokestatic 104, 3) := by decide +kernel
theorem d_OM_explored_4 : decode b_OM_explored 4 = .ok (.ifCond .ne 13, 3) := by decide +kernel
theorem d_OM_explored_7 : decode b_OM_explored 7 = .ok (.new 36, 3) := by decide +kernel
theorem d_OM_explored_10 : decode b_OM_explored 10 = .ok (.dup, 1) := by decide +kernel
theorem d_OM_explored_11 : decode b_OM_explored 11 = .ok (.ldc 107, 2) := by decide +kernel
theorem d_OM_explored_13 : decode b_OM_explored 13 = .ok (.invokespecial 40, 3) := by decide +kernel
theorem d_OM_explored_16 : decode b_OM_explored 16 = .ok (.athrow, 1) := by decide +kernel
theorem d_OM_explored_17 : decode b_OM_explored 17 = .ok (.aload_n 0, 1) := by decide +kernel
theorem d_OM_explored_18 : decode b_OM_explored 18 = .ok (.getfield 27, 3) := by decide +kernel
theorem d_OM_explored_21 : decode b_OM_explored 21 = .ok (.iload_n 1, 1) := by decide +kernel
theorem d_OM_explored_22 : decode b_OM_explored 22 = .ok (.aaload, 1) := by decide +kernel
theorem d_OM_explored_23 : decode b_OM_explored 23 = .ok (.astore_n 2, 1) := by decide +kernel
theorem d_OM_explored_24 : decode b_OM_explored 24 = .ok (.aload_n 2, 1) := by decide +kernel
theorem d_OM_explored_25 : decode b_OM_explored 25 = .ok (.getfield 134, 3) := by decide +kernel
theorem d_OM_explored_28 : decode b_OM_explored 28 = .ok (.ifCond .ne 12, 3) := by decide +kernel
theorem d_OM_explored_31 : decode b_OM_explored 31 = .ok (.aload_n 0, 1) := by decide +kernel
theorem d_OM_explored_32 : decode b_OM_explored 32 = .ok (.getfield 21, 3) := by decide +kernel
theorem d_OM_explored_35 : decode b_OM_explored 35 = .ok (.iload_n 1, 1) := by decide +kernel
theorem d_OM_explored_36 : decode b_OM_explored 36 = .ok (.aload_n 2, 1) := by decide +kernel
theorem d_OM_explored_37 : decode b_OM_explored 37 = .ok (.invokevirtual 138, 3) := by decide +kernel
theorem d_OM_explored_40 : decode b_OM_explored 40 = .ok (.aload_n 2, 1) := by decide +kernel
theorem d_OM_explored_41 : decode b_OM_explored 41 = .ok (.getfield 142, 3) := by decide +kernel
theorem d_OM_explored_44 : decode b_OM_explored 44 = .ok (.ifCond .eq 13, 3) := by decide +kernel
theorem d_OM_explored_47 : decode b_OM_explored 47 = .ok (.new 47, 3) := by decide +kernel
theorem d_OM_explored_50 : decode b_OM_explored 50 = .ok (.dup, 1) := by decide +kernel
theorem d_OM_explored_51 : decode b_OM_explored 51 = .ok (.ldc 145, 2) := by decide +kernel
theorem d_OM_explored_53 : decode b_OM_explored 53 = .ok (.invokespecial 51, 3) := by decide +kernel
theorem d_OM_explored_56 : decode b_OM_explored 56 = .ok (.athrow, 1) := by decide +kernel
theorem d_OM_explored_57 : decode b_OM_explored 57 = .ok (.aload_n 2, 1) := by decide +kernel
theorem d_OM_explored_58 : decode b_OM_explored 58 = .ok (.areturn, 1) := by decide +kernel
theorem d_OM_isKind_0 : decode b_OM_isKind 0 = .ok (.iload_n 0, 1) := by decide +kernel
theorem d_OM_isKind_1 : decode b_OM_isKind 1 = .ok (.ifCond .lt 12, 3) := by decide +kernel
theorem d_OM_isKind_4 : decode b_OM_isKind 4 = .ok (.iload_n 0, 1) := by decide +kernel
theorem d_OM_isKind_5 : decode b_OM_isKind 5 = .ok (.iconst 4, 1) := by decide +kernel
theorem d_OM_isKind_6 : decode b_OM_isKind 6 = .ok (.if_icmp .ge 7, 3) := by decide +kernel
theorem d_OM_isKind_9 : decode b_OM_isKind 9 = .ok (.iconst 1, 1) := by decide +kernel
theorem d_OM_isKind_10 : decode b_OM_isKind 10 = .ok (.goto 4, 3) := by decide +kernel
theorem d_OM_isKind_13 : decode b_OM_isKind 13 = .ok (.iconst 0, 1) := by decide +kernel
theorem d_OM_isKind_14 : decode b_OM_isKind 14 = .ok (.ireturn, 1) := by decide +kernel
theorem d_OM_isDigit_0 : decode b_OM_isDigit 0 = .ok (.iload_n 0, 1) := by decide +kernel
theorem d_OM_isDigit_1 : decode b_OM_isDigit 1 = .ok (.ifCond .lt 12, 3) := by decide +kernel
theorem d_OM_isDigit_4 : decode b_OM_isDigit 4 = .ok (.iload_n 0, 1) := by decide +kernel
theorem d_OM_isDigit_5 : decode b_OM_isDigit 5 = .ok (.iconst 4, 1) := by decide +kernel
theorem d_OM_isDigit_6 : decode b_OM_isDigit 6 = .ok (.if_icmp .ge 7, 3) := by decide +kernel
theorem d_OM_isDigit_9 : decode b_OM_isDigit 9 = .ok (.iconst 1, 1) := by decide +kernel
theorem d_OM_isDigit_10 : decode b_OM_isDigit 10 = .ok (.goto 4, 3) := by decide +kernel
theorem d_OM_isDigit_13 : decode b_OM_isDigit 13 = .ok (.iconst 0, 1) := by decide +kernel
theorem d_OM_isDigit_14 : decode b_OM_isDigit 14 = .ok (.ireturn, 1) := by decide +kernel
