theorem d_LA_action_0 : decode b_LA_action 0 = .ok (.aload 5, 2) := by decide +kernel
theorem d_LA_action_2 : decode b_LA_action 2 = .ok (.iconst 0, 1) := by decide +kernel
theorem d_LA_action_3 : decode b_LA_action 3 = .ok (.aload_n 0, 1) := by decide +kernel
theorem d_LA_action_4 : decode b_LA_action 4 = .ok (.iload_n 1, 1) := by decide +kernel
theorem d_LA_action_5 : decode b_LA_action 5 = .ok (.iload_n 2, 1) := by decide +kernel
theorem d_LA_action_6 : decode b_LA_action 6 = .ok (.iload_n 3, 1) := by decide +kernel
theorem d_LA_action_7 : decode b_LA_action 7 = .ok (.iload 4, 2) := by decide +kernel
theorem d_LA_action_9 : decode b_LA_action 9 = .ok (.invokevirtual 7, 3) := by decide +kernel
theorem d_LA_action_12 : decode b_LA_action 12 = .ok (.i2l, 1) := by decide +kernel
theorem d_LA_action_13 : decode b_LA_action 13 = .ok (.lastore, 1) := by decide +kernel
theorem d_LA_action_14 : decode b_LA_action 14 = .ok (.goto 11, 3) := by decide +kernel
theorem d_LA_action_17 : decode b_LA_action 17 = .ok (.astore 6, 2) := by decide +kernel
theorem d_LA_action_19 : decode b_LA_action 19 = .ok (.iconst 1, 1) := by decide +kernel
theorem d_LA_action_20 : decode b_LA_action 20 = .ok (.ireturn, 1) := by decide +kernel
theorem d_LA_action_21 : decode b_LA_action 21 = .ok (.astore 6, 2) := by decide +kernel
theorem d_LA_action_23 : decode b_LA_action 23 = .ok (.iconst 2, 1) := by decide +kernel
theorem d_LA_action_24 : decode b_LA_action 24 = .ok (.ireturn, 1) := by decide +kernel
theorem d_LA_action_25 : decode b_LA_action 25 = .ok (.iconst 0, 1) := by decide +kernel
theorem d_LA_action_26 : decode b_LA_action 26 = .ok (.ireturn, 1) := by decide +kernel
theorem d_LA_outcomes_0 : decode b_LA_outcomes 0 = .ok (.aload_n 2, 1) := by decide +kernel
theorem d_LA_outcomes_1 : decode b_LA_outcomes 1 = .ok (.iconst 0, 1) := by decide +kernel
theorem d_LA_outcomes_2 : decode b_LA_outcomes 2 = .ok (.aload_n 0, 1) := by decide +kernel
theorem d_LA_outcomes_3 : decode b_LA_outcomes 3 = .ok (.iload_n 1, 1) := by decide +kernel
theorem d_LA_outcomes_4 : decode b_LA_outcomes 4 = .ok (.invokevirtual 17, 3) := by decide +kernel
theorem d_LA_outcomes_7 : decode b_LA_outcomes 7 = .ok (.i2l, 1) := by decide +kernel
theorem d_LA_outcomes_8 : decode b_LA_outcomes 8 = .ok (.lastore, 1) := by decide +kernel
theorem d_LA_outcomes_9 : decode b_LA_outcomes 9 = .ok (.goto 9, 3) := by decide +kernel
theorem d_LA_outcomes_12 : decode b_LA_outcomes 12 = .ok (.astore_n 3, 1) := by decide +kernel
theorem d_LA_outcomes_13 : decode b_LA_outcomes 13 = .ok (.iconst 1, 1) := by decide +kernel
theorem d_LA_outcomes_14 : decode b_LA_outcomes 14 = .ok (.ireturn, 1) := by decide +kernel
theorem d_LA_outcomes_15 : decode b_LA_outcomes 15 = .ok (.astore_n 3, 1) := by decide +kernel
theorem d_LA_outcomes_16 : decode b_LA_outcomes 16 = .ok (.iconst 2, 1) := by decide +kernel
theorem d_LA_outcomes_17 : decode b_LA_outcomes 17 = .ok (.ireturn, 1) := by decide +kernel
theorem d_LA_outcomes_18 : decode b_LA_outcomes 18 = .ok (.iconst 0, 1) := by decide +kernel
theorem d_LA_outcomes_19 : decode b_LA_outcomes 19 = .ok (.ireturn, 1) := by decide +kernel
theorem d_LA_outcome_0 : decode b_LA_outcome 0 = .ok (.aload_n 3, 1) := by decide +kernel
theorem d_LA_outcome_1 : decode b_LA_outcome 1 = .ok (.iconst 0, 1) := by decide +kernel
theorem d_LA_outcome_2 : decode b_LA_outcome 2 = .ok (.aload_n 0, 1) := by decide +kernel
theorem d_LA_outcome_3 : decode b_LA_outcome 3 = .ok (.iload_n 1, 1) := by decide +kernel
theorem d_LA_outcome_4 : decode b_LA_outcome 4 = .ok (.iload_n 2, 1) := by decide +kernel
theorem d_LA_outcome_5 : decode b_LA_outcome 5 = .ok (.invokevirtual 21, 3) := by decide +kernel
theorem d_LA_outcome_8 : decode b_LA_outcome 8 = .ok (.lastore, 1) := by decide +kernel
theorem d_LA_outcome_9 : decode b_LA_outcome 9 = .ok (.goto 15, 3) := by decide +kernel
theorem d_LA_outcome_12 : decode b_LA_outcome 12 = .ok (.astore 4, 2) := by decide +kernel
theorem d_LA_outcome_14 : decode b_LA_outcome 14 = .ok (.iconst 1, 1) := by decide +kernel
theorem d_LA_outcome_15 : decode b_LA_outcome 15 = .ok (.ireturn, 1) := by decide +kernel
theorem d_LA_outcome_16 : decode b_LA_outcome 16 = .ok (.astore 4, 2) := by decide +kernel
theorem d_LA_outcome_18 : decode b_LA_outcome 18 = .ok (.iconst 2, 1) := by decide +kernel
theorem d_LA_outcome_19 : decode b_LA_outcome 19 = .ok (.ireturn, 1) := by decide +kernel
theorem d_LA_outcome_20 : decode b_LA_outcome 20 = .ok (.astore 4, 2) := by decide +kernel
theorem d_LA_outcome_22 : decode b_LA_outcome 22 = .ok (.iconst 3, 1) := by decide +kernel
theorem d_LA_outcome_23 : decode b_LA_outcome 23 = .ok (.ireturn, 1) := by decide +kernel
theorem d_LA_outcome_24 : decode b_LA_outcome 24 = .ok (.iconst 0, 1) := by decide +kernel
theorem d_LA_outcome_25 : decode b_LA_outcome 25 = .ok (.ireturn, 1) := by decide +kernel
theorem d_LA_states_0 : decode b_LA_states 0 = .ok (.aload_n 2, 1) := by decide +kernel
theorem d_LA_states_1 : decode b_LA_states 1 = .ok (.iconst 0, 1) := by decide +kernel
theorem d_LA_states_2 : decode b_LA_states 2 = .ok (.aload_n 0, 1) := by decide +kernel
theorem d_LA_states_3 : decode b_LA_states 3 = .ok (.iload_n 1, 1) := by decide +kernel
theorem d_LA_states_4 : decode b_LA_states 4 = .ok (.invokevirtual 27, 3) := by decide +kernel
theorem d_LA_states_7 : decode b_LA_states 7 = .ok (.i2l, 1) := by decide +kernel
theorem d_LA_states_8 : decode b_LA_states 8 = .ok (.lastore, 1) := by decide +kernel
theorem d_LA_states_9 : decode b_LA_states 9 = .ok (.goto 9, 3) := by decide +kernel
theorem d_LA_states_12 : decode b_LA_states 12 = .ok (.astore_n 3, 1) := by decide +kernel
theorem d_LA_states_13 : decode b_LA_states 13 = .ok (.iconst 1, 1) := by decide +kernel
theorem d_LA_states_14 : decode b_LA_states 14 = .ok (.ireturn, 1) := by decide +kernel
theorem d_LA_states_15 : decode b_LA_states 15 = .ok (.astore_n 3, 1) := by decide +kernel
theorem d_LA_states_16 : decode b_LA_states 16 = .ok (.iconst 2, 1) := by decide +kernel
theorem d_LA_states_17 : decode b_LA_states 17 = .ok (.ireturn, 1) := by decide +kernel
theorem d_LA_states_18 : decode b_LA_states 18 = .ok (.iconst 0, 1) := by decide +kernel
theorem d_LA_states_19 : decode b_LA_states 19 = .ok (.ireturn, 1) := by decide +kernel
theorem d_LA_row_0 : decode b_LA_row 0 = .ok (.aload 4, 2) := by decide +kernel
theorem d_LA_row_2 : decode b_LA_row 2 = .ok (.iconst 0, 1) := by decide +kernel
theorem d_LA_row_3 : decode b_LA_row 3 = .ok (.aload_n 0, 1) := by decide +kernel
theorem d_LA_row_4 : decode b_LA_row 4 = .ok (.iload_n 1, 1) := by decide +kernel
theorem d_LA_row_5 : decode b_LA_row 5 = .ok (.iload_n 2, 1) := by decide +kernel
theorem d_LA_row_6 : decode b_LA_row 6 = .ok (.iload_n 3, 1) := by decide +kernel
theorem d_LA_row_7 : decode b_LA_row 7 = .ok (.invokevirtual 30, 3) := by decide +kernel
theorem d_LA_row_10 : decode b_LA_row 10 = .ok (.i2l, 1) := by decide +kernel
theorem d_LA_row_11 : decode b_LA_row 11 = .ok (.lastore, 1) := by decide +kernel
theorem d_LA_row_12 : decode b_LA_row 12 = .ok (.goto 15, 3) := by decide +kernel
theorem d_LA_row_15 : decode b_LA_row 15 = .ok (.astore 5, 2) := by decide +kernel
theorem d_LA_row_17 : decode b_LA_row 17 = .ok (.iconst 1, 1) := by decide +kernel
theorem d_LA_row_18 : decode b_LA_row 18 = .ok (.ireturn, 1) := by decide +kernel
theorem d_LA_row_19 : decode b_LA_row 19 = .ok (.astore 5, 2) := by decide +kernel
theorem d_LA_row_21 : decode b_LA_row 21 = .ok (.iconst 2, 1) := by decide +kernel
theorem d_LA_row_22 : decode b_LA_row 22 = .ok (.ireturn, 1) := by decide +kernel
theorem d_LA_row_23 : decode b_LA_row 23 = .ok (.astore 5, 2) := by decide +kernel
theorem d_LA_row_25 : decode b_LA_row 25 = .ok (.iconst 3, 1) := by decide +kernel
theorem d_LA_row_26 : decode b_LA_row 26 = .ok (.ireturn, 1) := by decide +kernel
theorem d_LA_row_27 : decode b_LA_row 27 = .ok (.iconst 0, 1) := by decide +kernel
theorem d_LA_row_28 : decode b_LA_row 28 = .ok (.ireturn, 1) := by decide +kernel
theorem d_LA_cuts_0 : decode b_LA_cuts 0 = .ok (.aload_n 2, 1) := by decide +kernel
theorem d_LA_cuts_1 : decode b_LA_cuts 1 = .ok (.iconst 0, 1) := by decide +kernel
theorem d_LA_cuts_2 : decode b_LA_cuts 2 = .ok (.aload_n 0, 1) := by decide +kernel
theorem d_LA_cuts_3 : decode b_LA_cuts 3 = .ok (.iload_n 1, 1) := by decide +kernel
theorem d_LA_cuts_4 : decode b_LA_cuts 4 = .ok (.invokevirtual 34, 3) := by decide +kernel
theorem d_LA_cuts_7 : decode b_LA_cuts 7 = .ok (.i2l, 1) := by decide +kernel
theorem d_LA_cuts_8 : decode b_LA_cuts 8 = .ok (.lastore, 1) := by decide +kernel
theorem d_LA_cuts_9 : decode b_LA_cuts 9 = .ok (.goto 9, 3) := by decide +kernel
theorem d_LA_cuts_12 : decode b_LA_cuts 12 = .ok (.astore_n 3, 1) := by decide +kernel
theorem d_LA_cuts_13 : decode b_LA_cuts 13 = .ok (.iconst 1, 1) := by decide +kernel
theorem d_LA_cuts_14 : decode b_LA_cuts 14 = .ok (.ireturn, 1) := by decide +kernel
theorem d_LA_cuts_15 : decode b_LA_cuts 15 = .ok (.astore_n 3, 1) := by decide +kernel
theorem d_LA_cuts_16 : decode b_LA_cuts 16 = .ok (.iconst 2, 1) := by decide +kernel
theorem d_LA_cuts_17 : decode b_LA_cuts 17 = .ok (.ireturn, 1) := by decide +kernel
theorem d_LA_cuts_18 : decode b_LA_cuts 18 = .ok (.iconst 0, 1) := by decide +kernel
theorem d_LA_cuts_19 : decode b_LA_cuts 19 = .ok (.ireturn, 1) := by decide +kernel
theorem d_LA_cut_0 : decode b_LA_cut 0 = .ok (.aload_n 3, 1) := by decide +kernel
theorem d_LA_cut_1 : decode b_LA_cut 1 = .ok (.iconst 0, 1) := by decide +kernel
theorem d_LA_cut_2 : decode b_LA_cut 2 = .ok (.aload_n 0, 1) := by decide +kernel
theorem d_LA_cut_3 : decode b_LA_cut 3 = .ok (.iload_n 1, 1) := by decide +kernel
theorem d_LA_cut_4 : decode b_LA_cut 4 = .ok (.iload_n 2, 1) := by decide +kernel
theorem d_LA_cut_5 : decode b_LA_cut 5 = .ok (.invokevirtual 37, 3) := by decide +kernel
theorem d_LA_cut_8 : decode b_LA_cut 8 = .ok (.i2l, 1) := by decide +kernel
theorem d_LA_cut_9 : decode b_LA_cut 9 = .ok (.lastore, 1) := by decide +kernel
theorem d_LA_cut_10 : decode b_LA_cut 10 = .ok (.goto 15, 3) := by decide +kernel
theorem d_LA_cut_13 : decode b_LA_cut 13 = .ok (.astore 4, 2) := by decide +kernel
theorem d_LA_cut_15 : decode b_LA_cut 15 = .ok (.iconst 1, 1) := by decide +kernel
theorem d_LA_cut_16 : decode b_LA_cut 16 = .ok (.ireturn, 1) := by decide +kernel
theorem d_LA_cut_17 : decode b_LA_cut 17 = .ok (.astore 4, 2) := by decide +kernel
theorem d_LA_cut_19 : decode b_LA_cut 19 = .ok (.iconst 2, 1) := by decide +kernel
theorem d_LA_cut_20 : decode b_LA_cut 20 = .ok (.ireturn, 1) := by decide +kernel
theorem d_LA_cut_21 : decode b_LA_cut 21 = .ok (.astore 4, 2) := by decide +kernel
theorem d_LA_cut_23 : decode b_LA_cut 23 = .ok (.iconst 3, 1) := by decide +kernel
theorem d_LA_cut_24 : decode b_LA_cut 24 = .ok (.ireturn, 1) := by decide +kernel
theorem d_LA_cut_25 : decode b_LA_cut 25 = .ok (.iconst 0, 1) := by decide +kernel
theorem d_LA_cut_26 : decode b_LA_cut 26 = .ok (.ireturn, 1) := by decide +kernel
theorem d_LA_allows_0 : decode b_LA_allows 0 = .ok (.aload 4, 2) := by decide +kernel
theorem d_LA_allows_2 : decode b_LA_allows 2 = .ok (.iconst 0, 1) := by decide +kernel
theorem d_LA_allows_3 : decode b_LA_allows 3 = .ok (.aload_n 0, 1) := by decide +kernel
theorem d_LA_allows_4 : decode b_LA_allows 4 = .ok (.iload_n 1, 1) := by decide +kernel
theorem d_LA_allows_5 : decode b_LA_allows 5 = .ok (.lload_n 2, 1) := by decide +kernel
theorem d_LA_allows_6 : decode b_LA_allows 6 = .ok (.invokevirtual 41, 3) := by decide +kernel
theorem d_LA_allows_9 : decode b_LA_allows 9 = .ok (.ifCond .eq 7, 3) := by decide +kernel
theorem d_LA_allows_12 : decode b_LA_allows 12 = .ok (.lconst 1, 1) := by decide +kernel
theorem d_LA_allows_13 : decode b_LA_allows 13 = .ok (.goto 4, 3) := by decide +kernel
theorem d_LA_allows_16 : decode b_LA_allows 16 = .ok (.lconst 0, 1) := by decide +kernel
theorem d_LA_allows_17 : decode b_LA_allows 17 = .ok (.lastore, 1) := by decide +kernel
theorem d_LA_allows_18 : decode b_LA_allows 18 = .ok (.goto 11, 3) := by decide +kernel
theorem d_LA_allows_21 : decode b_LA_allows 21 = .ok (.astore 5, 2) := by decide +kernel
theorem d_LA_allows_23 : decode b_LA_allows 23 = .ok (.iconst 1, 1) := by decide +kernel
theorem d_LA_allows_24 : decode b_LA_allows 24 = .ok (.ireturn, 1) := by decide +kernel
theorem d_LA_allows_25 : decode b_LA_allows 25 = .ok (.astore 5, 2) := by decide +kernel
theorem d_LA_allows_27 : decode b_LA_allows 27 = .ok (.iconst 2, 1) := by decide +kernel
theorem d_LA_allows_28 : decode b_LA_allows 28 = .ok (.ireturn, 1) := by decide +kernel
theorem d_LA_allows_29 : decode b_LA_allows 29 = .ok (.iconst 0, 1) := by decide +kernel
theorem d_LA_allows_30 : decode b_LA_allows 30 = .ok (.ireturn, 1) := by decide +kernel
theorem d_LA_differs_0 : decode b_LA_differs 0 = .ok (.aload_n 3, 1) := by decide +kernel
theorem d_LA_differs_1 : decode b_LA_differs 1 = .ok (.iconst 0, 1) := by decide +kernel
theorem d_LA_differs_2 : decode b_LA_differs 2 = .ok (.aload_n 0, 1) := by decide +kernel
theorem d_LA_differs_3 : decode b_LA_differs 3 = .ok (.iload_n 1, 1) := by decide +kernel
theorem d_LA_differs_4 : decode b_LA_differs 4 = .ok (.iload_n 2, 1) := by decide +kernel
theorem d_LA_differs_5 : decode b_LA_differs 5 = .ok (.invokevirtual 45, 3) := by decide +kernel
theorem d_LA_differs_8 : decode b_LA_differs 8 = .ok (.lastore, 1) := by decide +kernel
theorem d_LA_differs_9 : decode b_LA_differs 9 = .ok (.goto 11, 3) := by decide +kernel
theorem d_LA_differs_12 : decode b_LA_differs 12 = .ok (.astore 4, 2) := by decide +kernel
theorem d_LA_differs_14 : decode b_LA_differs 14 = .ok (.iconst 1, 1) := by decide +kernel
theorem d_LA_differs_15 : decode b_LA_differs 15 = .ok (.ireturn, 1) := by decide +kernel
theorem d_LA_differs_16 : decode b_LA_differs 16 = .ok (.astore 4, 2) := by decide +kernel
theorem d_LA_differs_18 : decode b_LA_differs 18 = .ok (.iconst 2, 1) := by decide +kernel
theorem d_LA_differs_19 : decode b_LA_differs 19 = .ok (.ireturn, 1) := by decide +kernel
theorem d_LA_differs_20 : decode b_LA_differs 20 = .ok (.iconst 0, 1) := by decide +kernel
theorem d_LA_differs_21 : decode b_LA_differs 21 = .ok (.ireturn, 1) := by decide +kernel
theorem d_LA_soonest_0 : decode b_LA_soonest 0 = .ok (.aload 4, 2) := by decide +kernel
theorem d_LA_soonest_2 : decode b_LA_soonest 2 = .ok (.iconst 0, 1) := by decide +kernel
theorem d_LA_soonest_3 : decode b_LA_soonest 3 = .ok (.aload_n 0, 1) := by decide +kernel
theorem d_LA_soonest_4 : decode b_LA_soonest 4 = .ok (.iload_n 1, 1) := by decide +kernel
theorem d_LA_soonest_5 : decode b_LA_soonest 5 = .ok (.iload_n 2, 1) := by decide +kernel
theorem d_LA_soonest_6 : decode b_LA_soonest 6 = .ok (.iload_n 3, 1) := by decide +kernel
theorem d_LA_soonest_7 : decode b_LA_soonest 7 = .ok (.invokevirtual 48, 3) := by decide +kernel
theorem d_LA_soonest_10 : decode b_LA_soonest 10 = .ok (.i2l, 1) := by decide +kernel
theorem d_LA_soonest_11 : decode b_LA_soonest 11 = .ok (.lastore, 1) := by decide +kernel
theorem d_LA_soonest_12 : decode b_LA_soonest 12 = .ok (.goto 11, 3) := by decide +kernel
theorem d_LA_soonest_15 : decode b_LA_soonest 15 = .ok (.astore 5, 2) := by decide +kernel
theorem d_LA_soonest_17 : decode b_LA_soonest 17 = .ok (.iconst 1, 1) := by decide +kernel
theorem d_LA_soonest_18 : decode b_LA_soonest 18 = .ok (.ireturn, 1) := by decide +kernel
theorem d_LA_soonest_19 : decode b_LA_soonest 19 = .ok (.astore 5, 2) := by decide +kernel
theorem d_LA_soonest_21 : decode b_LA_soonest 21 = .ok (.iconst 2, 1) := by decide +kernel
theorem d_LA_soonest_22 : decode b_LA_soonest 22 = .ok (.ireturn, 1) := by decide +kernel
theorem d_LA_soonest_23 : decode b_LA_soonest 23 = .ok (.iconst 0, 1) := by decide +kernel
theorem d_LA_soonest_24 : decode b_LA_soonest 24 = .ok (.ireturn, 1) := by decide +kernel
theorem d_LA_stuck_0 : decode b_LA_stuck 0 = .ok (.aload_n 2, 1) := by decide +kernel
theorem d_LA_stuck_1 : decode b_LA_stuck 1 = .ok (.iconst 0, 1) := by decide +kernel
theorem d_LA_stuck_2 : decode b_LA_stuck 2 = .ok (.aload_n 0, 1) := by decide +kernel
theorem d_LA_stuck_3 : decode b_LA_stuck 3 = .ok (.iload_n 1, 1) := by decide +kernel
theorem d_LA_stuck_4 : decode b_LA_stuck 4 = .ok (.invokevirtual 51, 3) := by decide +kernel
theorem d_LA_stuck_7 : decode b_LA_stuck 7 = .ok (.i2l, 1) := by decide +kernel
theorem d_LA_stuck_8 : decode b_LA_stuck 8 = .ok (.lastore, 1) := by decide +kernel
theorem d_LA_stuck_9 : decode b_LA_stuck 9 = .ok (.goto 9, 3) := by decide +kernel
theorem d_LA_stuck_12 : decode b_LA_stuck 12 = .ok (.astore_n 3, 1) := by decide +kernel
theorem d_LA_stuck_13 : decode b_LA_stuck 13 = .ok (.iconst 1, 1) := by decide +kernel
theorem d_LA_stuck_14 : decode b_LA_stuck 14 = .ok (.ireturn, 1) := by decide +kernel
theorem d_LA_stuck_15 : decode b_LA_stuck 15 = .ok (.astore_n 3, 1) := by decide +kernel
theorem d_LA_stuck_16 : decode b_LA_stuck 16 = .ok (.iconst 2, 1) := by decide +kernel
theorem d_LA_stuck_17 : decode b_LA_stuck 17 = .ok (.ireturn, 1) := by decide +kernel
theorem d_LA_stuck_18 : decode b_LA_stuck 18 = .ok (.iconst 0, 1) := by decide +kernel
theorem d_LA_stuck_19 : decode b_LA_stuck 19 = .ok (.ireturn, 1) := by decide +kernel
theorem d_LA_law_0 : decode b_LA_law 0 = .ok (.new 8, 3) := by decide +kernel
theorem d_LA_law_3 : decode b_LA_law 3 = .ok (.dup, 1) := by decide +kernel
theorem d_LA_law_4 : decode b_LA_law 4 = .ok (.invokespecial 54, 3) := by decide +kernel
theorem d_LA_law_7 : decode b_LA_law 7 = .ok (.astore_n 1, 1) := by decide +kernel
theorem d_LA_law_8 : decode b_LA_law 8 = .ok (.new 55, 3) := by decide +kernel
theorem d_LA_law_11 : decode b_LA_law 11 = .ok (.dup, 1) := by decide +kernel
theorem d_LA_law_12 : decode b_LA_law 12 = .ok (.invokespecial 57, 3) := by decide +kernel
theorem d_LA_law_15 : decode b_LA_law 15 = .ok (.astore_n 2, 1) := by decide +kernel
theorem d_LA_law_16 : decode b_LA_law 16 = .ok (.iconst 1, 1) := by decide +kernel
theorem d_LA_law_17 : decode b_LA_law 17 = .ok (.newarray .long, 2) := by decide +kernel
theorem d_LA_law_19 : decode b_LA_law 19 = .ok (.astore_n 3, 1) := by decide +kernel
theorem d_LA_law_20 : decode b_LA_law 20 = .ok (.iconst 0, 1) := by decide +kernel
theorem d_LA_law_21 : decode b_LA_law 21 = .ok (.istore 4, 2) := by decide +kernel
theorem d_LA_law_23 : decode b_LA_law 23 = .ok (.iload 4, 2) := by decide +kernel
theorem d_LA_law_25 : decode b_LA_law 25 = .ok (.aload_n 0, 1) := by decide +kernel
theorem d_LA_law_26 : decode b_LA_law 26 = .ok (.arraylength, 1) := by decide +kernel
theorem d_LA_law_27 : decode b_LA_law 27 = .ok (.iconst 5, 1) := by decide +kernel
theorem d_LA_law_28 : decode b_LA_law 28 = .ok (.isub, 1) := by decide +kernel
theorem d_LA_law_29 : decode b_LA_law 29 = .ok (.if_icmp .gt 902, 3) := by decide +kernel
theorem d_LA_law_32 : decode b_LA_law 32 = .ok (.aload_n 0, 1) := by decide +kernel
theorem d_LA_law_33 : decode b_LA_law 33 = .ok (.iload 4, 2) := by decide +kernel
theorem d_LA_law_35 : decode b_LA_law 35 = .ok (.iaload, 1) := by decide +kernel
theorem d_LA_law_36 : decode b_LA_law 36 = .ok (.bipush 15, 2) := by decide +kernel
theorem d_LA_law_38 : decode b_LA_law 38 = .ok (.iand, 1) := by decide +kernel
theorem d_LA_law_39 : decode b_LA_law 39 = .ok (.tableswitch 886 0 12 #[65, 157, 168, 224, 291, 347, 427, 483, 551, 658, 725, 805, 861], 65) := by decide +kernel
theorem d_LA_law_104 : decode b_LA_law 104 = .ok (.aload_n 1, 1) := by decide +kernel
theorem d_LA_law_105 : decode b_LA_law 105 = .ok (.aload_n 0, 1) := by decide +kernel
theorem d_LA_law_106 : decode b_LA_law 106 = .ok (.iload 4, 2) := by decide +kernel
theorem d_LA_law_108 : decode b_LA_law 108 = .ok (.iconst 1, 1) := by decide +kernel
theorem d_LA_law_109 : decode b_LA_law 109 = .ok (.iadd, 1) := by decide +kernel
theorem d_LA_law_110 : decode b_LA_law 110 = .ok (.iaload, 1) := by decide +kernel
theorem d_LA_law_111 : decode b_LA_law 111 = .ok (.aload_n 0, 1) := by decide +kernel
theorem d_LA_law_112 : decode b_LA_law 112 = .ok (.iload 4, 2) := by decide +kernel
theorem d_LA_law_114 : decode b_LA_law 114 = .ok (.iconst 2, 1) := by decide +kernel
theorem d_LA_law_115 : decode b_LA_law 115 = .ok (.iadd, 1) := by decide +kernel
theorem d_LA_law_116 : decode b_LA_law 116 = .ok (.iaload, 1) := by decide +kernel
theorem d_LA_law_117 : decode b_LA_law 117 = .ok (.aload_n 0, 1) := by decide +kernel
theorem d_LA_law_118 : decode b_LA_law 118 = .ok (.iload 4, 2) := by decide +kernel
theorem d_LA_law_120 : decode b_LA_law 120 = .ok (.iconst 3, 1) := by decide +kernel
theorem d_LA_law_121 : decode b_LA_law 121 = .ok (.iadd, 1) := by decide +kernel
theorem d_LA_law_122 : decode b_LA_law 122 = .ok (.iaload, 1) := by decide +kernel
theorem d_LA_law_123 : decode b_LA_law 123 = .ok (.aload_n 0, 1) := by decide +kernel
theorem d_LA_law_124 : decode b_LA_law 124 = .ok (.iload 4, 2) := by decide +kernel
theorem d_LA_law_126 : decode b_LA_law 126 = .ok (.iconst 4, 1) := by decide +kernel
theorem d_LA_law_127 : decode b_LA_law 127 = .ok (.iadd, 1) := by decide +kernel
theorem d_LA_law_128 : decode b_LA_law 128 = .ok (.iaload, 1) := by decide +kernel
theorem d_LA_law_129 : decode b_LA_law 129 = .ok (.aload_n 3, 1) := by decide +kernel
theorem d_LA_law_130 : decode b_LA_law 130 = .ok (.invokestatic 58, 3) := by decide +kernel
theorem d_LA_law_133 : decode b_LA_law 133 = .ok (.istore 5, 2) := by decide +kernel
theorem d_LA_law_135 : decode b_LA_law 135 = .ok (.aload_n 2, 1) := by decide +kernel
theorem d_LA_law_136 : decode b_LA_law 136 = .ok (.aload_n 0, 1) := by decide +kernel
theorem d_LA_law_137 : decode b_LA_law 137 = .ok (.iload 4, 2) := by decide +kernel
theorem d_LA_law_139 : decode b_LA_law 139 = .ok (.iconst 1, 1) := by decide +kernel
theorem d_LA_law_140 : decode b_LA_law 140 = .ok (.iadd, 1) := by decide +kernel
theorem d_LA_law_141 : decode b_LA_law 141 = .ok (.iaload, 1) := by decide +kernel
theorem d_LA_law_142 : decode b_LA_law 142 = .ok (.aload_n 0, 1) := by decide +kernel
theorem d_LA_law_143 : decode b_LA_law 143 = .ok (.iload 4, 2) := by decide +kernel
theorem d_LA_law_145 : decode b_LA_law 145 = .ok (.iconst 2, 1) := by decide +kernel
theorem d_LA_law_146 : decode b_LA_law 146 = .ok (.iadd, 1) := by decide +kernel
theorem d_LA_law_147 : decode b_LA_law 147 = .ok (.iaload, 1) := by decide +kernel
theorem d_LA_law_148 : decode b_LA_law 148 = .ok (.aload_n 0, 1) := by decide +kernel
theorem d_LA_law_149 : decode b_LA_law 149 = .ok (.iload 4, 2) := by decide +kernel
theorem d_LA_law_151 : decode b_LA_law 151 = .ok (.iconst 3, 1) := by decide +kernel
theorem d_LA_law_152 : decode b_LA_law 152 = .ok (.iadd, 1) := by decide +kernel
theorem d_LA_law_153 : decode b_LA_law 153 = .ok (.iaload, 1) := by decide +kernel
theorem d_LA_law_154 : decode b_LA_law 154 = .ok (.aload_n 0, 1) := by decide +kernel
theorem d_LA_law_155 : decode b_LA_law 155 = .ok (.iload 4, 2) := by decide +kernel
theorem d_LA_law_157 : decode b_LA_law 157 = .ok (.iconst 4, 1) := by decide +kernel
theorem d_LA_law_158 : decode b_LA_law 158 = .ok (.iadd, 1) := by decide +kernel
theorem d_LA_law_159 : decode b_LA_law 159 = .ok (.iaload, 1) := by decide +kernel
theorem d_LA_law_160 : decode b_LA_law 160 = .ok (.invokevirtual 63, 3) := by decide +kernel
theorem d_LA_law_163 : decode b_LA_law 163 = .ok (.istore 6, 2) := by decide +kernel
theorem d_LA_law_165 : decode b_LA_law 165 = .ok (.aload_n 2, 1) := by decide +kernel
theorem d_LA_law_166 : decode b_LA_law 166 = .ok (.invokevirtual 64, 3) := by decide +kernel
theorem d_LA_law_169 : decode b_LA_law 169 = .ok (.iload 5, 2) := by decide +kernel
theorem d_LA_law_171 : decode b_LA_law 171 = .ok (.if_icmp .eq 5, 3) := by decide +kernel
theorem d_LA_law_174 : decode b_LA_law 174 = .ok (.iconst 0, 1) := by decide +kernel
theorem d_LA_law_175 : decode b_LA_law 175 = .ok (.ireturn, 1) := by decide +kernel
theorem d_LA_law_176 : decode b_LA_law 176 = .ok (.iload 5, 2) := by decide +kernel
theorem d_LA_law_178 : decode b_LA_law 178 = .ok (.ifCond .ne 15, 3) := by decide +kernel
theorem d_LA_law_181 : decode b_LA_law 181 = .ok (.aload_n 3, 1) := by decide +kernel
theorem d_LA_law_182 : decode b_LA_law 182 = .ok (.iconst 0, 1) := by decide +kernel
theorem d_LA_law_183 : decode b_LA_law 183 = .ok (.laload, 1) := by decide +kernel
theorem d_LA_law_184 : decode b_LA_law 184 = .ok (.iload 6, 2) := by decide +kernel
theorem d_LA_law_186 : decode b_LA_law 186 = .ok (.i2l, 1) := by decide +kernel
theorem d_LA_law_187 : decode b_LA_law 187 = .ok (.lcmp, 1) := by decide +kernel
theorem d_LA_law_188 : decode b_LA_law 188 = .ok (.ifCond .eq 5, 3) := by decide +kernel
theorem d_LA_law_191 : decode b_LA_law 191 = .ok (.iconst 0, 1) := by decide +kernel
theorem d_LA_law_192 : decode b_LA_law 192 = .ok (.ireturn, 1) := by decide +kernel
theorem d_LA_law_193 : decode b_LA_law 193 = .ok (.goto 732, 3) := by decide +kernel
theorem d_LA_law_196 : decode b_LA_law 196 = .ok (.aload_n 1, 1) := by decide +kernel
theorem d_LA_law_197 : decode b_LA_law 197 = .ok (.invokevirtual 68, 3) := by decide +kernel
theorem d_LA_law_200 : decode b_LA_law 200 = .ok (.aload_n 2, 1) := by decide +kernel
theorem d_LA_law_201 : decode b_LA_law 201 = .ok (.invokevirtual 71, 3) := by decide +kernel
theorem d_LA_law_204 : decode b_LA_law 204 = .ok (.goto 721, 3) := by decide +kernel
theorem d_LA_law_207 : decode b_LA_law 207 = .ok (.aload_n 1, 1) := by decide +kernel
theorem d_LA_law_208 : decode b_LA_law 208 = .ok (.aload_n 0, 1) := by decide +kernel
theorem d_LA_law_209 : decode b_LA_law 209 = .ok (.iload 4, 2) := by decide +kernel
theorem d_LA_law_211 : decode b_LA_law 211 = .ok (.iconst 1, 1) := by decide +kernel
theorem d_LA_law_212 : decode b_LA_law 212 = .ok (.iadd, 1) := by decide +kernel
theorem d_LA_law_213 : decode b_LA_law 213 = .ok (.iaload, 1) := by decide +kernel
theorem d_LA_law_214 : decode b_LA_law 214 = .ok (.aload_n 3, 1) := by decide +kernel
theorem d_LA_law_215 : decode b_LA_law 215 = .ok (.invokestatic 72, 3) := by decide +kernel
theorem d_LA_law_218 : decode b_LA_law 218 = .ok (.istore 5, 2) := by decide +kernel
theorem d_LA_law_220 : decode b_LA_law 220 = .ok (.aload_n 2, 1) := by decide +kernel
theorem d_LA_law_221 : decode b_LA_law 221 = .ok (.aload_n 0, 1) := by decide +kernel
theorem d_LA_law_222 : decode b_LA_law 222 = .ok (.iload 4, 2) := by decide +kernel
theorem d_LA_law_224 : decode b_LA_law 224 = .ok (.iconst 1, 1) := by decide +kernel
theorem d_LA_law_225 : decode b_LA_law 225 = .ok (.iadd, 1) := by decide +kernel
theorem d_LA_law_226 : decode b_LA_law 226 = .ok (.iaload, 1) := by decide +kernel
theorem d_LA_law_227 : decode b_LA_law 227 = .ok (.invokevirtual 75, 3) := by decide +kernel
theorem d_LA_law_230 : decode b_LA_law 230 = .ok (.istore 6, 2) := by decide +kernel
theorem d_LA_law_232 : decode b_LA_law 232 = .ok (.aload_n 2, 1) := by decide +kernel
theorem d_LA_law_233 : decode b_LA_law 233 = .ok (.invokevirtual 64, 3) := by decide +kernel
theorem d_LA_law_236 : decode b_LA_law 236 = .ok (.iload 5, 2) := by decide +kernel
theorem d_LA_law_238 : decode b_LA_law 238 = .ok (.if_icmp .eq 5, 3) := by decide +kernel
theorem d_LA_law_241 : decode b_LA_law 241 = .ok (.iconst 0, 1) := by decide +kernel
theorem d_LA_law_242 : decode b_LA_law 242 = .ok (.ireturn, 1) := by decide +kernel
theorem d_LA_law_243 : decode b_LA_law 243 = .ok (.iload 5, 2) := by decide +kernel
theorem d_LA_law_245 : decode b_LA_law 245 = .ok (.ifCond .ne 15, 3) := by decide +kernel
theorem d_LA_law_248 : decode b_LA_law 248 = .ok (.aload_n 3, 1) := by decide +kernel
theorem d_LA_law_249 : decode b_LA_law 249 = .ok (.iconst 0, 1) := by decide +kernel
theorem d_LA_law_250 : decode b_LA_law 250 = .ok (.laload, 1) := by decide +kernel
theorem d_LA_law_251 : decode b_LA_law 251 = .ok (.iload 6, 2) := by decide +kernel
theorem d_LA_law_253 : decode b_LA_law 253 = .ok (.i2l, 1) := by decide +kernel
theorem d_LA_law_254 : decode b_LA_law 254 = .ok (.lcmp, 1) := by decide +kernel
theorem d_LA_law_255 : decode b_LA_law 255 = .ok (.ifCond .eq 5, 3) := by decide +kernel
theorem d_LA_law_258 : decode b_LA_law 258 = .ok (.iconst 0, 1) := by decide +kernel
theorem d_LA_law_259 : decode b_LA_law 259 = .ok (.ireturn, 1) := by decide +kernel
theorem d_LA_law_260 : decode b_LA_law 260 = .ok (.goto 665, 3) := by decide +kernel
theorem d_LA_law_263 : decode b_LA_law 263 = .ok (.aload_n 1, 1) := by decide +kernel
theorem d_LA_law_264 : decode b_LA_law 264 = .ok (.aload_n 0, 1) := by decide +kernel
theorem d_LA_law_265 : decode b_LA_law 265 = .ok (.iload 4, 2) := by decide +kernel
theorem d_LA_law_267 : decode b_LA_law 267 = .ok (.iconst 1, 1) := by decide +kernel
theorem d_LA_law_268 : decode b_LA_law 268 = .ok (.iadd, 1) := by decide +kernel
theorem d_LA_law_269 : decode b_LA_law 269 = .ok (.iaload, 1) := by decide +kernel
theorem d_LA_law_270 : decode b_LA_law 270 = .ok (.aload_n 0, 1) := by decide +kernel
theorem d_LA_law_271 : decode b_LA_law 271 = .ok (.iload 4, 2) := by decide +kernel
theorem d_LA_law_273 : decode b_LA_law 273 = .ok (.iconst 2, 1) := by decide +kernel
theorem d_LA_law_274 : decode b_LA_law 274 = .ok (.iadd, 1) := by decide +kernel
theorem d_LA_law_275 : decode b_LA_law 275 = .ok (.iaload, 1) := by decide +kernel
theorem d_LA_law_276 : decode b_LA_law 276 = .ok (.aload_n 3, 1) := by decide +kernel
theorem d_LA_law_277 : decode b_LA_law 277 = .ok (.invokestatic 76, 3) := by decide +kernel
theorem d_LA_law_280 : decode b_LA_law 280 = .ok (.istore 5, 2) := by decide +kernel
theorem d_LA_law_282 : decode b_LA_law 282 = .ok (.aload_n 2, 1) := by decide +kernel
theorem d_LA_law_283 : decode b_LA_law 283 = .ok (.aload_n 0, 1) := by decide +kernel
theorem d_LA_law_284 : decode b_LA_law 284 = .ok (.iload 4, 2) := by decide +kernel
theorem d_LA_law_286 : decode b_LA_law 286 = .ok (.iconst 1, 1) := by decide +kernel
theorem d_LA_law_287 : decode b_LA_law 287 = .ok (.iadd, 1) := by decide +kernel
theorem d_LA_law_288 : decode b_LA_law 288 = .ok (.iaload, 1) := by decide +kernel
theorem d_LA_law_289 : decode b_LA_law 289 = .ok (.aload_n 0, 1) := by decide +kernel
theorem d_LA_law_290 : decode b_LA_law 290 = .ok (.iload 4, 2) := by decide +kernel
theorem d_LA_law_292 : decode b_LA_law 292 = .ok (.iconst 2, 1) := by decide +kernel
theorem d_LA_law_293 : decode b_LA_law 293 = .ok (.iadd, 1) := by decide +kernel
theorem d_LA_law_294 : decode b_LA_law 294 = .ok (.iaload, 1) := by decide +kernel
theorem d_LA_law_295 : decode b_LA_law 295 = .ok (.invokevirtual 79, 3) := by decide +kernel
theorem d_LA_law_298 : decode b_LA_law 298 = .ok (.lstore 6, 2) := by decide +kernel
theorem d_LA_law_300 : decode b_LA_law 300 = .ok (.aload_n 2, 1) := by decide +kernel
theorem d_LA_law_301 : decode b_LA_law 301 = .ok (.invokevirtual 64, 3) := by decide +kernel
theorem d_LA_law_304 : decode b_LA_law 304 = .ok (.iload 5, 2) := by decide +kernel
theorem d_LA_law_306 : decode b_LA_law 306 = .ok (.if_icmp .eq 5, 3) := by decide +kernel
theorem d_LA_law_309 : decode b_LA_law 309 = .ok (.iconst 0, 1) := by decide +kernel
theorem d_LA_law_310 : decode b_LA_law 310 = .ok (.ireturn, 1) := by decide +kernel
theorem d_LA_law_311 : decode b_LA_law 311 = .ok (.iload 5, 2) := by decide +kernel
theorem d_LA_law_313 : decode b_LA_law 313 = .ok (.ifCond .ne 14, 3) := by decide +kernel
theorem d_LA_law_316 : decode b_LA_law 316 = .ok (.aload_n 3, 1) := by decide +kernel
theorem d_LA_law_317 : decode b_LA_law 317 = .ok (.iconst 0, 1) := by decide +kernel
theorem d_LA_law_318 : decode b_LA_law 318 = .ok (.laload, 1) := by decide +kernel
theorem d_LA_law_319 : decode b_LA_law 319 = .ok (.lload 6, 2) := by decide +kernel
theorem d_LA_law_321 : decode b_LA_law 321 = .ok (.lcmp, 1) := by decide +kernel
theorem d_LA_law_322 : decode b_LA_law 322 = .ok (.ifCond .eq 5, 3) := by decide +kernel
theorem d_LA_law_325 : decode b_LA_law 325 = .ok (.iconst 0, 1) := by decide +kernel
theorem d_LA_law_326 : decode b_LA_law 326 = .ok (.ireturn, 1) := by decide +kernel
theorem d_LA_law_327 : decode b_LA_law 327 = .ok (.goto 598, 3) := by decide +kernel
theorem d_LA_law_330 : decode b_LA_law 330 = .ok (.aload_n 1, 1) := by decide +kernel
theorem d_LA_law_331 : decode b_LA_law 331 = .ok (.aload_n 0, 1) := by decide +kernel
theorem d_LA_law_332 : decode b_LA_law 332 = .ok (.iload 4, 2) := by decide +kernel
theorem d_LA_law_334 : decode b_LA_law 334 = .ok (.iconst 1, 1) := by decide +kernel
theorem d_LA_law_335 : decode b_LA_law 335 = .ok (.iadd, 1) := by decide +kernel
theorem d_LA_law_336 : decode b_LA_law 336 = .ok (.iaload, 1) := by decide +kernel
theorem d_LA_law_337 : decode b_LA_law 337 = .ok (.aload_n 3, 1) := by decide +kernel
theorem d_LA_law_338 : decode b_LA_law 338 = .ok (.invokestatic 80, 3) := by decide +kernel
theorem d_LA_law_341 : decode b_LA_law 341 = .ok (.istore 5, 2) := by decide +kernel
theorem d_LA_law_343 : decode b_LA_law 343 = .ok (.aload_n 2, 1) := by decide +kernel
theorem d_LA_law_344 : decode b_LA_law 344 = .ok (.aload_n 0, 1) := by decide +kernel
theorem d_LA_law_345 : decode b_LA_law 345 = .ok (.iload 4, 2) := by decide +kernel
theorem d_LA_law_347 : decode b_LA_law 347 = .ok (.iconst 1, 1) := by decide +kernel
theorem d_LA_law_348 : decode b_LA_law 348 = .ok (.iadd, 1) := by decide +kernel
theorem d_LA_law_349 : decode b_LA_law 349 = .ok (.iaload, 1) := by decide +kernel
theorem d_LA_law_350 : decode b_LA_law 350 = .ok (.invokevirtual 82, 3) := by decide +kernel
theorem d_LA_law_353 : decode b_LA_law 353 = .ok (.istore 6, 2) := by decide +kernel
theorem d_LA_law_355 : decode b_LA_law 355 = .ok (.aload_n 2, 1) := by decide +kernel
theorem d_LA_law_356 : decode b_LA_law 356 = .ok (.invokevirtual 64, 3) := by decide +kernel
theorem d_LA_law_359 : decode b_LA_law 359 = .ok (.iload 5, 2) := by decide +kernel
theorem d_LA_law_361 : decode b_LA_law 361 = .ok (.if_icmp .eq 5, 3) := by decide +kernel
theorem d_LA_law_364 : decode b_LA_law 364 = .ok (.iconst 0, 1) := by decide +kernel
theorem d_LA_law_365 : decode b_LA_law 365 = .ok (.ireturn, 1) := by decide +kernel
theorem d_LA_law_366 : decode b_LA_law 366 = .ok (.iload 5, 2) := by decide +kernel
theorem d_LA_law_368 : decode b_LA_law 368 = .ok (.ifCond .ne 15, 3) := by decide +kernel
theorem d_LA_law_371 : decode b_LA_law 371 = .ok (.aload_n 3, 1) := by decide +kernel
theorem d_LA_law_372 : decode b_LA_law 372 = .ok (.iconst 0, 1) := by decide +kernel
theorem d_LA_law_373 : decode b_LA_law 373 = .ok (.laload, 1) := by decide +kernel
theorem d_LA_law_374 : decode b_LA_law 374 = .ok (.iload 6, 2) := by decide +kernel
theorem d_LA_law_376 : decode b_LA_law 376 = .ok (.i2l, 1) := by decide +kernel
theorem d_LA_law_377 : decode b_LA_law 377 = .ok (.lcmp, 1) := by decide +kernel
theorem d_LA_law_378 : decode b_LA_law 378 = .ok (.ifCond .eq 5, 3) := by decide +kernel
theorem d_LA_law_381 : decode b_LA_law 381 = .ok (.iconst 0, 1) := by decide +kernel
theorem d_LA_law_382 : decode b_LA_law 382 = .ok (.ireturn, 1) := by decide +kernel
theorem d_LA_law_383 : decode b_LA_law 383 = .ok (.goto 542, 3) := by decide +kernel
theorem d_LA_law_386 : decode b_LA_law 386 = .ok (.aload_n 1, 1) := by decide +kernel
theorem d_LA_law_387 : decode b_LA_law 387 = .ok (.aload_n 0, 1) := by decide +kernel
theorem d_LA_law_388 : decode b_LA_law 388 = .ok (.iload 4, 2) := by decide +kernel
theorem d_LA_law_390 : decode b_LA_law 390 = .ok (.iconst 1, 1) := by decide +kernel
theorem d_LA_law_391 : decode b_LA_law 391 = .ok (.iadd, 1) := by decide +kernel
theorem d_LA_law_392 : decode b_LA_law 392 = .ok (.iaload, 1) := by decide +kernel
theorem d_LA_law_393 : decode b_LA_law 393 = .ok (.aload_n 0, 1) := by decide +kernel
theorem d_LA_law_394 : decode b_LA_law 394 = .ok (.iload 4, 2) := by decide +kernel
theorem d_LA_law_396 : decode b_LA_law 396 = .ok (.iconst 2, 1) := by decide +kernel
theorem d_LA_law_397 : decode b_LA_law 397 = .ok (.iadd, 1) := by decide +kernel
theorem d_LA_law_398 : decode b_LA_law 398 = .ok (.iaload, 1) := by decide +kernel
theorem d_LA_law_399 : decode b_LA_law 399 = .ok (.aload_n 0, 1) := by decide +kernel
theorem d_LA_law_400 : decode b_LA_law 400 = .ok (.iload 4, 2) := by decide +kernel
theorem d_LA_law_402 : decode b_LA_law 402 = .ok (.iconst 3, 1) := by decide +kernel
theorem d_LA_law_403 : decode b_LA_law 403 = .ok (.iadd, 1) := by decide +kernel
theorem d_LA_law_404 : decode b_LA_law 404 = .ok (.iaload, 1) := by decide +kernel
theorem d_LA_law_405 : decode b_LA_law 405 = .ok (.aload_n 3, 1) := by decide +kernel
theorem d_LA_law_406 : decode b_LA_law 406 = .ok (.invokestatic 83, 3) := by decide +kernel
theorem d_LA_law_409 : decode b_LA_law 409 = .ok (.istore 5, 2) := by decide +kernel
theorem d_LA_law_411 : decode b_LA_law 411 = .ok (.aload_n 2, 1) := by decide +kernel
theorem d_LA_law_412 : decode b_LA_law 412 = .ok (.aload_n 0, 1) := by decide +kernel
theorem d_LA_law_413 : decode b_LA_law 413 = .ok (.iload 4, 2) := by decide +kernel
theorem d_LA_law_415 : decode b_LA_law 415 = .ok (.iconst 1, 1) := by decide +kernel
theorem d_LA_law_416 : decode b_LA_law 416 = .ok (.iadd, 1) := by decide +kernel
theorem d_LA_law_417 : decode b_LA_law 417 = .ok (.iaload, 1) := by decide +kernel
theorem d_LA_law_418 : decode b_LA_law 418 = .ok (.aload_n 0, 1) := by decide +kernel
theorem d_LA_law_419 : decode b_LA_law 419 = .ok (.iload 4, 2) := by decide +kernel
theorem d_LA_law_421 : decode b_LA_law 421 = .ok (.iconst 2, 1) := by decide +kernel
theorem d_LA_law_422 : decode b_LA_law 422 = .ok (.iadd, 1) := by decide +kernel
theorem d_LA_law_423 : decode b_LA_law 423 = .ok (.iaload, 1) := by decide +kernel
theorem d_LA_law_424 : decode b_LA_law 424 = .ok (.aload_n 0, 1) := by decide +kernel
theorem d_LA_law_425 : decode b_LA_law 425 = .ok (.iload 4, 2) := by decide +kernel
theorem d_LA_law_427 : decode b_LA_law 427 = .ok (.iconst 3, 1) := by decide +kernel
theorem d_LA_law_428 : decode b_LA_law 428 = .ok (.iadd, 1) := by decide +kernel
theorem d_LA_law_429 : decode b_LA_law 429 = .ok (.iaload, 1) := by decide +kernel
theorem d_LA_law_430 : decode b_LA_law 430 = .ok (.invokevirtual 86, 3) := by decide +kernel
theorem d_LA_law_433 : decode b_LA_law 433 = .ok (.istore 6, 2) := by decide +kernel
theorem d_LA_law_435 : decode b_LA_law 435 = .ok (.aload_n 2, 1) := by decide +kernel
theorem d_LA_law_436 : decode b_LA_law 436 = .ok (.invokevirtual 64, 3) := by decide +kernel
theorem d_LA_law_439 : decode b_LA_law 439 = .ok (.iload 5, 2) := by decide +kernel
theorem d_LA_law_441 : decode b_LA_law 441 = .ok (.if_icmp .eq 5, 3) := by decide +kernel
theorem d_LA_law_444 : decode b_LA_law 444 = .ok (.iconst 0, 1) := by decide +kernel
theorem d_LA_law_445 : decode b_LA_law 445 = .ok (.ireturn, 1) := by decide +kernel
theorem d_LA_law_446 : decode b_LA_law 446 = .ok (.iload 5, 2) := by decide +kernel
theorem d_LA_law_448 : decode b_LA_law 448 = .ok (.ifCond .ne 15, 3) := by decide +kernel
theorem d_LA_law_451 : decode b_LA_law 451 = .ok (.aload_n 3, 1) := by decide +kernel
theorem d_LA_law_452 : decode b_LA_law 452 = .ok (.iconst 0, 1) := by decide +kernel
theorem d_LA_law_453 : decode b_LA_law 453 = .ok (.laload, 1) := by decide +kernel
theorem d_LA_law_454 : decode b_LA_law 454 = .ok (.iload 6, 2) := by decide +kernel
theorem d_LA_law_456 : decode b_LA_law 456 = .ok (.i2l, 1) := by decide +kernel
theorem d_LA_law_457 : decode b_LA_law 457 = .ok (.lcmp, 1) := by decide +kernel
theorem d_LA_law_458 : decode b_LA_law 458 = .ok (.ifCond .eq 5, 3) := by decide +kernel
theorem d_LA_law_461 : decode b_LA_law 461 = .ok (.iconst 0, 1) := by decide +kernel
theorem d_LA_law_462 : decode b_LA_law 462 = .ok (.ireturn, 1) := by decide +kernel
theorem d_LA_law_463 : decode b_LA_law 463 = .ok (.goto 462, 3) := by decide +kernel
theorem d_LA_law_466 : decode b_LA_law 466 = .ok (.aload_n 1, 1) := by decide +kernel
theorem d_LA_law_467 : decode b_LA_law 467 = .ok (.aload_n 0, 1) := by decide +kernel
theorem d_LA_law_468 : decode b_LA_law 468 = .ok (.iload 4, 2) := by decide +kernel
theorem d_LA_law_470 : decode b_LA_law 470 = .ok (.iconst 1, 1) := by decide +kernel
theorem d_LA_law_471 : decode b_LA_law 471 = .ok (.iadd, 1) := by decide +kernel
theorem d_LA_law_472 : decode b_LA_law 472 = .ok (.iaload, 1) := by decide +kernel
theorem d_LA_law_473 : decode b_LA_law 473 = .ok (.aload_n 3, 1) := by decide +kernel
theorem d_LA_law_474 : decode b_LA_law 474 = .ok (.invokestatic 87, 3) := by decide +kernel
theorem d_LA_law_477 : decode b_LA_law 477 = .ok (.istore 5, 2) := by decide +kernel
theorem d_LA_law_479 : decode b_LA_law 479 = .ok (.aload_n 2, 1) := by decide +kernel
theorem d_LA_law_480 : decode b_LA_law 480 = .ok (.aload_n 0, 1) := by decide +kernel
theorem d_LA_law_481 : decode b_LA_law 481 = .ok (.iload 4, 2) := by decide +kernel
theorem d_LA_law_483 : decode b_LA_law 483 = .ok (.iconst 1, 1) := by decide +kernel
theorem d_LA_law_484 : decode b_LA_law 484 = .ok (.iadd, 1) := by decide +kernel
theorem d_LA_law_485 : decode b_LA_law 485 = .ok (.iaload, 1) := by decide +kernel
theorem d_LA_law_486 : decode b_LA_law 486 = .ok (.invokevirtual 89, 3) := by decide +kernel
theorem d_LA_law_489 : decode b_LA_law 489 = .ok (.istore 6, 2) := by decide +kernel
theorem d_LA_law_491 : decode b_LA_law 491 = .ok (.aload_n 2, 1) := by decide +kernel
theorem d_LA_law_492 : decode b_LA_law 492 = .ok (.invokevirtual 64, 3) := by decide +kernel
theorem d_LA_law_495 : decode b_LA_law 495 = .ok (.iload 5, 2) := by decide +kernel
theorem d_LA_law_497 : decode b_LA_law 497 = .ok (.if_icmp .eq 5, 3) := by decide +kernel
theorem d_LA_law_500 : decode b_LA_law 500 = .ok (.iconst 0, 1) := by decide +kernel
theorem d_LA_law_501 : decode b_LA_law 501 = .ok (.ireturn, 1) := by decide +kernel
theorem d_LA_law_502 : decode b_LA_law 502 = .ok (.iload 5, 2) := by decide +kernel
theorem d_LA_law_504 : decode b_LA_law 504 = .ok (.ifCond .ne 15, 3) := by decide +kernel
theorem d_LA_law_507 : decode b_LA_law 507 = .ok (.aload_n 3, 1) := by decide +kernel
theorem d_LA_law_508 : decode b_LA_law 508 = .ok (.iconst 0, 1) := by decide +kernel
theorem d_LA_law_509 : decode b_LA_law 509 = .ok (.laload, 1) := by decide +kernel
theorem d_LA_law_510 : decode b_LA_law 510 = .ok (.iload 6, 2) := by decide +kernel
theorem d_LA_law_512 : decode b_LA_law 512 = .ok (.i2l, 1) := by decide +kernel
theorem d_LA_law_513 : decode b_LA_law 513 = .ok (.lcmp, 1) := by decide +kernel
theorem d_LA_law_514 : decode b_LA_law 514 = .ok (.ifCond .eq 5, 3) := by decide +kernel
theorem d_LA_law_517 : decode b_LA_law 517 = .ok (.iconst 0, 1) := by decide +kernel
theorem d_LA_law_518 : decode b_LA_law 518 = .ok (.ireturn, 1) := by decide +kernel
theorem d_LA_law_519 : decode b_LA_law 519 = .ok (.goto 406, 3) := by decide +kernel
theorem d_LA_law_522 : decode b_LA_law 522 = .ok (.aload_n 1, 1) := by decide +kernel
theorem d_LA_law_523 : decode b_LA_law 523 = .ok (.aload_n 0, 1) := by decide +kernel
theorem d_LA_law_524 : decode b_LA_law 524 = .ok (.iload 4, 2) := by decide +kernel
theorem d_LA_law_526 : decode b_LA_law 526 = .ok (.iconst 1, 1) := by decide +kernel
