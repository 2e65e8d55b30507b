theorem dL_cell_0 : decode cL_cell 0 = .ok (.iload_n 1, 1) := by decide +kernel
theorem dL_cell_1 : decode cL_cell 1 = .ok (.aload_n 0, 1) := by decide +kernel
theorem dL_cell_2 : decode cL_cell 2 = .ok (.arraylength, 1) := by decide +kernel
theorem dL_cell_3 : decode cL_cell 3 = .ok (.if_icmp .ge 9, 3) := by decide +kernel
theorem dL_cell_6 : decode cL_cell 6 = .ok (.aload_n 0, 1) := by decide +kernel
theorem dL_cell_7 : decode cL_cell 7 = .ok (.iload_n 1, 1) := by decide +kernel
theorem dL_cell_8 : decode cL_cell 8 = .ok (.iaload, 1) := by decide +kernel
theorem dL_cell_9 : decode cL_cell 9 = .ok (.goto 4, 3) := by decide +kernel
theorem dL_cell_12 : decode cL_cell 12 = .ok (.iconst 0, 1) := by decide +kernel
theorem dL_cell_13 : decode cL_cell 13 = .ok (.ireturn, 1) := by decide +kernel
theorem dL_members_0 : decode cL_members 0 = .ok (.aload_n 0, 1) := by decide +kernel
theorem dL_members_1 : decode cL_members 1 = .ok (.iload_n 1, 1) := by decide +kernel
theorem dL_members_2 : decode cL_members 2 = .ok (.iload_n 2, 1) := by decide +kernel
theorem dL_members_3 : decode cL_members 3 = .ok (.iload_n 3, 1) := by decide +kernel
theorem dL_members_4 : decode cL_members 4 = .ok (.invokevirtual 7, 3) := by decide +kernel
theorem dL_members_7 : decode cL_members 7 = .ok (.goto 7, 3) := by decide +kernel
theorem dL_members_10 : decode cL_members 10 = .ok (.astore 4, 2) := by decide +kernel
theorem dL_members_12 : decode cL_members 12 = .ok (.iconst 1, 1) := by decide +kernel
theorem dL_members_13 : decode cL_members 13 = .ok (.ireturn, 1) := by decide +kernel
theorem dL_members_14 : decode cL_members 14 = .ok (.iconst 0, 1) := by decide +kernel
theorem dL_members_15 : decode cL_members 15 = .ok (.ireturn, 1) := by decide +kernel
theorem dL_change_0 : decode cL_change 0 = .ok (.aload_n 0, 1) := by decide +kernel
theorem dL_change_1 : decode cL_change 1 = .ok (.iload_n 1, 1) := by decide +kernel
theorem dL_change_2 : decode cL_change 2 = .ok (.iload_n 2, 1) := by decide +kernel
theorem dL_change_3 : decode cL_change 3 = .ok (.invokevirtual 15, 3) := by decide +kernel
theorem dL_change_6 : decode cL_change 6 = .ok (.goto 9, 3) := by decide +kernel
theorem dL_change_9 : decode cL_change 9 = .ok (.astore_n 3, 1) := by decide +kernel
theorem dL_change_10 : decode cL_change 10 = .ok (.iconst 1, 1) := by decide +kernel
theorem dL_change_11 : decode cL_change 11 = .ok (.ireturn, 1) := by decide +kernel
theorem dL_change_12 : decode cL_change 12 = .ok (.astore_n 3, 1) := by decide +kernel
theorem dL_change_13 : decode cL_change 13 = .ok (.iconst 2, 1) := by decide +kernel
theorem dL_change_14 : decode cL_change 14 = .ok (.ireturn, 1) := by decide +kernel
theorem dL_change_15 : decode cL_change 15 = .ok (.iconst 0, 1) := by decide +kernel
theorem dL_change_16 : decode cL_change 16 = .ok (.ireturn, 1) := by decide +kernel
theorem dL_settle_0 : decode cL_settle 0 = .ok (.aload_n 1, 1) := by decide +kernel
theorem dL_settle_1 : decode cL_settle 1 = .ok (.iconst 0, 1) := by decide +kernel
theorem dL_settle_2 : decode cL_settle 2 = .ok (.aload_n 0, 1) := by decide +kernel
theorem dL_settle_3 : decode cL_settle 3 = .ok (.invokevirtual 21, 3) := by decide +kernel
theorem dL_settle_6 : decode cL_settle 6 = .ok (.ifCond .eq 7, 3) := by decide +kernel
theorem dL_settle_9 : decode cL_settle 9 = .ok (.lconst 1, 1) := by decide +kernel
theorem dL_settle_10 : decode cL_settle 10 = .ok (.goto 4, 3) := by decide +kernel
theorem dL_settle_13 : decode cL_settle 13 = .ok (.lconst 0, 1) := by decide +kernel
theorem dL_settle_14 : decode cL_settle 14 = .ok (.lastore, 1) := by decide +kernel
theorem dL_settle_15 : decode cL_settle 15 = .ok (.goto 6, 3) := by decide +kernel
theorem dL_settle_18 : decode cL_settle 18 = .ok (.astore_n 2, 1) := by decide +kernel
theorem dL_settle_19 : decode cL_settle 19 = .ok (.iconst 1, 1) := by decide +kernel
theorem dL_settle_20 : decode cL_settle 20 = .ok (.ireturn, 1) := by decide +kernel
theorem dL_settle_21 : decode cL_settle 21 = .ok (.iconst 0, 1) := by decide +kernel
theorem dL_settle_22 : decode cL_settle 22 = .ok (.ireturn, 1) := by decide +kernel
theorem dL_majority_0 : decode cL_majority 0 = .ok (.aload_n 2, 1) := by decide +kernel
theorem dL_majority_1 : decode cL_majority 1 = .ok (.iconst 0, 1) := by decide +kernel
theorem dL_majority_2 : decode cL_majority 2 = .ok (.aload_n 0, 1) := by decide +kernel
theorem dL_majority_3 : decode cL_majority 3 = .ok (.iload_n 1, 1) := by decide +kernel
theorem dL_majority_4 : decode cL_majority 4 = .ok (.invokevirtual 25, 3) := by decide +kernel
theorem dL_majority_7 : decode cL_majority 7 = .ok (.ifCond .eq 7, 3) := by decide +kernel
theorem dL_majority_10 : decode cL_majority 10 = .ok (.lconst 1, 1) := by decide +kernel
theorem dL_majority_11 : decode cL_majority 11 = .ok (.goto 4, 3) := by decide +kernel
theorem dL_majority_14 : decode cL_majority 14 = .ok (.lconst 0, 1) := by decide +kernel
theorem dL_majority_15 : decode cL_majority 15 = .ok (.lastore, 1) := by decide +kernel
theorem dL_majority_16 : decode cL_majority 16 = .ok (.goto 6, 3) := by decide +kernel
theorem dL_majority_19 : decode cL_majority 19 = .ok (.astore_n 3, 1) := by decide +kernel
theorem dL_majority_20 : decode cL_majority 20 = .ok (.iconst 1, 1) := by decide +kernel
theorem dL_majority_21 : decode cL_majority 21 = .ok (.ireturn, 1) := by decide +kernel
theorem dL_majority_22 : decode cL_majority 22 = .ok (.iconst 0, 1) := by decide +kernel
theorem dL_majority_23 : decode cL_majority 23 = .ok (.ireturn, 1) := by decide +kernel
theorem dL_vote_0 : decode cL_vote 0 = .ok (.aload_n 2, 1) := by decide +kernel
theorem dL_vote_1 : decode cL_vote 1 = .ok (.iconst 0, 1) := by decide +kernel
theorem dL_vote_2 : decode cL_vote 2 = .ok (.aload_n 0, 1) := by decide +kernel
theorem dL_vote_3 : decode cL_vote 3 = .ok (.iload_n 1, 1) := by decide +kernel
theorem dL_vote_4 : decode cL_vote 4 = .ok (.invokevirtual 29, 3) := by decide +kernel
theorem dL_vote_7 : decode cL_vote 7 = .ok (.ifCond .eq 7, 3) := by decide +kernel
theorem dL_vote_10 : decode cL_vote 10 = .ok (.lconst 1, 1) := by decide +kernel
theorem dL_vote_11 : decode cL_vote 11 = .ok (.goto 4, 3) := by decide +kernel
theorem dL_vote_14 : decode cL_vote 14 = .ok (.lconst 0, 1) := by decide +kernel
theorem dL_vote_15 : decode cL_vote 15 = .ok (.lastore, 1) := by decide +kernel
theorem dL_vote_16 : decode cL_vote 16 = .ok (.goto 6, 3) := by decide +kernel
theorem dL_vote_19 : decode cL_vote 19 = .ok (.astore_n 3, 1) := by decide +kernel
theorem dL_vote_20 : decode cL_vote 20 = .ok (.iconst 1, 1) := by decide +kernel
theorem dL_vote_21 : decode cL_vote 21 = .ok (.ireturn, 1) := by decide +kernel
theorem dL_vote_22 : decode cL_vote 22 = .ok (.iconst 0, 1) := by decide +kernel
theorem dL_vote_23 : decode cL_vote 23 = .ok (.ireturn, 1) := by decide +kernel
theorem dL_lead_0 : decode cL_lead 0 = .ok (.aload_n 0, 1) := by decide +kernel
theorem dL_lead_1 : decode cL_lead 1 = .ok (.iload_n 1, 1) := by decide +kernel
theorem dL_lead_2 : decode cL_lead 2 = .ok (.iload_n 2, 1) := by decide +kernel
theorem dL_lead_3 : decode cL_lead 3 = .ok (.invokevirtual 34, 3) := by decide +kernel
theorem dL_lead_6 : decode cL_lead 6 = .ok (.goto 6, 3) := by decide +kernel
theorem dL_lead_9 : decode cL_lead 9 = .ok (.astore_n 3, 1) := by decide +kernel
theorem dL_lead_10 : decode cL_lead 10 = .ok (.iconst 1, 1) := by decide +kernel
theorem dL_lead_11 : decode cL_lead 11 = .ok (.ireturn, 1) := by decide +kernel
theorem dL_lead_12 : decode cL_lead 12 = .ok (.iconst 0, 1) := by decide +kernel
theorem dL_lead_13 : decode cL_lead 13 = .ok (.ireturn, 1) := by decide +kernel
theorem dL_sending_0 : decode cL_sending 0 = .ok (.aload 5, 2) := by decide +kernel
theorem dL_sending_2 : decode cL_sending 2 = .ok (.iconst 0, 1) := by decide +kernel
theorem dL_sending_3 : decode cL_sending 3 = .ok (.aload_n 0, 1) := by decide +kernel
theorem dL_sending_4 : decode cL_sending 4 = .ok (.iload_n 1, 1) := by decide +kernel
theorem dL_sending_5 : decode cL_sending 5 = .ok (.iload_n 2, 1) := by decide +kernel
theorem dL_sending_6 : decode cL_sending 6 = .ok (.iload_n 3, 1) := by decide +kernel
theorem dL_sending_7 : decode cL_sending 7 = .ok (.iload 4, 2) := by decide +kernel
theorem dL_sending_9 : decode cL_sending 9 = .ok (.invokevirtual 37, 3) := by decide +kernel
theorem dL_sending_12 : decode cL_sending 12 = .ok (.i2l, 1) := by decide +kernel
theorem dL_sending_13 : decode cL_sending 13 = .ok (.lastore, 1) := by decide +kernel
theorem dL_sending_14 : decode cL_sending 14 = .ok (.goto 11, 3) := by decide +kernel
theorem dL_sending_17 : decode cL_sending 17 = .ok (.astore 6, 2) := by decide +kernel
theorem dL_sending_19 : decode cL_sending 19 = .ok (.iconst 1, 1) := by decide +kernel
theorem dL_sending_20 : decode cL_sending 20 = .ok (.ireturn, 1) := by decide +kernel
theorem dL_sending_21 : decode cL_sending 21 = .ok (.astore 6, 2) := by decide +kernel
theorem dL_sending_23 : decode cL_sending 23 = .ok (.iconst 2, 1) := by decide +kernel
theorem dL_sending_24 : decode cL_sending 24 = .ok (.ireturn, 1) := by decide +kernel
theorem dL_sending_25 : decode cL_sending 25 = .ok (.iconst 0, 1) := by decide +kernel
theorem dL_sending_26 : decode cL_sending 26 = .ok (.ireturn, 1) := by decide +kernel
theorem dL_matched_0 : decode cL_matched 0 = .ok (.aload 5, 2) := by decide +kernel
theorem dL_matched_2 : decode cL_matched 2 = .ok (.iconst 0, 1) := by decide +kernel
theorem dL_matched_3 : decode cL_matched 3 = .ok (.aload_n 0, 1) := by decide +kernel
theorem dL_matched_4 : decode cL_matched 4 = .ok (.iload_n 1, 1) := by decide +kernel
theorem dL_matched_5 : decode cL_matched 5 = .ok (.iload_n 2, 1) := by decide +kernel
theorem dL_matched_6 : decode cL_matched 6 = .ok (.iload_n 3, 1) := by decide +kernel
theorem dL_matched_7 : decode cL_matched 7 = .ok (.iload 4, 2) := by decide +kernel
theorem dL_matched_9 : decode cL_matched 9 = .ok (.invokevirtual 41, 3) := by decide +kernel
theorem dL_matched_12 : decode cL_matched 12 = .ok (.i2l, 1) := by decide +kernel
theorem dL_matched_13 : decode cL_matched 13 = .ok (.lastore, 1) := by decide +kernel
theorem dL_matched_14 : decode cL_matched 14 = .ok (.goto 11, 3) := by decide +kernel
theorem dL_matched_17 : decode cL_matched 17 = .ok (.astore 6, 2) := by decide +kernel
theorem dL_matched_19 : decode cL_matched 19 = .ok (.iconst 1, 1) := by decide +kernel
theorem dL_matched_20 : decode cL_matched 20 = .ok (.ireturn, 1) := by decide +kernel
theorem dL_matched_21 : decode cL_matched 21 = .ok (.astore 6, 2) := by decide +kernel
theorem dL_matched_23 : decode cL_matched 23 = .ok (.iconst 2, 1) := by decide +kernel
theorem dL_matched_24 : decode cL_matched 24 = .ok (.ireturn, 1) := by decide +kernel
theorem dL_matched_25 : decode cL_matched 25 = .ok (.iconst 0, 1) := by decide +kernel
theorem dL_matched_26 : decode cL_matched 26 = .ok (.ireturn, 1) := by decide +kernel
theorem dL_refused_0 : decode cL_refused 0 = .ok (.aload 6, 2) := by decide +kernel
theorem dL_refused_2 : decode cL_refused 2 = .ok (.iconst 0, 1) := by decide +kernel
theorem dL_refused_3 : decode cL_refused 3 = .ok (.aload_n 0, 1) := by decide +kernel
theorem dL_refused_4 : decode cL_refused 4 = .ok (.iload_n 1, 1) := by decide +kernel
theorem dL_refused_5 : decode cL_refused 5 = .ok (.iload_n 2, 1) := by decide +kernel
theorem dL_refused_6 : decode cL_refused 6 = .ok (.iload_n 3, 1) := by decide +kernel
theorem dL_refused_7 : decode cL_refused 7 = .ok (.iload 4, 2) := by decide +kernel
theorem dL_refused_9 : decode cL_refused 9 = .ok (.iload 5, 2) := by decide +kernel
theorem dL_refused_11 : decode cL_refused 11 = .ok (.invokevirtual 45, 3) := by decide +kernel
theorem dL_refused_14 : decode cL_refused 14 = .ok (.i2l, 1) := by decide +kernel
theorem dL_refused_15 : decode cL_refused 15 = .ok (.lastore, 1) := by decide +kernel
theorem dL_refused_16 : decode cL_refused 16 = .ok (.goto 11, 3) := by decide +kernel
theorem dL_refused_19 : decode cL_refused 19 = .ok (.astore 7, 2) := by decide +kernel
theorem dL_refused_21 : decode cL_refused 21 = .ok (.iconst 1, 1) := by decide +kernel
theorem dL_refused_22 : decode cL_refused 22 = .ok (.ireturn, 1) := by decide +kernel
theorem dL_refused_23 : decode cL_refused 23 = .ok (.astore 7, 2) := by decide +kernel
theorem dL_refused_25 : decode cL_refused 25 = .ok (.iconst 2, 1) := by decide +kernel
theorem dL_refused_26 : decode cL_refused 26 = .ok (.ireturn, 1) := by decide +kernel
theorem dL_refused_27 : decode cL_refused 27 = .ok (.iconst 0, 1) := by decide +kernel
theorem dL_refused_28 : decode cL_refused 28 = .ok (.ireturn, 1) := by decide +kernel
theorem dL_stored_0 : decode cL_stored 0 = .ok (.aload 7, 2) := by decide +kernel
theorem dL_stored_2 : decode cL_stored 2 = .ok (.iconst 0, 1) := by decide +kernel
theorem dL_stored_3 : decode cL_stored 3 = .ok (.aload_n 0, 1) := by decide +kernel
theorem dL_stored_4 : decode cL_stored 4 = .ok (.iload_n 1, 1) := by decide +kernel
theorem dL_stored_5 : decode cL_stored 5 = .ok (.iload_n 2, 1) := by decide +kernel
theorem dL_stored_6 : decode cL_stored 6 = .ok (.iload_n 3, 1) := by decide +kernel
theorem dL_stored_7 : decode cL_stored 7 = .ok (.iload 4, 2) := by decide +kernel
theorem dL_stored_9 : decode cL_stored 9 = .ok (.iload 5, 2) := by decide +kernel
theorem dL_stored_11 : decode cL_stored 11 = .ok (.iload 6, 2) := by decide +kernel
theorem dL_stored_13 : decode cL_stored 13 = .ok (.invokevirtual 49, 3) := by decide +kernel
theorem dL_stored_16 : decode cL_stored 16 = .ok (.ifCond .eq 7, 3) := by decide +kernel
theorem dL_stored_19 : decode cL_stored 19 = .ok (.lconst 1, 1) := by decide +kernel
theorem dL_stored_20 : decode cL_stored 20 = .ok (.goto 4, 3) := by decide +kernel
theorem dL_stored_23 : decode cL_stored 23 = .ok (.lconst 0, 1) := by decide +kernel
theorem dL_stored_24 : decode cL_stored 24 = .ok (.lastore, 1) := by decide +kernel
theorem dL_stored_25 : decode cL_stored 25 = .ok (.goto 11, 3) := by decide +kernel
theorem dL_stored_28 : decode cL_stored 28 = .ok (.astore 8, 2) := by decide +kernel
theorem dL_stored_30 : decode cL_stored 30 = .ok (.iconst 1, 1) := by decide +kernel
theorem dL_stored_31 : decode cL_stored 31 = .ok (.ireturn, 1) := by decide +kernel
theorem dL_stored_32 : decode cL_stored 32 = .ok (.astore 8, 2) := by decide +kernel
theorem dL_stored_34 : decode cL_stored 34 = .ok (.iconst 2, 1) := by decide +kernel
theorem dL_stored_35 : decode cL_stored 35 = .ok (.ireturn, 1) := by decide +kernel
theorem dL_stored_36 : decode cL_stored 36 = .ok (.iconst 0, 1) := by decide +kernel
theorem dL_stored_37 : decode cL_stored 37 = .ok (.ireturn, 1) := by decide +kernel
theorem dL_own_0 : decode cL_own 0 = .ok (.aload_n 0, 1) := by decide +kernel
theorem dL_own_1 : decode cL_own 1 = .ok (.iload_n 1, 1) := by decide +kernel
theorem dL_own_2 : decode cL_own 2 = .ok (.iload_n 2, 1) := by decide +kernel
theorem dL_own_3 : decode cL_own 3 = .ok (.invokevirtual 53, 3) := by decide +kernel
theorem dL_own_6 : decode cL_own 6 = .ok (.goto 6, 3) := by decide +kernel
theorem dL_own_9 : decode cL_own 9 = .ok (.astore_n 3, 1) := by decide +kernel
theorem dL_own_10 : decode cL_own 10 = .ok (.iconst 1, 1) := by decide +kernel
theorem dL_own_11 : decode cL_own 11 = .ok (.ireturn, 1) := by decide +kernel
theorem dL_own_12 : decode cL_own 12 = .ok (.iconst 0, 1) := by decide +kernel
theorem dL_own_13 : decode cL_own 13 = .ok (.ireturn, 1) := by decide +kernel
theorem dL_agreed_0 : decode cL_agreed 0 = .ok (.aload_n 2, 1) := by decide +kernel
theorem dL_agreed_1 : decode cL_agreed 1 = .ok (.iconst 0, 1) := by decide +kernel
theorem dL_agreed_2 : decode cL_agreed 2 = .ok (.aload_n 0, 1) := by decide +kernel
theorem dL_agreed_3 : decode cL_agreed 3 = .ok (.iload_n 1, 1) := by decide +kernel
theorem dL_agreed_4 : decode cL_agreed 4 = .ok (.invokevirtual 56, 3) := by decide +kernel
theorem dL_agreed_7 : decode cL_agreed 7 = .ok (.i2l, 1) := by decide +kernel
theorem dL_agreed_8 : decode cL_agreed 8 = .ok (.lastore, 1) := by decide +kernel
theorem dL_agreed_9 : decode cL_agreed 9 = .ok (.goto 6, 3) := by decide +kernel
theorem dL_agreed_12 : decode cL_agreed 12 = .ok (.astore_n 3, 1) := by decide +kernel
theorem dL_agreed_13 : decode cL_agreed 13 = .ok (.iconst 1, 1) := by decide +kernel
theorem dL_agreed_14 : decode cL_agreed 14 = .ok (.ireturn, 1) := by decide +kernel
theorem dL_agreed_15 : decode cL_agreed 15 = .ok (.iconst 0, 1) := by decide +kernel
theorem dL_agreed_16 : decode cL_agreed 16 = .ok (.ireturn, 1) := by decide +kernel
theorem dL_server_0 : decode cL_server 0 = .ok (.aload_n 3, 1) := by decide +kernel
theorem dL_server_1 : decode cL_server 1 = .ok (.iconst 0, 1) := by decide +kernel
theorem dL_server_2 : decode cL_server 2 = .ok (.aload_n 0, 1) := by decide +kernel
theorem dL_server_3 : decode cL_server 3 = .ok (.iload_n 1, 1) := by decide +kernel
theorem dL_server_4 : decode cL_server 4 = .ok (.iload_n 2, 1) := by decide +kernel
theorem dL_server_5 : decode cL_server 5 = .ok (.invokevirtual 60, 3) := by decide +kernel
theorem dL_server_8 : decode cL_server 8 = .ok (.i2l, 1) := by decide +kernel
theorem dL_server_9 : decode cL_server 9 = .ok (.lastore, 1) := by decide +kernel
theorem dL_server_10 : decode cL_server 10 = .ok (.goto 7, 3) := by decide +kernel
theorem dL_server_13 : decode cL_server 13 = .ok (.astore 4, 2) := by decide +kernel
theorem dL_server_15 : decode cL_server 15 = .ok (.iconst 1, 1) := by decide +kernel
theorem dL_server_16 : decode cL_server 16 = .ok (.ireturn, 1) := by decide +kernel
theorem dL_server_17 : decode cL_server 17 = .ok (.iconst 0, 1) := by decide +kernel
theorem dL_server_18 : decode cL_server 18 = .ok (.ireturn, 1) := by decide +kernel
theorem dL_law_0 : decode cL_law 0 = .ok (.new 8, 3) := by decide +kernel
theorem dL_law_3 : decode cL_law 3 = .ok (.dup, 1) := by decide +kernel
theorem dL_law_4 : decode cL_law 4 = .ok (.aload_n 0, 1) := by decide +kernel
theorem dL_law_5 : decode cL_law 5 = .ok (.iconst 0, 1) := by decide +kernel
theorem dL_law_6 : decode cL_law 6 = .ok (.invokestatic 64, 3) := by decide +kernel
theorem dL_law_9 : decode cL_law 9 = .ok (.aload_n 0, 1) := by decide +kernel
theorem dL_law_10 : decode cL_law 10 = .ok (.iconst 1, 1) := by decide +kernel
theorem dL_law_11 : decode cL_law 11 = .ok (.invokestatic 64, 3) := by decide +kernel
theorem dL_law_14 : decode cL_law 14 = .ok (.invokespecial 70, 3) := by decide +kernel
theorem dL_law_17 : decode cL_law 17 = .ok (.astore_n 1, 1) := by decide +kernel
theorem dL_law_18 : decode cL_law 18 = .ok (.new 72, 3) := by decide +kernel
theorem dL_law_21 : decode cL_law 21 = .ok (.dup, 1) := by decide +kernel
theorem dL_law_22 : decode cL_law 22 = .ok (.aload_n 0, 1) := by decide +kernel
theorem dL_law_23 : decode cL_law 23 = .ok (.iconst 0, 1) := by decide +kernel
theorem dL_law_24 : decode cL_law 24 = .ok (.invokestatic 64, 3) := by decide +kernel
theorem dL_law_27 : decode cL_law 27 = .ok (.aload_n 0, 1) := by decide +kernel
theorem dL_law_28 : decode cL_law 28 = .ok (.iconst 1, 1) := by decide +kernel
theorem dL_law_29 : decode cL_law 29 = .ok (.invokestatic 64, 3) := by decide +kernel
theorem dL_law_32 : decode cL_law 32 = .ok (.invokespecial 74, 3) := by decide +kernel
theorem dL_law_35 : decode cL_law 35 = .ok (.astore_n 2, 1) := by decide +kernel
theorem dL_law_36 : decode cL_law 36 = .ok (.iconst 1, 1) := by decide +kernel
theorem dL_law_37 : decode cL_law 37 = .ok (.newarray .long, 2) := by decide +kernel
theorem dL_law_39 : decode cL_law 39 = .ok (.astore_n 3, 1) := by decide +kernel
theorem dL_law_40 : decode cL_law 40 = .ok (.iconst 2, 1) := by decide +kernel
theorem dL_law_41 : decode cL_law 41 = .ok (.istore 4, 2) := by decide +kernel
theorem dL_law_43 : decode cL_law 43 = .ok (.iload 4, 2) := by decide +kernel
theorem dL_law_45 : decode cL_law 45 = .ok (.aload_n 0, 1) := by decide +kernel
theorem dL_law_46 : decode cL_law 46 = .ok (.arraylength, 1) := by decide +kernel
theorem dL_law_47 : decode cL_law 47 = .ok (.bipush 7, 2) := by decide +kernel
theorem dL_law_49 : decode cL_law 49 = .ok (.isub, 1) := by decide +kernel
theorem dL_law_50 : decode cL_law 50 = .ok (.if_icmp .gt 1079, 3) := by decide +kernel
theorem dL_law_53 : decode cL_law 53 = .ok (.aload_n 0, 1) := by decide +kernel
theorem dL_law_54 : decode cL_law 54 = .ok (.iload 4, 2) := by decide +kernel
theorem dL_law_56 : decode cL_law 56 = .ok (.iaload, 1) := by decide +kernel
theorem dL_law_57 : decode cL_law 57 = .ok (.bipush 15, 2) := by decide +kernel
theorem dL_law_59 : decode cL_law 59 = .ok (.iand, 1) := by decide +kernel
theorem dL_law_60 : decode cL_law 60 = .ok (.tableswitch 1063 0 15 #[80, 140, 188, 239, 302, 313, 376, 424, 437, 545, 637, 741, 866, 914, 970, 1038], 80) := by decide +kernel
theorem dL_law_140 : decode cL_law 140 = .ok (.aload_n 1, 1) := by decide +kernel
theorem dL_law_141 : decode cL_law 141 = .ok (.aload_n 0, 1) := by decide +kernel
theorem dL_law_142 : decode cL_law 142 = .ok (.iload 4, 2) := by decide +kernel
theorem dL_law_144 : decode cL_law 144 = .ok (.iconst 1, 1) := by decide +kernel
theorem dL_law_145 : decode cL_law 145 = .ok (.iadd, 1) := by decide +kernel
theorem dL_law_146 : decode cL_law 146 = .ok (.iaload, 1) := by decide +kernel
theorem dL_law_147 : decode cL_law 147 = .ok (.aload_n 0, 1) := by decide +kernel
theorem dL_law_148 : decode cL_law 148 = .ok (.iload 4, 2) := by decide +kernel
theorem dL_law_150 : decode cL_law 150 = .ok (.iconst 2, 1) := by decide +kernel
theorem dL_law_151 : decode cL_law 151 = .ok (.iadd, 1) := by decide +kernel
theorem dL_law_152 : decode cL_law 152 = .ok (.iaload, 1) := by decide +kernel
theorem dL_law_153 : decode cL_law 153 = .ok (.aload_n 0, 1) := by decide +kernel
theorem dL_law_154 : decode cL_law 154 = .ok (.iload 4, 2) := by decide +kernel
theorem dL_law_156 : decode cL_law 156 = .ok (.iconst 3, 1) := by decide +kernel
theorem dL_law_157 : decode cL_law 157 = .ok (.iadd, 1) := by decide +kernel
theorem dL_law_158 : decode cL_law 158 = .ok (.iaload, 1) := by decide +kernel
theorem dL_law_159 : decode cL_law 159 = .ok (.invokestatic 75, 3) := by decide +kernel
theorem dL_law_162 : decode cL_law 162 = .ok (.istore 5, 2) := by decide +kernel
theorem dL_law_164 : decode cL_law 164 = .ok (.aload_n 2, 1) := by decide +kernel
theorem dL_law_165 : decode cL_law 165 = .ok (.aload_n 0, 1) := by decide +kernel
theorem dL_law_166 : decode cL_law 166 = .ok (.iload 4, 2) := by decide +kernel
theorem dL_law_168 : decode cL_law 168 = .ok (.iconst 1, 1) := by decide +kernel
theorem dL_law_169 : decode cL_law 169 = .ok (.iadd, 1) := by decide +kernel
theorem dL_law_170 : decode cL_law 170 = .ok (.iaload, 1) := by decide +kernel
theorem dL_law_171 : decode cL_law 171 = .ok (.aload_n 0, 1) := by decide +kernel
theorem dL_law_172 : decode cL_law 172 = .ok (.iload 4, 2) := by decide +kernel
theorem dL_law_174 : decode cL_law 174 = .ok (.iconst 2, 1) := by decide +kernel
theorem dL_law_175 : decode cL_law 175 = .ok (.iadd, 1) := by decide +kernel
theorem dL_law_176 : decode cL_law 176 = .ok (.iaload, 1) := by decide +kernel
theorem dL_law_177 : decode cL_law 177 = .ok (.aload_n 0, 1) := by decide +kernel
theorem dL_law_178 : decode cL_law 178 = .ok (.iload 4, 2) := by decide +kernel
theorem dL_law_180 : decode cL_law 180 = .ok (.iconst 3, 1) := by decide +kernel
theorem dL_law_181 : decode cL_law 181 = .ok (.iadd, 1) := by decide +kernel
theorem dL_law_182 : decode cL_law 182 = .ok (.iaload, 1) := by decide +kernel
theorem dL_law_183 : decode cL_law 183 = .ok (.invokevirtual 78, 3) := by decide +kernel
theorem dL_law_186 : decode cL_law 186 = .ok (.aload_n 2, 1) := by decide +kernel
theorem dL_law_187 : decode cL_law 187 = .ok (.invokevirtual 79, 3) := by decide +kernel
theorem dL_law_190 : decode cL_law 190 = .ok (.iload 5, 2) := by decide +kernel
theorem dL_law_192 : decode cL_law 192 = .ok (.if_icmp .eq 5, 3) := by decide +kernel
theorem dL_law_195 : decode cL_law 195 = .ok (.iconst 0, 1) := by decide +kernel
theorem dL_law_196 : decode cL_law 196 = .ok (.ireturn, 1) := by decide +kernel
theorem dL_law_197 : decode cL_law 197 = .ok (.goto 926, 3) := by decide +kernel
theorem dL_law_200 : decode cL_law 200 = .ok (.aload_n 1, 1) := by decide +kernel
theorem dL_law_201 : decode cL_law 201 = .ok (.aload_n 0, 1) := by decide +kernel
theorem dL_law_202 : decode cL_law 202 = .ok (.iload 4, 2) := by decide +kernel
theorem dL_law_204 : decode cL_law 204 = .ok (.iconst 1, 1) := by decide +kernel
theorem dL_law_205 : decode cL_law 205 = .ok (.iadd, 1) := by decide +kernel
theorem dL_law_206 : decode cL_law 206 = .ok (.iaload, 1) := by decide +kernel
theorem dL_law_207 : decode cL_law 207 = .ok (.aload_n 0, 1) := by decide +kernel
theorem dL_law_208 : decode cL_law 208 = .ok (.iload 4, 2) := by decide +kernel
theorem dL_law_210 : decode cL_law 210 = .ok (.iconst 2, 1) := by decide +kernel
theorem dL_law_211 : decode cL_law 211 = .ok (.iadd, 1) := by decide +kernel
theorem dL_law_212 : decode cL_law 212 = .ok (.iaload, 1) := by decide +kernel
theorem dL_law_213 : decode cL_law 213 = .ok (.invokestatic 83, 3) := by decide +kernel
theorem dL_law_216 : decode cL_law 216 = .ok (.istore 5, 2) := by decide +kernel
theorem dL_law_218 : decode cL_law 218 = .ok (.aload_n 2, 1) := by decide +kernel
theorem dL_law_219 : decode cL_law 219 = .ok (.aload_n 0, 1) := by decide +kernel
theorem dL_law_220 : decode cL_law 220 = .ok (.iload 4, 2) := by decide +kernel
theorem dL_law_222 : decode cL_law 222 = .ok (.iconst 1, 1) := by decide +kernel
theorem dL_law_223 : decode cL_law 223 = .ok (.iadd, 1) := by decide +kernel
theorem dL_law_224 : decode cL_law 224 = .ok (.iaload, 1) := by decide +kernel
theorem dL_law_225 : decode cL_law 225 = .ok (.aload_n 0, 1) := by decide +kernel
theorem dL_law_226 : decode cL_law 226 = .ok (.iload 4, 2) := by decide +kernel
theorem dL_law_228 : decode cL_law 228 = .ok (.iconst 2, 1) := by decide +kernel
theorem dL_law_229 : decode cL_law 229 = .ok (.iadd, 1) := by decide +kernel
theorem dL_law_230 : decode cL_law 230 = .ok (.iaload, 1) := by decide +kernel
theorem dL_law_231 : decode cL_law 231 = .ok (.invokevirtual 86, 3) := by decide +kernel
theorem dL_law_234 : decode cL_law 234 = .ok (.aload_n 2, 1) := by decide +kernel
theorem dL_law_235 : decode cL_law 235 = .ok (.invokevirtual 79, 3) := by decide +kernel
theorem dL_law_238 : decode cL_law 238 = .ok (.iload 5, 2) := by decide +kernel
theorem dL_law_240 : decode cL_law 240 = .ok (.if_icmp .eq 5, 3) := by decide +kernel
theorem dL_law_243 : decode cL_law 243 = .ok (.iconst 0, 1) := by decide +kernel
theorem dL_law_244 : decode cL_law 244 = .ok (.ireturn, 1) := by decide +kernel
theorem dL_law_245 : decode cL_law 245 = .ok (.goto 878, 3) := by decide +kernel
theorem dL_law_248 : decode cL_law 248 = .ok (.aload_n 1, 1) := by decide +kernel
theorem dL_law_249 : decode cL_law 249 = .ok (.aload_n 3, 1) := by decide +kernel
theorem dL_law_250 : decode cL_law 250 = .ok (.invokestatic 87, 3) := by decide +kernel
theorem dL_law_253 : decode cL_law 253 = .ok (.istore 5, 2) := by decide +kernel
theorem dL_law_255 : decode cL_law 255 = .ok (.aload_n 2, 1) := by decide +kernel
theorem dL_law_256 : decode cL_law 256 = .ok (.invokevirtual 90, 3) := by decide +kernel
theorem dL_law_259 : decode cL_law 259 = .ok (.istore 6, 2) := by decide +kernel
theorem dL_law_261 : decode cL_law 261 = .ok (.aload_n 2, 1) := by decide +kernel
theorem dL_law_262 : decode cL_law 262 = .ok (.invokevirtual 79, 3) := by decide +kernel
theorem dL_law_265 : decode cL_law 265 = .ok (.iload 5, 2) := by decide +kernel
theorem dL_law_267 : decode cL_law 267 = .ok (.if_icmp .eq 5, 3) := by decide +kernel
theorem dL_law_270 : decode cL_law 270 = .ok (.iconst 0, 1) := by decide +kernel
theorem dL_law_271 : decode cL_law 271 = .ok (.ireturn, 1) := by decide +kernel
theorem dL_law_272 : decode cL_law 272 = .ok (.iload 5, 2) := by decide +kernel
theorem dL_law_274 : decode cL_law 274 = .ok (.ifCond .ne 22, 3) := by decide +kernel
theorem dL_law_277 : decode cL_law 277 = .ok (.aload_n 3, 1) := by decide +kernel
theorem dL_law_278 : decode cL_law 278 = .ok (.iconst 0, 1) := by decide +kernel
theorem dL_law_279 : decode cL_law 279 = .ok (.laload, 1) := by decide +kernel
theorem dL_law_280 : decode cL_law 280 = .ok (.iload 6, 2) := by decide +kernel
theorem dL_law_282 : decode cL_law 282 = .ok (.ifCond .eq 7, 3) := by decide +kernel
theorem dL_law_285 : decode cL_law 285 = .ok (.lconst 1, 1) := by decide +kernel
theorem dL_law_286 : decode cL_law 286 = .ok (.goto 4, 3) := by decide +kernel
theorem dL_law_289 : decode cL_law 289 = .ok (.lconst 0, 1) := by decide +kernel
theorem dL_law_290 : decode cL_law 290 = .ok (.lcmp, 1) := by decide +kernel
theorem dL_law_291 : decode cL_law 291 = .ok (.ifCond .eq 5, 3) := by decide +kernel
theorem dL_law_294 : decode cL_law 294 = .ok (.iconst 0, 1) := by decide +kernel
theorem dL_law_295 : decode cL_law 295 = .ok (.ireturn, 1) := by decide +kernel
theorem dL_law_296 : decode cL_law 296 = .ok (.goto 827, 3) := by decide +kernel
theorem dL_law_299 : decode cL_law 299 = .ok (.aload_n 1, 1) := by decide +kernel
theorem dL_law_300 : decode cL_law 300 = .ok (.aload_n 0, 1) := by decide +kernel
theorem dL_law_301 : decode cL_law 301 = .ok (.iload 4, 2) := by decide +kernel
theorem dL_law_303 : decode cL_law 303 = .ok (.iconst 1, 1) := by decide +kernel
theorem dL_law_304 : decode cL_law 304 = .ok (.iadd, 1) := by decide +kernel
theorem dL_law_305 : decode cL_law 305 = .ok (.iaload, 1) := by decide +kernel
theorem dL_law_306 : decode cL_law 306 = .ok (.aload_n 3, 1) := by decide +kernel
theorem dL_law_307 : decode cL_law 307 = .ok (.invokestatic 91, 3) := by decide +kernel
theorem dL_law_310 : decode cL_law 310 = .ok (.istore 5, 2) := by decide +kernel
theorem dL_law_312 : decode cL_law 312 = .ok (.aload_n 2, 1) := by decide +kernel
theorem dL_law_313 : decode cL_law 313 = .ok (.aload_n 0, 1) := by decide +kernel
theorem dL_law_314 : decode cL_law 314 = .ok (.iload 4, 2) := by decide +kernel
theorem dL_law_316 : decode cL_law 316 = .ok (.iconst 1, 1) := by decide +kernel
theorem dL_law_317 : decode cL_law 317 = .ok (.iadd, 1) := by decide +kernel
theorem dL_law_318 : decode cL_law 318 = .ok (.iaload, 1) := by decide +kernel
theorem dL_law_319 : decode cL_law 319 = .ok (.invokevirtual 94, 3) := by decide +kernel
theorem dL_law_322 : decode cL_law 322 = .ok (.istore 6, 2) := by decide +kernel
theorem dL_law_324 : decode cL_law 324 = .ok (.aload_n 2, 1) := by decide +kernel
theorem dL_law_325 : decode cL_law 325 = .ok (.invokevirtual 79, 3) := by decide +kernel
theorem dL_law_328 : decode cL_law 328 = .ok (.iload 5, 2) := by decide +kernel
theorem dL_law_330 : decode cL_law 330 = .ok (.if_icmp .eq 5, 3) := by decide +kernel
theorem dL_law_333 : decode cL_law 333 = .ok (.iconst 0, 1) := by decide +kernel
theorem dL_law_334 : decode cL_law 334 = .ok (.ireturn, 1) := by decide +kernel
theorem dL_law_335 : decode cL_law 335 = .ok (.iload 5, 2) := by decide +kernel
theorem dL_law_337 : decode cL_law 337 = .ok (.ifCond .ne 22, 3) := by decide +kernel
theorem dL_law_340 : decode cL_law 340 = .ok (.aload_n 3, 1) := by decide +kernel
theorem dL_law_341 : decode cL_law 341 = .ok (.iconst 0, 1) := by decide +kernel
theorem dL_law_342 : decode cL_law 342 = .ok (.laload, 1) := by decide +kernel
theorem dL_law_343 : decode cL_law 343 = .ok (.iload 6, 2) := by decide +kernel
theorem dL_law_345 : decode cL_law 345 = .ok (.ifCond .eq 7, 3) := by decide +kernel
theorem dL_law_348 : decode cL_law 348 = .ok (.lconst 1, 1) := by decide +kernel
theorem dL_law_349 : decode cL_law 349 = .ok (.goto 4, 3) := by decide +kernel
theorem dL_law_352 : decode cL_law 352 = .ok (.lconst 0, 1) := by decide +kernel
theorem dL_law_353 : decode cL_law 353 = .ok (.lcmp, 1) := by decide +kernel
theorem dL_law_354 : decode cL_law 354 = .ok (.ifCond .eq 5, 3) := by decide +kernel
theorem dL_law_357 : decode cL_law 357 = .ok (.iconst 0, 1) := by decide +kernel
theorem dL_law_358 : decode cL_law 358 = .ok (.ireturn, 1) := by decide +kernel
theorem dL_law_359 : decode cL_law 359 = .ok (.goto 764, 3) := by decide +kernel
theorem dL_law_362 : decode cL_law 362 = .ok (.aload_n 1, 1) := by decide +kernel
theorem dL_law_363 : decode cL_law 363 = .ok (.invokevirtual 95, 3) := by decide +kernel
theorem dL_law_366 : decode cL_law 366 = .ok (.aload_n 2, 1) := by decide +kernel
theorem dL_law_367 : decode cL_law 367 = .ok (.invokevirtual 98, 3) := by decide +kernel
theorem dL_law_370 : decode cL_law 370 = .ok (.goto 753, 3) := by decide +kernel
theorem dL_law_373 : decode cL_law 373 = .ok (.aload_n 1, 1) := by decide +kernel
theorem dL_law_374 : decode cL_law 374 = .ok (.aload_n 0, 1) := by decide +kernel
theorem dL_law_375 : decode cL_law 375 = .ok (.iload 4, 2) := by decide +kernel
theorem dL_law_377 : decode cL_law 377 = .ok (.iconst 1, 1) := by decide +kernel
theorem dL_law_378 : decode cL_law 378 = .ok (.iadd, 1) := by decide +kernel
theorem dL_law_379 : decode cL_law 379 = .ok (.iaload, 1) := by decide +kernel
theorem dL_law_380 : decode cL_law 380 = .ok (.aload_n 3, 1) := by decide +kernel
theorem dL_law_381 : decode cL_law 381 = .ok (.invokestatic 99, 3) := by decide +kernel
