theorem dX0_init_0 : decode cX0_init 0 = .ok (.aload_n 0, 1) := by decide +kernel
theorem dX0_init_1 : decode cX0_init 1 = .ok (.invokespecial 1, 3) := by decide +kernel
theorem dX0_init_4 : decode cX0_init 4 = .ok (.aload_n 0, 1) := by decide +kernel
theorem dX0_init_5 : decode cX0_init 5 = .ok (.bipush 7, 2) := by decide +kernel
theorem dX0_init_7 : decode cX0_init 7 = .ok (.newarray .int, 2) := by decide +kernel
theorem dX0_init_9 : decode cX0_init 9 = .ok (.putfield 9, 3) := by decide +kernel
theorem dX0_init_12 : decode cX0_init 12 = .ok (.aload_n 0, 1) := by decide +kernel
theorem dX0_init_13 : decode cX0_init 13 = .ok (.bipush 7, 2) := by decide +kernel
theorem dX0_init_15 : decode cX0_init 15 = .ok (.newarray .int, 2) := by decide +kernel
theorem dX0_init_17 : decode cX0_init 17 = .ok (.putfield 13, 3) := by decide +kernel
theorem dX0_init_20 : decode cX0_init 20 = .ok (.aload_n 0, 1) := by decide +kernel
theorem dX0_init_21 : decode cX0_init 21 = .ok (.bipush 7, 2) := by decide +kernel
theorem dX0_init_23 : decode cX0_init 23 = .ok (.newarray .int, 2) := by decide +kernel
theorem dX0_init_25 : decode cX0_init 25 = .ok (.putfield 16, 3) := by decide +kernel
theorem dX0_init_28 : decode cX0_init 28 = .ok (.aload_n 0, 1) := by decide +kernel
theorem dX0_init_29 : decode cX0_init 29 = .ok (.bipush 7, 2) := by decide +kernel
theorem dX0_init_31 : decode cX0_init 31 = .ok (.newarray .boolean, 2) := by decide +kernel
theorem dX0_init_33 : decode cX0_init 33 = .ok (.putfield 19, 3) := by decide +kernel
theorem dX0_init_36 : decode cX0_init 36 = .ok (.aload_n 0, 1) := by decide +kernel
theorem dX0_init_37 : decode cX0_init 37 = .ok (.bipush 7, 2) := by decide +kernel
theorem dX0_init_39 : decode cX0_init 39 = .ok (.newarray .int, 2) := by decide +kernel
theorem dX0_init_41 : decode cX0_init 41 = .ok (.putfield 23, 3) := by decide +kernel
theorem dX0_init_44 : decode cX0_init 44 = .ok (.aload_n 0, 1) := by decide +kernel
theorem dX0_init_45 : decode cX0_init 45 = .ok (.bipush 7, 2) := by decide +kernel
theorem dX0_init_47 : decode cX0_init 47 = .ok (.newarray .int, 2) := by decide +kernel
theorem dX0_init_49 : decode cX0_init 49 = .ok (.putfield 26, 3) := by decide +kernel
theorem dX0_init_52 : decode cX0_init 52 = .ok (.aload_n 0, 1) := by decide +kernel
theorem dX0_init_53 : decode cX0_init 53 = .ok (.bipush 7, 2) := by decide +kernel
theorem dX0_init_55 : decode cX0_init 55 = .ok (.newarray .int, 2) := by decide +kernel
theorem dX0_init_57 : decode cX0_init 57 = .ok (.putfield 29, 3) := by decide +kernel
theorem dX0_init_60 : decode cX0_init 60 = .ok (.aload_n 0, 1) := by decide +kernel
theorem dX0_init_61 : decode cX0_init 61 = .ok (.bipush 7, 2) := by decide +kernel
theorem dX0_init_63 : decode cX0_init 63 = .ok (.newarray .boolean, 2) := by decide +kernel
theorem dX0_init_65 : decode cX0_init 65 = .ok (.putfield 32, 3) := by decide +kernel
theorem dX0_init_68 : decode cX0_init 68 = .ok (.iload_n 1, 1) := by decide +kernel
theorem dX0_init_69 : decode cX0_init 69 = .ok (.bipush 7, 2) := by decide +kernel
theorem dX0_init_71 : decode cX0_init 71 = .ok (.iand, 1) := by decide +kernel
theorem dX0_init_72 : decode cX0_init 72 = .ok (.istore_n 3, 1) := by decide +kernel
theorem dX0_init_73 : decode cX0_init 73 = .ok (.aload_n 0, 1) := by decide +kernel
theorem dX0_init_74 : decode cX0_init 74 = .ok (.iload_n 3, 1) := by decide +kernel
theorem dX0_init_75 : decode cX0_init 75 = .ok (.bipush 7, 2) := by decide +kernel
theorem dX0_init_77 : decode cX0_init 77 = .ok (.if_icmp .ne 8, 3) := by decide +kernel
theorem dX0_init_80 : decode cX0_init 80 = .ok (.bipush 6, 2) := by decide +kernel
theorem dX0_init_82 : decode cX0_init 82 = .ok (.goto 4, 3) := by decide +kernel
theorem dX0_init_85 : decode cX0_init 85 = .ok (.iload_n 3, 1) := by decide +kernel
theorem dX0_init_86 : decode cX0_init 86 = .ok (.putfield 35, 3) := by decide +kernel
theorem dX0_init_89 : decode cX0_init 89 = .ok (.iload_n 2, 1) := by decide +kernel
theorem dX0_init_90 : decode cX0_init 90 = .ok (.bipush 127, 2) := by decide +kernel
theorem dX0_init_92 : decode cX0_init 92 = .ok (.iand, 1) := by decide +kernel
theorem dX0_init_93 : decode cX0_init 93 = .ok (.istore 4, 2) := by decide +kernel
theorem dX0_init_95 : decode cX0_init 95 = .ok (.aload_n 0, 1) := by decide +kernel
theorem dX0_init_96 : decode cX0_init 96 = .ok (.iload 4, 2) := by decide +kernel
theorem dX0_init_98 : decode cX0_init 98 = .ok (.ifCond .ne 7, 3) := by decide +kernel
theorem dX0_init_101 : decode cX0_init 101 = .ok (.iconst 1, 1) := by decide +kernel
theorem dX0_init_102 : decode cX0_init 102 = .ok (.goto 5, 3) := by decide +kernel
theorem dX0_init_105 : decode cX0_init 105 = .ok (.iload 4, 2) := by decide +kernel
theorem dX0_init_107 : decode cX0_init 107 = .ok (.putfield 39, 3) := by decide +kernel
theorem dX0_init_110 : decode cX0_init 110 = .ok (.return_, 1) := by decide +kernel
theorem dX0_members_0 : decode cX0_members 0 = .ok (.iload_n 1, 1) := by decide +kernel
theorem dX0_members_1 : decode cX0_members 1 = .ok (.invokestatic 42, 3) := by decide +kernel
theorem dX0_members_4 : decode cX0_members 4 = .ok (.iload_n 2, 1) := by decide +kernel
theorem dX0_members_5 : decode cX0_members 5 = .ok (.invokestatic 42, 3) := by decide +kernel
theorem dX0_members_8 : decode cX0_members 8 = .ok (.iload_n 3, 1) := by decide +kernel
theorem dX0_members_9 : decode cX0_members 9 = .ok (.invokestatic 42, 3) := by decide +kernel
theorem dX0_members_12 : decode cX0_members 12 = .ok (.iload_n 1, 1) := by decide +kernel
theorem dX0_members_13 : decode cX0_members 13 = .ok (.ifCond .ne 13, 3) := by decide +kernel
theorem dX0_members_16 : decode cX0_members 16 = .ok (.new 46, 3) := by decide +kernel
theorem dX0_members_19 : decode cX0_members 19 = .ok (.dup, 1) := by decide +kernel
theorem dX0_members_20 : decode cX0_members 20 = .ok (.ldc 48, 2) := by decide +kernel
theorem dX0_members_22 : decode cX0_members 22 = .ok (.invokespecial 50, 3) := by decide +kernel
theorem dX0_members_25 : decode cX0_members 25 = .ok (.athrow, 1) := by decide +kernel
theorem dX0_members_26 : decode cX0_members 26 = .ok (.iload_n 3, 1) := by decide +kernel
theorem dX0_members_27 : decode cX0_members 27 = .ok (.iload_n 1, 1) := by decide +kernel
theorem dX0_members_28 : decode cX0_members 28 = .ok (.iload_n 2, 1) := by decide +kernel
theorem dX0_members_29 : decode cX0_members 29 = .ok (.ior, 1) := by decide +kernel
theorem dX0_members_30 : decode cX0_members 30 = .ok (.iand, 1) := by decide +kernel
theorem dX0_members_31 : decode cX0_members 31 = .ok (.ifCond .eq 13, 3) := by decide +kernel
theorem dX0_members_34 : decode cX0_members 34 = .ok (.new 46, 3) := by decide +kernel
theorem dX0_members_37 : decode cX0_members 37 = .ok (.dup, 1) := by decide +kernel
theorem dX0_members_38 : decode cX0_members 38 = .ok (.ldc 53, 2) := by decide +kernel
theorem dX0_members_40 : decode cX0_members 40 = .ok (.invokespecial 50, 3) := by decide +kernel
theorem dX0_members_43 : decode cX0_members 43 = .ok (.athrow, 1) := by decide +kernel
theorem dX0_members_44 : decode cX0_members 44 = .ok (.aload_n 0, 1) := by decide +kernel
theorem dX0_members_45 : decode cX0_members 45 = .ok (.iload_n 1, 1) := by decide +kernel
theorem dX0_members_46 : decode cX0_members 46 = .ok (.putfield 39, 3) := by decide +kernel
theorem dX0_members_49 : decode cX0_members 49 = .ok (.aload_n 0, 1) := by decide +kernel
theorem dX0_members_50 : decode cX0_members 50 = .ok (.iload_n 2, 1) := by decide +kernel
theorem dX0_members_51 : decode cX0_members 51 = .ok (.putfield 55, 3) := by decide +kernel
theorem dX0_members_54 : decode cX0_members 54 = .ok (.aload_n 0, 1) := by decide +kernel
theorem dX0_members_55 : decode cX0_members 55 = .ok (.iload_n 3, 1) := by decide +kernel
theorem dX0_members_56 : decode cX0_members 56 = .ok (.putfield 58, 3) := by decide +kernel
theorem dX0_members_59 : decode cX0_members 59 = .ok (.return_, 1) := by decide +kernel
theorem dX0_change_0 : decode cX0_change 0 = .ok (.iload_n 1, 1) := by decide +kernel
theorem dX0_change_1 : decode cX0_change 1 = .ok (.invokestatic 42, 3) := by decide +kernel
theorem dX0_change_4 : decode cX0_change 4 = .ok (.iload_n 1, 1) := by decide +kernel
theorem dX0_change_5 : decode cX0_change 5 = .ok (.ifCond .ne 13, 3) := by decide +kernel
theorem dX0_change_8 : decode cX0_change 8 = .ok (.new 46, 3) := by decide +kernel
theorem dX0_change_11 : decode cX0_change 11 = .ok (.dup, 1) := by decide +kernel
theorem dX0_change_12 : decode cX0_change 12 = .ok (.ldc 61, 2) := by decide +kernel
theorem dX0_change_14 : decode cX0_change 14 = .ok (.invokespecial 50, 3) := by decide +kernel
theorem dX0_change_17 : decode cX0_change 17 = .ok (.athrow, 1) := by decide +kernel
theorem dX0_change_18 : decode cX0_change 18 = .ok (.iload_n 1, 1) := by decide +kernel
theorem dX0_change_19 : decode cX0_change 19 = .ok (.aload_n 0, 1) := by decide +kernel
theorem dX0_change_20 : decode cX0_change 20 = .ok (.getfield 39, 3) := by decide +kernel
theorem dX0_change_23 : decode cX0_change 23 = .ok (.aload_n 0, 1) := by decide +kernel
theorem dX0_change_24 : decode cX0_change 24 = .ok (.iload_n 2, 1) := by decide +kernel
theorem dX0_change_25 : decode cX0_change 25 = .ok (.invokevirtual 63, 3) := by decide +kernel
theorem dX0_change_28 : decode cX0_change 28 = .ok (.ior, 1) := by decide +kernel
theorem dX0_change_29 : decode cX0_change 29 = .ok (.iconst (-1), 1) := by decide +kernel
theorem dX0_change_30 : decode cX0_change 30 = .ok (.ixor, 1) := by decide +kernel
theorem dX0_change_31 : decode cX0_change 31 = .ok (.iand, 1) := by decide +kernel
theorem dX0_change_32 : decode cX0_change 32 = .ok (.ifCond .eq 13, 3) := by decide +kernel
theorem dX0_change_35 : decode cX0_change 35 = .ok (.new 46, 3) := by decide +kernel
theorem dX0_change_38 : decode cX0_change 38 = .ok (.dup, 1) := by decide +kernel
theorem dX0_change_39 : decode cX0_change 39 = .ok (.ldc 67, 2) := by decide +kernel
theorem dX0_change_41 : decode cX0_change 41 = .ok (.invokespecial 50, 3) := by decide +kernel
theorem dX0_change_44 : decode cX0_change 44 = .ok (.athrow, 1) := by decide +kernel
theorem dX0_change_45 : decode cX0_change 45 = .ok (.aload_n 0, 1) := by decide +kernel
theorem dX0_change_46 : decode cX0_change 46 = .ok (.getfield 55, 3) := by decide +kernel
theorem dX0_change_49 : decode cX0_change 49 = .ok (.ifCond .eq 13, 3) := by decide +kernel
theorem dX0_change_52 : decode cX0_change 52 = .ok (.new 69, 3) := by decide +kernel
theorem dX0_change_55 : decode cX0_change 55 = .ok (.dup, 1) := by decide +kernel
theorem dX0_change_56 : decode cX0_change 56 = .ok (.ldc 71, 2) := by decide +kernel
theorem dX0_change_58 : decode cX0_change 58 = .ok (.invokespecial 73, 3) := by decide +kernel
theorem dX0_change_61 : decode cX0_change 61 = .ok (.athrow, 1) := by decide +kernel
theorem dX0_change_62 : decode cX0_change 62 = .ok (.aload_n 0, 1) := by decide +kernel
theorem dX0_change_63 : decode cX0_change 63 = .ok (.iload_n 1, 1) := by decide +kernel
theorem dX0_change_64 : decode cX0_change 64 = .ok (.putfield 55, 3) := by decide +kernel
theorem dX0_change_67 : decode cX0_change 67 = .ok (.aload_n 0, 1) := by decide +kernel
theorem dX0_change_68 : decode cX0_change 68 = .ok (.aload_n 0, 1) := by decide +kernel
theorem dX0_change_69 : decode cX0_change 69 = .ok (.getfield 58, 3) := by decide +kernel
theorem dX0_change_72 : decode cX0_change 72 = .ok (.iload_n 1, 1) := by decide +kernel
theorem dX0_change_73 : decode cX0_change 73 = .ok (.iconst (-1), 1) := by decide +kernel
theorem dX0_change_74 : decode cX0_change 74 = .ok (.ixor, 1) := by decide +kernel
theorem dX0_change_75 : decode cX0_change 75 = .ok (.iand, 1) := by decide +kernel
theorem dX0_change_76 : decode cX0_change 76 = .ok (.putfield 58, 3) := by decide +kernel
theorem dX0_change_79 : decode cX0_change 79 = .ok (.return_, 1) := by decide +kernel
theorem dX0_settle_0 : decode cX0_settle 0 = .ok (.aload_n 0, 1) := by decide +kernel
theorem dX0_settle_1 : decode cX0_settle 1 = .ok (.getfield 55, 3) := by decide +kernel
theorem dX0_settle_4 : decode cX0_settle 4 = .ok (.ifCond .ne 13, 3) := by decide +kernel
theorem dX0_settle_7 : decode cX0_settle 7 = .ok (.new 69, 3) := by decide +kernel
theorem dX0_settle_10 : decode cX0_settle 10 = .ok (.dup, 1) := by decide +kernel
theorem dX0_settle_11 : decode cX0_settle 11 = .ok (.ldc 74, 2) := by decide +kernel
theorem dX0_settle_13 : decode cX0_settle 13 = .ok (.invokespecial 73, 3) := by decide +kernel
theorem dX0_settle_16 : decode cX0_settle 16 = .ok (.athrow, 1) := by decide +kernel
theorem dX0_settle_17 : decode cX0_settle 17 = .ok (.aload_n 0, 1) := by decide +kernel
theorem dX0_settle_18 : decode cX0_settle 18 = .ok (.aload_n 0, 1) := by decide +kernel
theorem dX0_settle_19 : decode cX0_settle 19 = .ok (.getfield 55, 3) := by decide +kernel
theorem dX0_settle_22 : decode cX0_settle 22 = .ok (.putfield 39, 3) := by decide +kernel
theorem dX0_settle_25 : decode cX0_settle 25 = .ok (.aload_n 0, 1) := by decide +kernel
theorem dX0_settle_26 : decode cX0_settle 26 = .ok (.iconst 0, 1) := by decide +kernel
theorem dX0_settle_27 : decode cX0_settle 27 = .ok (.putfield 55, 3) := by decide +kernel
theorem dX0_settle_30 : decode cX0_settle 30 = .ok (.aload_n 0, 1) := by decide +kernel
theorem dX0_settle_31 : decode cX0_settle 31 = .ok (.getfield 39, 3) := by decide +kernel
theorem dX0_settle_34 : decode cX0_settle 34 = .ok (.aload_n 0, 1) := by decide +kernel
theorem dX0_settle_35 : decode cX0_settle 35 = .ok (.getfield 35, 3) := by decide +kernel
theorem dX0_settle_38 : decode cX0_settle 38 = .ok (.invokestatic 76, 3) := by decide +kernel
theorem dX0_settle_41 : decode cX0_settle 41 = .ok (.ireturn, 1) := by decide +kernel
theorem dX0_majority_0 : decode cX0_majority 0 = .ok (.iload_n 1, 1) := by decide +kernel
theorem dX0_majority_1 : decode cX0_majority 1 = .ok (.invokestatic 42, 3) := by decide +kernel
theorem dX0_majority_4 : decode cX0_majority 4 = .ok (.aload_n 0, 1) := by decide +kernel
theorem dX0_majority_5 : decode cX0_majority 5 = .ok (.iload_n 1, 1) := by decide +kernel
theorem dX0_majority_6 : decode cX0_majority 6 = .ok (.invokevirtual 80, 3) := by decide +kernel
theorem dX0_majority_9 : decode cX0_majority 9 = .ok (.ireturn, 1) := by decide +kernel
theorem dX0_ballot_0 : decode cX0_ballot 0 = .ok (.aload_n 0, 1) := by decide +kernel
theorem dX0_ballot_1 : decode cX0_ballot 1 = .ok (.iconst 0, 1) := by decide +kernel
theorem dX0_ballot_2 : decode cX0_ballot 2 = .ok (.putfield 84, 3) := by decide +kernel
theorem dX0_ballot_5 : decode cX0_ballot 5 = .ok (.return_, 1) := by decide +kernel
theorem dX0_vote_0 : decode cX0_vote 0 = .ok (.iload_n 1, 1) := by decide +kernel
theorem dX0_vote_1 : decode cX0_vote 1 = .ok (.invokestatic 87, 3) := by decide +kernel
theorem dX0_vote_4 : decode cX0_vote 4 = .ok (.aload_n 0, 1) := by decide +kernel
theorem dX0_vote_5 : decode cX0_vote 5 = .ok (.aload_n 0, 1) := by decide +kernel
theorem dX0_vote_6 : decode cX0_vote 6 = .ok (.getfield 84, 3) := by decide +kernel
theorem dX0_vote_9 : decode cX0_vote 9 = .ok (.iconst 1, 1) := by decide +kernel
theorem dX0_vote_10 : decode cX0_vote 10 = .ok (.iload_n 1, 1) := by decide +kernel
theorem dX0_vote_11 : decode cX0_vote 11 = .ok (.ishl, 1) := by decide +kernel
theorem dX0_vote_12 : decode cX0_vote 12 = .ok (.ior, 1) := by decide +kernel
theorem dX0_vote_13 : decode cX0_vote 13 = .ok (.putfield 84, 3) := by decide +kernel
theorem dX0_vote_16 : decode cX0_vote 16 = .ok (.aload_n 0, 1) := by decide +kernel
theorem dX0_vote_17 : decode cX0_vote 17 = .ok (.aload_n 0, 1) := by decide +kernel
theorem dX0_vote_18 : decode cX0_vote 18 = .ok (.getfield 84, 3) := by decide +kernel
theorem dX0_vote_21 : decode cX0_vote 21 = .ok (.invokevirtual 80, 3) := by decide +kernel
theorem dX0_vote_24 : decode cX0_vote 24 = .ok (.ireturn, 1) := by decide +kernel
theorem dX0_lead_0 : decode cX0_lead 0 = .ok (.iload_n 1, 1) := by decide +kernel
theorem dX0_lead_1 : decode cX0_lead 1 = .ok (.invokestatic 90, 3) := by decide +kernel
theorem dX0_lead_4 : decode cX0_lead 4 = .ok (.iload_n 2, 1) := by decide +kernel
theorem dX0_lead_5 : decode cX0_lead 5 = .ok (.invokestatic 90, 3) := by decide +kernel
theorem dX0_lead_8 : decode cX0_lead 8 = .ok (.iconst 0, 1) := by decide +kernel
theorem dX0_lead_9 : decode cX0_lead 9 = .ok (.istore_n 3, 1) := by decide +kernel
theorem dX0_lead_10 : decode cX0_lead 10 = .ok (.iload_n 3, 1) := by decide +kernel
theorem dX0_lead_11 : decode cX0_lead 11 = .ok (.bipush 7, 2) := by decide +kernel
theorem dX0_lead_13 : decode cX0_lead 13 = .ok (.if_icmp .ge 67, 3) := by decide +kernel
theorem dX0_lead_16 : decode cX0_lead 16 = .ok (.aload_n 0, 1) := by decide +kernel
theorem dX0_lead_17 : decode cX0_lead 17 = .ok (.getfield 9, 3) := by decide +kernel
theorem dX0_lead_20 : decode cX0_lead 20 = .ok (.iload_n 3, 1) := by decide +kernel
theorem dX0_lead_21 : decode cX0_lead 21 = .ok (.iload_n 1, 1) := by decide +kernel
theorem dX0_lead_22 : decode cX0_lead 22 = .ok (.iconst 1, 1) := by decide +kernel
theorem dX0_lead_23 : decode cX0_lead 23 = .ok (.iadd, 1) := by decide +kernel
theorem dX0_lead_24 : decode cX0_lead 24 = .ok (.iastore, 1) := by decide +kernel
theorem dX0_lead_25 : decode cX0_lead 25 = .ok (.aload_n 0, 1) := by decide +kernel
theorem dX0_lead_26 : decode cX0_lead 26 = .ok (.getfield 13, 3) := by decide +kernel
theorem dX0_lead_29 : decode cX0_lead 29 = .ok (.iload_n 3, 1) := by decide +kernel
theorem dX0_lead_30 : decode cX0_lead 30 = .ok (.iconst 0, 1) := by decide +kernel
theorem dX0_lead_31 : decode cX0_lead 31 = .ok (.iastore, 1) := by decide +kernel
theorem dX0_lead_32 : decode cX0_lead 32 = .ok (.aload_n 0, 1) := by decide +kernel
theorem dX0_lead_33 : decode cX0_lead 33 = .ok (.getfield 16, 3) := by decide +kernel
theorem dX0_lead_36 : decode cX0_lead 36 = .ok (.iload_n 3, 1) := by decide +kernel
theorem dX0_lead_37 : decode cX0_lead 37 = .ok (.iconst 0, 1) := by decide +kernel
theorem dX0_lead_38 : decode cX0_lead 38 = .ok (.iastore, 1) := by decide +kernel
theorem dX0_lead_39 : decode cX0_lead 39 = .ok (.aload_n 0, 1) := by decide +kernel
theorem dX0_lead_40 : decode cX0_lead 40 = .ok (.getfield 19, 3) := by decide +kernel
theorem dX0_lead_43 : decode cX0_lead 43 = .ok (.iload_n 3, 1) := by decide +kernel
theorem dX0_lead_44 : decode cX0_lead 44 = .ok (.iconst 1, 1) := by decide +kernel
theorem dX0_lead_45 : decode cX0_lead 45 = .ok (.bastore, 1) := by decide +kernel
theorem dX0_lead_46 : decode cX0_lead 46 = .ok (.aload_n 0, 1) := by decide +kernel
theorem dX0_lead_47 : decode cX0_lead 47 = .ok (.getfield 23, 3) := by decide +kernel
theorem dX0_lead_50 : decode cX0_lead 50 = .ok (.iload_n 3, 1) := by decide +kernel
theorem dX0_lead_51 : decode cX0_lead 51 = .ok (.iconst 0, 1) := by decide +kernel
theorem dX0_lead_52 : decode cX0_lead 52 = .ok (.iastore, 1) := by decide +kernel
theorem dX0_lead_53 : decode cX0_lead 53 = .ok (.aload_n 0, 1) := by decide +kernel
theorem dX0_lead_54 : decode cX0_lead 54 = .ok (.getfield 26, 3) := by decide +kernel
theorem dX0_lead_57 : decode cX0_lead 57 = .ok (.iload_n 3, 1) := by decide +kernel
theorem dX0_lead_58 : decode cX0_lead 58 = .ok (.iconst 0, 1) := by decide +kernel
theorem dX0_lead_59 : decode cX0_lead 59 = .ok (.iastore, 1) := by decide +kernel
theorem dX0_lead_60 : decode cX0_lead 60 = .ok (.aload_n 0, 1) := by decide +kernel
theorem dX0_lead_61 : decode cX0_lead 61 = .ok (.getfield 29, 3) := by decide +kernel
theorem dX0_lead_64 : decode cX0_lead 64 = .ok (.iload_n 3, 1) := by decide +kernel
theorem dX0_lead_65 : decode cX0_lead 65 = .ok (.iload_n 2, 1) := by decide +kernel
theorem dX0_lead_66 : decode cX0_lead 66 = .ok (.iastore, 1) := by decide +kernel
theorem dX0_lead_67 : decode cX0_lead 67 = .ok (.aload_n 0, 1) := by decide +kernel
theorem dX0_lead_68 : decode cX0_lead 68 = .ok (.getfield 32, 3) := by decide +kernel
theorem dX0_lead_71 : decode cX0_lead 71 = .ok (.iload_n 3, 1) := by decide +kernel
theorem dX0_lead_72 : decode cX0_lead 72 = .ok (.iconst 0, 1) := by decide +kernel
theorem dX0_lead_73 : decode cX0_lead 73 = .ok (.bastore, 1) := by decide +kernel
theorem dX0_lead_74 : decode cX0_lead 74 = .ok (.iinc 3 1, 3) := by decide +kernel
theorem dX0_lead_77 : decode cX0_lead 77 = .ok (.goto (-67), 3) := by decide +kernel
theorem dX0_lead_80 : decode cX0_lead 80 = .ok (.aload_n 0, 1) := by decide +kernel
theorem dX0_lead_81 : decode cX0_lead 81 = .ok (.iconst 0, 1) := by decide +kernel
theorem dX0_lead_82 : decode cX0_lead 82 = .ok (.putfield 93, 3) := by decide +kernel
theorem dX0_lead_85 : decode cX0_lead 85 = .ok (.return_, 1) := by decide +kernel
theorem dX0_round_0 : decode cX0_round 0 = .ok (.aload_n 0, 1) := by decide +kernel
theorem dX0_round_1 : decode cX0_round 1 = .ok (.aload_n 0, 1) := by decide +kernel
theorem dX0_round_2 : decode cX0_round 2 = .ok (.getfield 93, 3) := by decide +kernel
theorem dX0_round_5 : decode cX0_round 5 = .ok (.iconst 1, 1) := by decide +kernel
theorem dX0_round_6 : decode cX0_round 6 = .ok (.iadd, 1) := by decide +kernel
theorem dX0_round_7 : decode cX0_round 7 = .ok (.putfield 93, 3) := by decide +kernel
theorem dX0_round_10 : decode cX0_round 10 = .ok (.aload_n 0, 1) := by decide +kernel
theorem dX0_round_11 : decode cX0_round 11 = .ok (.invokevirtual 96, 3) := by decide +kernel
theorem dX0_round_14 : decode cX0_round 14 = .ok (.istore_n 1, 1) := by decide +kernel
theorem dX0_round_15 : decode cX0_round 15 = .ok (.iconst 0, 1) := by decide +kernel
theorem dX0_round_16 : decode cX0_round 16 = .ok (.istore_n 2, 1) := by decide +kernel
theorem dX0_round_17 : decode cX0_round 17 = .ok (.iload_n 2, 1) := by decide +kernel
theorem dX0_round_18 : decode cX0_round 18 = .ok (.bipush 7, 2) := by decide +kernel
theorem dX0_round_20 : decode cX0_round 20 = .ok (.if_icmp .ge 70, 3) := by decide +kernel
theorem dX0_round_23 : decode cX0_round 23 = .ok (.iload_n 1, 1) := by decide +kernel
theorem dX0_round_24 : decode cX0_round 24 = .ok (.iload_n 2, 1) := by decide +kernel
theorem dX0_round_25 : decode cX0_round 25 = .ok (.invokestatic 76, 3) := by decide +kernel
theorem dX0_round_28 : decode cX0_round 28 = .ok (.ifCond .eq 49, 3) := by decide +kernel
theorem dX0_round_31 : decode cX0_round 31 = .ok (.aload_n 0, 1) := by decide +kernel
theorem dX0_round_32 : decode cX0_round 32 = .ok (.getfield 16, 3) := by decide +kernel
theorem dX0_round_35 : decode cX0_round 35 = .ok (.iload_n 2, 1) := by decide +kernel
theorem dX0_round_36 : decode cX0_round 36 = .ok (.iaload, 1) := by decide +kernel
theorem dX0_round_37 : decode cX0_round 37 = .ok (.ifCond .le 40, 3) := by decide +kernel
theorem dX0_round_40 : decode cX0_round 40 = .ok (.aload_n 0, 1) := by decide +kernel
theorem dX0_round_41 : decode cX0_round 41 = .ok (.getfield 32, 3) := by decide +kernel
theorem dX0_round_44 : decode cX0_round 44 = .ok (.iload_n 2, 1) := by decide +kernel
theorem dX0_round_45 : decode cX0_round 45 = .ok (.baload, 1) := by decide +kernel
theorem dX0_round_46 : decode cX0_round 46 = .ok (.ifCond .ne 31, 3) := by decide +kernel
theorem dX0_round_49 : decode cX0_round 49 = .ok (.aload_n 0, 1) := by decide +kernel
theorem dX0_round_50 : decode cX0_round 50 = .ok (.getfield 9, 3) := by decide +kernel
theorem dX0_round_53 : decode cX0_round 53 = .ok (.iload_n 2, 1) := by decide +kernel
theorem dX0_round_54 : decode cX0_round 54 = .ok (.aload_n 0, 1) := by decide +kernel
theorem dX0_round_55 : decode cX0_round 55 = .ok (.getfield 13, 3) := by decide +kernel
theorem dX0_round_58 : decode cX0_round 58 = .ok (.iload_n 2, 1) := by decide +kernel
theorem dX0_round_59 : decode cX0_round 59 = .ok (.iaload, 1) := by decide +kernel
theorem dX0_round_60 : decode cX0_round 60 = .ok (.iconst 1, 1) := by decide +kernel
theorem dX0_round_61 : decode cX0_round 61 = .ok (.iadd, 1) := by decide +kernel
theorem dX0_round_62 : decode cX0_round 62 = .ok (.iastore, 1) := by decide +kernel
theorem dX0_round_63 : decode cX0_round 63 = .ok (.aload_n 0, 1) := by decide +kernel
theorem dX0_round_64 : decode cX0_round 64 = .ok (.getfield 16, 3) := by decide +kernel
theorem dX0_round_67 : decode cX0_round 67 = .ok (.iload_n 2, 1) := by decide +kernel
theorem dX0_round_68 : decode cX0_round 68 = .ok (.iconst 0, 1) := by decide +kernel
theorem dX0_round_69 : decode cX0_round 69 = .ok (.iastore, 1) := by decide +kernel
theorem dX0_round_70 : decode cX0_round 70 = .ok (.aload_n 0, 1) := by decide +kernel
theorem dX0_round_71 : decode cX0_round 71 = .ok (.getfield 19, 3) := by decide +kernel
theorem dX0_round_74 : decode cX0_round 74 = .ok (.iload_n 2, 1) := by decide +kernel
theorem dX0_round_75 : decode cX0_round 75 = .ok (.iconst 1, 1) := by decide +kernel
theorem dX0_round_76 : decode cX0_round 76 = .ok (.bastore, 1) := by decide +kernel
theorem dX0_round_77 : decode cX0_round 77 = .ok (.aload_n 0, 1) := by decide +kernel
theorem dX0_round_78 : decode cX0_round 78 = .ok (.getfield 32, 3) := by decide +kernel
theorem dX0_round_81 : decode cX0_round 81 = .ok (.iload_n 2, 1) := by decide +kernel
theorem dX0_round_82 : decode cX0_round 82 = .ok (.iconst 0, 1) := by decide +kernel
theorem dX0_round_83 : decode cX0_round 83 = .ok (.bastore, 1) := by decide +kernel
theorem dX0_round_84 : decode cX0_round 84 = .ok (.iinc 2 1, 3) := by decide +kernel
theorem dX0_round_87 : decode cX0_round 87 = .ok (.goto (-70), 3) := by decide +kernel
theorem dX0_round_90 : decode cX0_round 90 = .ok (.aload_n 0, 1) := by decide +kernel
theorem dX0_round_91 : decode cX0_round 91 = .ok (.getfield 93, 3) := by decide +kernel
theorem dX0_round_94 : decode cX0_round 94 = .ok (.ireturn, 1) := by decide +kernel
theorem dX0_sending_0 : decode cX0_sending 0 = .ok (.aload_n 0, 1) := by decide +kernel
theorem dX0_sending_1 : decode cX0_sending 1 = .ok (.iload_n 1, 1) := by decide +kernel
theorem dX0_sending_2 : decode cX0_sending 2 = .ok (.invokevirtual 100, 3) := by decide +kernel
theorem dX0_sending_5 : decode cX0_sending 5 = .ok (.iload_n 2, 1) := by decide +kernel
theorem dX0_sending_6 : decode cX0_sending 6 = .ok (.invokestatic 90, 3) := by decide +kernel
theorem dX0_sending_9 : decode cX0_sending 9 = .ok (.iload_n 3, 1) := by decide +kernel
theorem dX0_sending_10 : decode cX0_sending 10 = .ok (.invokestatic 90, 3) := by decide +kernel
theorem dX0_sending_13 : decode cX0_sending 13 = .ok (.iload_n 3, 1) := by decide +kernel
theorem dX0_sending_14 : decode cX0_sending 14 = .ok (.iload_n 2, 1) := by decide +kernel
theorem dX0_sending_15 : decode cX0_sending 15 = .ok (.if_icmp .ge 13, 3) := by decide +kernel
theorem dX0_sending_18 : decode cX0_sending 18 = .ok (.new 46, 3) := by decide +kernel
theorem dX0_sending_21 : decode cX0_sending 21 = .ok (.dup, 1) := by decide +kernel
theorem dX0_sending_22 : decode cX0_sending 22 = .ok (.ldc 103, 2) := by decide +kernel
theorem dX0_sending_24 : decode cX0_sending 24 = .ok (.invokespecial 50, 3) := by decide +kernel
theorem dX0_sending_27 : decode cX0_sending 27 = .ok (.athrow, 1) := by decide +kernel
theorem dX0_sending_28 : decode cX0_sending 28 = .ok (.aload_n 0, 1) := by decide +kernel
theorem dX0_sending_29 : decode cX0_sending 29 = .ok (.getfield 9, 3) := by decide +kernel
theorem dX0_sending_32 : decode cX0_sending 32 = .ok (.iload_n 1, 1) := by decide +kernel
theorem dX0_sending_33 : decode cX0_sending 33 = .ok (.iaload, 1) := by decide +kernel
theorem dX0_sending_34 : decode cX0_sending 34 = .ok (.iload_n 2, 1) := by decide +kernel
theorem dX0_sending_35 : decode cX0_sending 35 = .ok (.if_icmp .gt 9, 3) := by decide +kernel
theorem dX0_sending_38 : decode cX0_sending 38 = .ok (.aload_n 0, 1) := by decide +kernel
theorem dX0_sending_39 : decode cX0_sending 39 = .ok (.iload_n 1, 1) := by decide +kernel
theorem dX0_sending_40 : decode cX0_sending 40 = .ok (.invokevirtual 105, 3) := by decide +kernel
theorem dX0_sending_43 : decode cX0_sending 43 = .ok (.ireturn, 1) := by decide +kernel
theorem dX0_sending_44 : decode cX0_sending 44 = .ok (.aload_n 0, 1) := by decide +kernel
theorem dX0_sending_45 : decode cX0_sending 45 = .ok (.getfield 9, 3) := by decide +kernel
theorem dX0_sending_48 : decode cX0_sending 48 = .ok (.iload_n 1, 1) := by decide +kernel
theorem dX0_sending_49 : decode cX0_sending 49 = .ok (.iaload, 1) := by decide +kernel
theorem dX0_sending_50 : decode cX0_sending 50 = .ok (.iload_n 3, 1) := by decide +kernel
theorem dX0_sending_51 : decode cX0_sending 51 = .ok (.if_icmp .gt 18, 3) := by decide +kernel
theorem dX0_sending_54 : decode cX0_sending 54 = .ok (.aload_n 0, 1) := by decide +kernel
theorem dX0_sending_55 : decode cX0_sending 55 = .ok (.iload_n 1, 1) := by decide +kernel
theorem dX0_sending_56 : decode cX0_sending 56 = .ok (.invokevirtual 108, 3) := by decide +kernel
theorem dX0_sending_59 : decode cX0_sending 59 = .ok (.ifCond .eq 10, 3) := by decide +kernel
theorem dX0_sending_62 : decode cX0_sending 62 = .ok (.aload_n 0, 1) := by decide +kernel
theorem dX0_sending_63 : decode cX0_sending 63 = .ok (.iload_n 1, 1) := by decide +kernel
theorem dX0_sending_64 : decode cX0_sending 64 = .ok (.iload_n 3, 1) := by decide +kernel
theorem dX0_sending_65 : decode cX0_sending 65 = .ok (.invokevirtual 111, 3) := by decide +kernel
theorem dX0_sending_68 : decode cX0_sending 68 = .ok (.ireturn, 1) := by decide +kernel
theorem dX0_sending_69 : decode cX0_sending 69 = .ok (.iload 4, 2) := by decide +kernel
theorem dX0_sending_71 : decode cX0_sending 71 = .ok (.ifCond .eq 8, 3) := by decide +kernel
theorem dX0_sending_74 : decode cX0_sending 74 = .ok (.bipush 7, 2) := by decide +kernel
theorem dX0_sending_76 : decode cX0_sending 76 = .ok (.goto 4, 3) := by decide +kernel
theorem dX0_sending_79 : decode cX0_sending 79 = .ok (.iconst 0, 1) := by decide +kernel
theorem dX0_sending_80 : decode cX0_sending 80 = .ok (.ireturn, 1) := by decide +kernel
theorem dX0_matched_0 : decode cX0_matched 0 = .ok (.iload_n 1, 1) := by decide +kernel
theorem dX0_matched_1 : decode cX0_matched 1 = .ok (.invokestatic 87, 3) := by decide +kernel
theorem dX0_matched_4 : decode cX0_matched 4 = .ok (.iload_n 2, 1) := by decide +kernel
theorem dX0_matched_5 : decode cX0_matched 5 = .ok (.invokestatic 90, 3) := by decide +kernel
theorem dX0_matched_8 : decode cX0_matched 8 = .ok (.iload_n 3, 1) := by decide +kernel
theorem dX0_matched_9 : decode cX0_matched 9 = .ok (.invokestatic 90, 3) := by decide +kernel
theorem dX0_matched_12 : decode cX0_matched 12 = .ok (.iload 4, 2) := by decide +kernel
theorem dX0_matched_14 : decode cX0_matched 14 = .ok (.invokestatic 90, 3) := by decide +kernel
theorem dX0_matched_17 : decode cX0_matched 17 = .ok (.aload_n 0, 1) := by decide +kernel
theorem dX0_matched_18 : decode cX0_matched 18 = .ok (.iload_n 1, 1) := by decide +kernel
theorem dX0_matched_19 : decode cX0_matched 19 = .ok (.iload_n 3, 1) := by decide +kernel
theorem dX0_matched_20 : decode cX0_matched 20 = .ok (.iload 4, 2) := by decide +kernel
theorem dX0_matched_22 : decode cX0_matched 22 = .ok (.invokevirtual 115, 3) := by decide +kernel
theorem dX0_matched_25 : decode cX0_matched 25 = .ok (.aload_n 0, 1) := by decide +kernel
theorem dX0_matched_26 : decode cX0_matched 26 = .ok (.getfield 13, 3) := by decide +kernel
theorem dX0_matched_29 : decode cX0_matched 29 = .ok (.iload_n 1, 1) := by decide +kernel
theorem dX0_matched_30 : decode cX0_matched 30 = .ok (.aload_n 0, 1) := by decide +kernel
theorem dX0_matched_31 : decode cX0_matched 31 = .ok (.getfield 13, 3) := by decide +kernel
theorem dX0_matched_34 : decode cX0_matched 34 = .ok (.iload_n 1, 1) := by decide +kernel
theorem dX0_matched_35 : decode cX0_matched 35 = .ok (.iaload, 1) := by decide +kernel
theorem dX0_matched_36 : decode cX0_matched 36 = .ok (.iload_n 2, 1) := by decide +kernel
theorem dX0_matched_37 : decode cX0_matched 37 = .ok (.invokestatic 119, 3) := by decide +kernel
theorem dX0_matched_40 : decode cX0_matched 40 = .ok (.iastore, 1) := by decide +kernel
theorem dX0_matched_41 : decode cX0_matched 41 = .ok (.aload_n 0, 1) := by decide +kernel
theorem dX0_matched_42 : decode cX0_matched 42 = .ok (.getfield 19, 3) := by decide +kernel
theorem dX0_matched_45 : decode cX0_matched 45 = .ok (.iload_n 1, 1) := by decide +kernel
theorem dX0_matched_46 : decode cX0_matched 46 = .ok (.iconst 0, 1) := by decide +kernel
theorem dX0_matched_47 : decode cX0_matched 47 = .ok (.bastore, 1) := by decide +kernel
theorem dX0_matched_48 : decode cX0_matched 48 = .ok (.aload_n 0, 1) := by decide +kernel
theorem dX0_matched_49 : decode cX0_matched 49 = .ok (.getfield 16, 3) := by decide +kernel
theorem dX0_matched_52 : decode cX0_matched 52 = .ok (.iload_n 1, 1) := by decide +kernel
theorem dX0_matched_53 : decode cX0_matched 53 = .ok (.aload_n 0, 1) := by decide +kernel
theorem dX0_matched_54 : decode cX0_matched 54 = .ok (.getfield 16, 3) := by decide +kernel
theorem dX0_matched_57 : decode cX0_matched 57 = .ok (.iload_n 1, 1) := by decide +kernel
theorem dX0_matched_58 : decode cX0_matched 58 = .ok (.iaload, 1) := by decide +kernel
theorem dX0_matched_59 : decode cX0_matched 59 = .ok (.iconst 1, 1) := by decide +kernel
theorem dX0_matched_60 : decode cX0_matched 60 = .ok (.isub, 1) := by decide +kernel
theorem dX0_matched_61 : decode cX0_matched 61 = .ok (.iconst 0, 1) := by decide +kernel
theorem dX0_matched_62 : decode cX0_matched 62 = .ok (.invokestatic 119, 3) := by decide +kernel
theorem dX0_matched_65 : decode cX0_matched 65 = .ok (.iastore, 1) := by decide +kernel
theorem dX0_matched_66 : decode cX0_matched 66 = .ok (.aload_n 0, 1) := by decide +kernel
theorem dX0_matched_67 : decode cX0_matched 67 = .ok (.getfield 9, 3) := by decide +kernel
theorem dX0_matched_70 : decode cX0_matched 70 = .ok (.iload_n 1, 1) := by decide +kernel
theorem dX0_matched_71 : decode cX0_matched 71 = .ok (.aload_n 0, 1) := by decide +kernel
theorem dX0_matched_72 : decode cX0_matched 72 = .ok (.getfield 9, 3) := by decide +kernel
theorem dX0_matched_75 : decode cX0_matched 75 = .ok (.iload_n 1, 1) := by decide +kernel
theorem dX0_matched_76 : decode cX0_matched 76 = .ok (.iaload, 1) := by decide +kernel
theorem dX0_matched_77 : decode cX0_matched 77 = .ok (.iload_n 2, 1) := by decide +kernel
theorem dX0_matched_78 : decode cX0_matched 78 = .ok (.iconst 1, 1) := by decide +kernel
theorem dX0_matched_79 : decode cX0_matched 79 = .ok (.iadd, 1) := by decide +kernel
theorem dX0_matched_80 : decode cX0_matched 80 = .ok (.invokestatic 119, 3) := by decide +kernel
theorem dX0_matched_83 : decode cX0_matched 83 = .ok (.iastore, 1) := by decide +kernel
theorem dX0_matched_84 : decode cX0_matched 84 = .ok (.aload_n 0, 1) := by decide +kernel
theorem dX0_matched_85 : decode cX0_matched 85 = .ok (.getfield 13, 3) := by decide +kernel
theorem dX0_matched_88 : decode cX0_matched 88 = .ok (.iload_n 1, 1) := by decide +kernel
theorem dX0_matched_89 : decode cX0_matched 89 = .ok (.iaload, 1) := by decide +kernel
theorem dX0_matched_90 : decode cX0_matched 90 = .ok (.ireturn, 1) := by decide +kernel
theorem dX0_refused_0 : decode cX0_refused 0 = .ok (.iload_n 1, 1) := by decide +kernel
theorem dX0_refused_1 : decode cX0_refused 1 = .ok (.invokestatic 87, 3) := by decide +kernel
theorem dX0_refused_4 : decode cX0_refused 4 = .ok (.iload_n 2, 1) := by decide +kernel
theorem dX0_refused_5 : decode cX0_refused 5 = .ok (.invokestatic 90, 3) := by decide +kernel
theorem dX0_refused_8 : decode cX0_refused 8 = .ok (.iload_n 3, 1) := by decide +kernel
theorem dX0_refused_9 : decode cX0_refused 9 = .ok (.invokestatic 90, 3) := by decide +kernel
theorem dX0_refused_12 : decode cX0_refused 12 = .ok (.iload 4, 2) := by decide +kernel
theorem dX0_refused_14 : decode cX0_refused 14 = .ok (.invokestatic 90, 3) := by decide +kernel
theorem dX0_refused_17 : decode cX0_refused 17 = .ok (.iload 5, 2) := by decide +kernel
theorem dX0_refused_19 : decode cX0_refused 19 = .ok (.invokestatic 90, 3) := by decide +kernel
theorem dX0_refused_22 : decode cX0_refused 22 = .ok (.aload_n 0, 1) := by decide +kernel
theorem dX0_refused_23 : decode cX0_refused 23 = .ok (.iload_n 1, 1) := by decide +kernel
theorem dX0_refused_24 : decode cX0_refused 24 = .ok (.iload 4, 2) := by decide +kernel
theorem dX0_refused_26 : decode cX0_refused 26 = .ok (.iload 5, 2) := by decide +kernel
theorem dX0_refused_28 : decode cX0_refused 28 = .ok (.invokevirtual 115, 3) := by decide +kernel
theorem dX0_refused_31 : decode cX0_refused 31 = .ok (.aload_n 0, 1) := by decide +kernel
theorem dX0_refused_32 : decode cX0_refused 32 = .ok (.getfield 16, 3) := by decide +kernel
theorem dX0_refused_35 : decode cX0_refused 35 = .ok (.iload_n 1, 1) := by decide +kernel
theorem dX0_refused_36 : decode cX0_refused 36 = .ok (.iconst 0, 1) := by decide +kernel
theorem dX0_refused_37 : decode cX0_refused 37 = .ok (.iastore, 1) := by decide +kernel
theorem dX0_refused_38 : decode cX0_refused 38 = .ok (.aload_n 0, 1) := by decide +kernel
theorem dX0_refused_39 : decode cX0_refused 39 = .ok (.getfield 19, 3) := by decide +kernel
theorem dX0_refused_42 : decode cX0_refused 42 = .ok (.iload_n 1, 1) := by decide +kernel
theorem dX0_refused_43 : decode cX0_refused 43 = .ok (.iconst 1, 1) := by decide +kernel
theorem dX0_refused_44 : decode cX0_refused 44 = .ok (.bastore, 1) := by decide +kernel
theorem dX0_refused_45 : decode cX0_refused 45 = .ok (.aload_n 0, 1) := by decide +kernel
theorem dX0_refused_46 : decode cX0_refused 46 = .ok (.getfield 9, 3) := by decide +kernel
theorem dX0_refused_49 : decode cX0_refused 49 = .ok (.iload_n 1, 1) := by decide +kernel
theorem dX0_refused_50 : decode cX0_refused 50 = .ok (.iload_n 2, 1) := by decide +kernel
theorem dX0_refused_51 : decode cX0_refused 51 = .ok (.aload_n 0, 1) := by decide +kernel
theorem dX0_refused_52 : decode cX0_refused 52 = .ok (.getfield 13, 3) := by decide +kernel
theorem dX0_refused_55 : decode cX0_refused 55 = .ok (.iload_n 1, 1) := by decide +kernel
theorem dX0_refused_56 : decode cX0_refused 56 = .ok (.iaload, 1) := by decide +kernel
theorem dX0_refused_57 : decode cX0_refused 57 = .ok (.iconst 1, 1) := by decide +kernel
theorem dX0_refused_58 : decode cX0_refused 58 = .ok (.iadd, 1) := by decide +kernel
theorem dX0_refused_59 : decode cX0_refused 59 = .ok (.invokestatic 119, 3) := by decide +kernel
theorem dX0_refused_62 : decode cX0_refused 62 = .ok (.iload_n 3, 1) := by decide +kernel
theorem dX0_refused_63 : decode cX0_refused 63 = .ok (.iconst 1, 1) := by decide +kernel
theorem dX0_refused_64 : decode cX0_refused 64 = .ok (.iadd, 1) := by decide +kernel
theorem dX0_refused_65 : decode cX0_refused 65 = .ok (.invokestatic 124, 3) := by decide +kernel
theorem dX0_refused_68 : decode cX0_refused 68 = .ok (.iastore, 1) := by decide +kernel
theorem dX0_refused_69 : decode cX0_refused 69 = .ok (.aload_n 0, 1) := by decide +kernel
theorem dX0_refused_70 : decode cX0_refused 70 = .ok (.getfield 9, 3) := by decide +kernel
theorem dX0_refused_73 : decode cX0_refused 73 = .ok (.iload_n 1, 1) := by decide +kernel
theorem dX0_refused_74 : decode cX0_refused 74 = .ok (.iaload, 1) := by decide +kernel
theorem dX0_refused_75 : decode cX0_refused 75 = .ok (.ireturn, 1) := by decide +kernel
theorem dX0_stored_0 : decode cX0_stored 0 = .ok (.iload_n 1, 1) := by decide +kernel
theorem dX0_stored_1 : decode cX0_stored 1 = .ok (.invokestatic 87, 3) := by decide +kernel
theorem dX0_stored_4 : decode cX0_stored 4 = .ok (.iload_n 2, 1) := by decide +kernel
