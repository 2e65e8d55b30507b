theorem dX1_stored_1 : decode cX1_stored 1 = .ok (.iconst 0, 1) := by decide +kernel
theorem dX1_stored_2 : decode cX1_stored 2 = .ok (.putfield 20, 3) := by decide +kernel
theorem dX1_stored_5 : decode cX1_stored 5 = .ok (.aload_n 0, 1) := by decide +kernel
theorem dX1_stored_6 : decode cX1_stored 6 = .ok (.iload_n 1, 1) := by decide +kernel
theorem dX1_stored_7 : decode cX1_stored 7 = .ok (.iload_n 2, 1) := by decide +kernel
theorem dX1_stored_8 : decode cX1_stored 8 = .ok (.iload_n 3, 1) := by decide +kernel
theorem dX1_stored_9 : decode cX1_stored 9 = .ok (.iload 4, 2) := by decide +kernel
theorem dX1_stored_11 : decode cX1_stored 11 = .ok (.iload 5, 2) := by decide +kernel
theorem dX1_stored_13 : decode cX1_stored 13 = .ok (.invokevirtual 72, 3) := by decide +kernel
theorem dX1_stored_16 : decode cX1_stored 16 = .ok (.ifCond .ne 16, 3) := by decide +kernel
theorem dX1_stored_19 : decode cX1_stored 19 = .ok (.aload_n 0, 1) := by decide +kernel
theorem dX1_stored_20 : decode cX1_stored 20 = .ok (.iload_n 1, 1) := by decide +kernel
theorem dX1_stored_21 : decode cX1_stored 21 = .ok (.iload 6, 2) := by decide +kernel
theorem dX1_stored_23 : decode cX1_stored 23 = .ok (.iconst 0, 1) := by decide +kernel
theorem dX1_stored_24 : decode cX1_stored 24 = .ok (.iconst 0, 1) := by decide +kernel
theorem dX1_stored_25 : decode cX1_stored 25 = .ok (.iconst 0, 1) := by decide +kernel
theorem dX1_stored_26 : decode cX1_stored 26 = .ok (.invokevirtual 72, 3) := by decide +kernel
theorem dX1_stored_29 : decode cX1_stored 29 = .ok (.ifCond .eq 5, 3) := by decide +kernel
theorem dX1_stored_32 : decode cX1_stored 32 = .ok (.iconst 0, 1) := by decide +kernel
theorem dX1_stored_33 : decode cX1_stored 33 = .ok (.ireturn, 1) := by decide +kernel
theorem dX1_stored_34 : decode cX1_stored 34 = .ok (.aload_n 0, 1) := by decide +kernel
theorem dX1_stored_35 : decode cX1_stored 35 = .ok (.iload_n 1, 1) := by decide +kernel
theorem dX1_stored_36 : decode cX1_stored 36 = .ok (.iload 5, 2) := by decide +kernel
theorem dX1_stored_38 : decode cX1_stored 38 = .ok (.iload 6, 2) := by decide +kernel
theorem dX1_stored_40 : decode cX1_stored 40 = .ok (.invokevirtual 76, 3) := by decide +kernel
theorem dX1_stored_43 : decode cX1_stored 43 = .ok (.aload_n 0, 1) := by decide +kernel
theorem dX1_stored_44 : decode cX1_stored 44 = .ok (.iload_n 1, 1) := by decide +kernel
theorem dX1_stored_45 : decode cX1_stored 45 = .ok (.iconst 2, 1) := by decide +kernel
theorem dX1_stored_46 : decode cX1_stored 46 = .ok (.iconst 0, 1) := by decide +kernel
theorem dX1_stored_47 : decode cX1_stored 47 = .ok (.invokevirtual 58, 3) := by decide +kernel
theorem dX1_stored_50 : decode cX1_stored 50 = .ok (.iload_n 2, 1) := by decide +kernel
theorem dX1_stored_51 : decode cX1_stored 51 = .ok (.iload_n 3, 1) := by decide +kernel
theorem dX1_stored_52 : decode cX1_stored 52 = .ok (.if_icmp .ge 12, 3) := by decide +kernel
theorem dX1_stored_55 : decode cX1_stored 55 = .ok (.aload_n 0, 1) := by decide +kernel
theorem dX1_stored_56 : decode cX1_stored 56 = .ok (.iload_n 1, 1) := by decide +kernel
theorem dX1_stored_57 : decode cX1_stored 57 = .ok (.iconst 4, 1) := by decide +kernel
theorem dX1_stored_58 : decode cX1_stored 58 = .ok (.iload_n 2, 1) := by decide +kernel
theorem dX1_stored_59 : decode cX1_stored 59 = .ok (.invokevirtual 58, 3) := by decide +kernel
theorem dX1_stored_62 : decode cX1_stored 62 = .ok (.iconst 0, 1) := by decide +kernel
theorem dX1_stored_63 : decode cX1_stored 63 = .ok (.ireturn, 1) := by decide +kernel
theorem dX1_stored_64 : decode cX1_stored 64 = .ok (.aload_n 0, 1) := by decide +kernel
theorem dX1_stored_65 : decode cX1_stored 65 = .ok (.iload_n 1, 1) := by decide +kernel
theorem dX1_stored_66 : decode cX1_stored 66 = .ok (.iconst 1, 1) := by decide +kernel
theorem dX1_stored_67 : decode cX1_stored 67 = .ok (.aload_n 0, 1) := by decide +kernel
theorem dX1_stored_68 : decode cX1_stored 68 = .ok (.iload_n 1, 1) := by decide +kernel
theorem dX1_stored_69 : decode cX1_stored 69 = .ok (.iconst 1, 1) := by decide +kernel
theorem dX1_stored_70 : decode cX1_stored 70 = .ok (.invokevirtual 38, 3) := by decide +kernel
theorem dX1_stored_73 : decode cX1_stored 73 = .ok (.iload 4, 2) := by decide +kernel
theorem dX1_stored_75 : decode cX1_stored 75 = .ok (.invokestatic 69, 3) := by decide +kernel
theorem dX1_stored_78 : decode cX1_stored 78 = .ok (.invokevirtual 58, 3) := by decide +kernel
theorem dX1_stored_81 : decode cX1_stored 81 = .ok (.aload_n 0, 1) := by decide +kernel
theorem dX1_stored_82 : decode cX1_stored 82 = .ok (.iload_n 1, 1) := by decide +kernel
theorem dX1_stored_83 : decode cX1_stored 83 = .ok (.iconst 0, 1) := by decide +kernel
theorem dX1_stored_84 : decode cX1_stored 84 = .ok (.iload 4, 2) := by decide +kernel
theorem dX1_stored_86 : decode cX1_stored 86 = .ok (.iconst 1, 1) := by decide +kernel
theorem dX1_stored_87 : decode cX1_stored 87 = .ok (.iadd, 1) := by decide +kernel
theorem dX1_stored_88 : decode cX1_stored 88 = .ok (.invokevirtual 58, 3) := by decide +kernel
theorem dX1_stored_91 : decode cX1_stored 91 = .ok (.aload_n 0, 1) := by decide +kernel
theorem dX1_stored_92 : decode cX1_stored 92 = .ok (.iload_n 1, 1) := by decide +kernel
theorem dX1_stored_93 : decode cX1_stored 93 = .ok (.iconst 3, 1) := by decide +kernel
theorem dX1_stored_94 : decode cX1_stored 94 = .ok (.iconst 1, 1) := by decide +kernel
theorem dX1_stored_95 : decode cX1_stored 95 = .ok (.invokevirtual 58, 3) := by decide +kernel
theorem dX1_stored_98 : decode cX1_stored 98 = .ok (.aload_n 0, 1) := by decide +kernel
theorem dX1_stored_99 : decode cX1_stored 99 = .ok (.iload_n 1, 1) := by decide +kernel
theorem dX1_stored_100 : decode cX1_stored 100 = .ok (.iconst 4, 1) := by decide +kernel
theorem dX1_stored_101 : decode cX1_stored 101 = .ok (.iconst 0, 1) := by decide +kernel
theorem dX1_stored_102 : decode cX1_stored 102 = .ok (.invokevirtual 58, 3) := by decide +kernel
theorem dX1_stored_105 : decode cX1_stored 105 = .ok (.iconst 1, 1) := by decide +kernel
theorem dX1_stored_106 : decode cX1_stored 106 = .ok (.ireturn, 1) := by decide +kernel
theorem dX1_own_0 : decode cX1_own 0 = .ok (.aload_n 0, 1) := by decide +kernel
theorem dX1_own_1 : decode cX1_own 1 = .ok (.iconst 0, 1) := by decide +kernel
theorem dX1_own_2 : decode cX1_own 2 = .ok (.putfield 20, 3) := by decide +kernel
theorem dX1_own_5 : decode cX1_own 5 = .ok (.iload_n 1, 1) := by decide +kernel
theorem dX1_own_6 : decode cX1_own 6 = .ok (.invokestatic 55, 3) := by decide +kernel
theorem dX1_own_9 : decode cX1_own 9 = .ok (.ifCond .eq 10, 3) := by decide +kernel
theorem dX1_own_12 : decode cX1_own 12 = .ok (.iload_n 2, 1) := by decide +kernel
theorem dX1_own_13 : decode cX1_own 13 = .ok (.invokestatic 55, 3) := by decide +kernel
theorem dX1_own_16 : decode cX1_own 16 = .ok (.ifCond .ne 9, 3) := by decide +kernel
theorem dX1_own_19 : decode cX1_own 19 = .ok (.aload_n 0, 1) := by decide +kernel
theorem dX1_own_20 : decode cX1_own 20 = .ok (.iconst 1, 1) := by decide +kernel
theorem dX1_own_21 : decode cX1_own 21 = .ok (.putfield 20, 3) := by decide +kernel
theorem dX1_own_24 : decode cX1_own 24 = .ok (.return_, 1) := by decide +kernel
theorem dX1_own_25 : decode cX1_own 25 = .ok (.aload_n 0, 1) := by decide +kernel
theorem dX1_own_26 : decode cX1_own 26 = .ok (.aload_n 0, 1) := by decide +kernel
theorem dX1_own_27 : decode cX1_own 27 = .ok (.getfield 13, 3) := by decide +kernel
theorem dX1_own_30 : decode cX1_own 30 = .ok (.iconst 1, 1) := by decide +kernel
theorem dX1_own_31 : decode cX1_own 31 = .ok (.iload_n 1, 1) := by decide +kernel
theorem dX1_own_32 : decode cX1_own 32 = .ok (.invokevirtual 58, 3) := by decide +kernel
theorem dX1_own_35 : decode cX1_own 35 = .ok (.aload_n 0, 1) := by decide +kernel
theorem dX1_own_36 : decode cX1_own 36 = .ok (.aload_n 0, 1) := by decide +kernel
theorem dX1_own_37 : decode cX1_own 37 = .ok (.getfield 13, 3) := by decide +kernel
theorem dX1_own_40 : decode cX1_own 40 = .ok (.bipush 6, 2) := by decide +kernel
theorem dX1_own_42 : decode cX1_own 42 = .ok (.iload_n 2, 1) := by decide +kernel
theorem dX1_own_43 : decode cX1_own 43 = .ok (.invokevirtual 58, 3) := by decide +kernel
theorem dX1_own_46 : decode cX1_own 46 = .ok (.aload_n 0, 1) := by decide +kernel
theorem dX1_own_47 : decode cX1_own 47 = .ok (.aload_n 0, 1) := by decide +kernel
theorem dX1_own_48 : decode cX1_own 48 = .ok (.getfield 13, 3) := by decide +kernel
theorem dX1_own_51 : decode cX1_own 51 = .ok (.iconst 5, 1) := by decide +kernel
theorem dX1_own_52 : decode cX1_own 52 = .ok (.aload_n 0, 1) := by decide +kernel
theorem dX1_own_53 : decode cX1_own 53 = .ok (.getfield 62, 3) := by decide +kernel
theorem dX1_own_56 : decode cX1_own 56 = .ok (.invokevirtual 58, 3) := by decide +kernel
theorem dX1_own_59 : decode cX1_own 59 = .ok (.return_, 1) := by decide +kernel
theorem dX1_agreed_0 : decode cX1_agreed 0 = .ok (.aload_n 0, 1) := by decide +kernel
theorem dX1_agreed_1 : decode cX1_agreed 1 = .ok (.iconst 0, 1) := by decide +kernel
theorem dX1_agreed_2 : decode cX1_agreed 2 = .ok (.putfield 20, 3) := by decide +kernel
theorem dX1_agreed_5 : decode cX1_agreed 5 = .ok (.iload_n 1, 1) := by decide +kernel
theorem dX1_agreed_6 : decode cX1_agreed 6 = .ok (.ifCond .lt 8, 3) := by decide +kernel
theorem dX1_agreed_9 : decode cX1_agreed 9 = .ok (.iload_n 1, 1) := by decide +kernel
theorem dX1_agreed_10 : decode cX1_agreed 10 = .ok (.iconst 2, 1) := by decide +kernel
theorem dX1_agreed_11 : decode cX1_agreed 11 = .ok (.if_icmp .le 9, 3) := by decide +kernel
theorem dX1_agreed_14 : decode cX1_agreed 14 = .ok (.aload_n 0, 1) := by decide +kernel
theorem dX1_agreed_15 : decode cX1_agreed 15 = .ok (.iconst 1, 1) := by decide +kernel
theorem dX1_agreed_16 : decode cX1_agreed 16 = .ok (.invokevirtual 42, 3) := by decide +kernel
theorem dX1_agreed_19 : decode cX1_agreed 19 = .ok (.ireturn, 1) := by decide +kernel
theorem dX1_agreed_20 : decode cX1_agreed 20 = .ok (.iload_n 1, 1) := by decide +kernel
theorem dX1_agreed_21 : decode cX1_agreed 21 = .ok (.ifCond .ne 7, 3) := by decide +kernel
theorem dX1_agreed_24 : decode cX1_agreed 24 = .ok (.iconst 1, 1) := by decide +kernel
theorem dX1_agreed_25 : decode cX1_agreed 25 = .ok (.goto 14, 3) := by decide +kernel
theorem dX1_agreed_28 : decode cX1_agreed 28 = .ok (.iload_n 1, 1) := by decide +kernel
theorem dX1_agreed_29 : decode cX1_agreed 29 = .ok (.iconst 1, 1) := by decide +kernel
theorem dX1_agreed_30 : decode cX1_agreed 30 = .ok (.if_icmp .ne 7, 3) := by decide +kernel
theorem dX1_agreed_33 : decode cX1_agreed 33 = .ok (.iconst 5, 1) := by decide +kernel
theorem dX1_agreed_34 : decode cX1_agreed 34 = .ok (.goto 5, 3) := by decide +kernel
theorem dX1_agreed_37 : decode cX1_agreed 37 = .ok (.bipush 6, 2) := by decide +kernel
theorem dX1_agreed_39 : decode cX1_agreed 39 = .ok (.istore_n 2, 1) := by decide +kernel
theorem dX1_agreed_40 : decode cX1_agreed 40 = .ok (.iconst 0, 1) := by decide +kernel
theorem dX1_agreed_41 : decode cX1_agreed 41 = .ok (.istore_n 3, 1) := by decide +kernel
theorem dX1_agreed_42 : decode cX1_agreed 42 = .ok (.iconst 1, 1) := by decide +kernel
theorem dX1_agreed_43 : decode cX1_agreed 43 = .ok (.istore 4, 2) := by decide +kernel
theorem dX1_agreed_45 : decode cX1_agreed 45 = .ok (.iload 4, 2) := by decide +kernel
theorem dX1_agreed_47 : decode cX1_agreed 47 = .ok (.sipush 128, 3) := by decide +kernel
theorem dX1_agreed_50 : decode cX1_agreed 50 = .ok (.if_icmp .ge 78, 3) := by decide +kernel
theorem dX1_agreed_53 : decode cX1_agreed 53 = .ok (.ldc 79, 2) := by decide +kernel
theorem dX1_agreed_55 : decode cX1_agreed 55 = .ok (.istore 5, 2) := by decide +kernel
theorem dX1_agreed_57 : decode cX1_agreed 57 = .ok (.iconst 0, 1) := by decide +kernel
theorem dX1_agreed_58 : decode cX1_agreed 58 = .ok (.istore 6, 2) := by decide +kernel
theorem dX1_agreed_60 : decode cX1_agreed 60 = .ok (.iload 6, 2) := by decide +kernel
theorem dX1_agreed_62 : decode cX1_agreed 62 = .ok (.bipush 7, 2) := by decide +kernel
theorem dX1_agreed_64 : decode cX1_agreed 64 = .ok (.if_icmp .ge 40, 3) := by decide +kernel
theorem dX1_agreed_67 : decode cX1_agreed 67 = .ok (.iload 4, 2) := by decide +kernel
theorem dX1_agreed_69 : decode cX1_agreed 69 = .ok (.iload 6, 2) := by decide +kernel
theorem dX1_agreed_71 : decode cX1_agreed 71 = .ok (.invokestatic 34, 3) := by decide +kernel
theorem dX1_agreed_74 : decode cX1_agreed 74 = .ok (.ifCond .eq 24, 3) := by decide +kernel
theorem dX1_agreed_77 : decode cX1_agreed 77 = .ok (.aload_n 0, 1) := by decide +kernel
theorem dX1_agreed_78 : decode cX1_agreed 78 = .ok (.iload 6, 2) := by decide +kernel
theorem dX1_agreed_80 : decode cX1_agreed 80 = .ok (.iload_n 2, 1) := by decide +kernel
theorem dX1_agreed_81 : decode cX1_agreed 81 = .ok (.invokevirtual 38, 3) := by decide +kernel
theorem dX1_agreed_84 : decode cX1_agreed 84 = .ok (.iload 5, 2) := by decide +kernel
theorem dX1_agreed_86 : decode cX1_agreed 86 = .ok (.if_icmp .ge 12, 3) := by decide +kernel
theorem dX1_agreed_89 : decode cX1_agreed 89 = .ok (.aload_n 0, 1) := by decide +kernel
theorem dX1_agreed_90 : decode cX1_agreed 90 = .ok (.iload 6, 2) := by decide +kernel
theorem dX1_agreed_92 : decode cX1_agreed 92 = .ok (.iload_n 2, 1) := by decide +kernel
theorem dX1_agreed_93 : decode cX1_agreed 93 = .ok (.invokevirtual 38, 3) := by decide +kernel
theorem dX1_agreed_96 : decode cX1_agreed 96 = .ok (.istore 5, 2) := by decide +kernel
theorem dX1_agreed_98 : decode cX1_agreed 98 = .ok (.iinc 6 1, 3) := by decide +kernel
theorem dX1_agreed_101 : decode cX1_agreed 101 = .ok (.goto (-41), 3) := by decide +kernel
theorem dX1_agreed_104 : decode cX1_agreed 104 = .ok (.aload_n 0, 1) := by decide +kernel
theorem dX1_agreed_105 : decode cX1_agreed 105 = .ok (.iload 4, 2) := by decide +kernel
theorem dX1_agreed_107 : decode cX1_agreed 107 = .ok (.invokevirtual 49, 3) := by decide +kernel
theorem dX1_agreed_110 : decode cX1_agreed 110 = .ok (.ifCond .eq 12, 3) := by decide +kernel
theorem dX1_agreed_113 : decode cX1_agreed 113 = .ok (.iload 5, 2) := by decide +kernel
theorem dX1_agreed_115 : decode cX1_agreed 115 = .ok (.iload_n 3, 1) := by decide +kernel
theorem dX1_agreed_116 : decode cX1_agreed 116 = .ok (.if_icmp .le 6, 3) := by decide +kernel
theorem dX1_agreed_119 : decode cX1_agreed 119 = .ok (.iload 5, 2) := by decide +kernel
theorem dX1_agreed_121 : decode cX1_agreed 121 = .ok (.istore_n 3, 1) := by decide +kernel
theorem dX1_agreed_122 : decode cX1_agreed 122 = .ok (.iinc 4 1, 3) := by decide +kernel
theorem dX1_agreed_125 : decode cX1_agreed 125 = .ok (.goto (-80), 3) := by decide +kernel
theorem dX1_agreed_128 : decode cX1_agreed 128 = .ok (.iload_n 3, 1) := by decide +kernel
theorem dX1_agreed_129 : decode cX1_agreed 129 = .ok (.ireturn, 1) := by decide +kernel
theorem dX1_server_0 : decode cX1_server 0 = .ok (.aload_n 0, 1) := by decide +kernel
theorem dX1_server_1 : decode cX1_server 1 = .ok (.iconst 0, 1) := by decide +kernel
theorem dX1_server_2 : decode cX1_server 2 = .ok (.putfield 20, 3) := by decide +kernel
theorem dX1_server_5 : decode cX1_server 5 = .ok (.bipush 127, 2) := by decide +kernel
theorem dX1_server_7 : decode cX1_server 7 = .ok (.iload_n 1, 1) := by decide +kernel
theorem dX1_server_8 : decode cX1_server 8 = .ok (.invokestatic 34, 3) := by decide +kernel
theorem dX1_server_11 : decode cX1_server 11 = .ok (.ifCond .eq 13, 3) := by decide +kernel
theorem dX1_server_14 : decode cX1_server 14 = .ok (.iload_n 2, 1) := by decide +kernel
theorem dX1_server_15 : decode cX1_server 15 = .ok (.ifCond .lt 9, 3) := by decide +kernel
theorem dX1_server_18 : decode cX1_server 18 = .ok (.iload_n 2, 1) := by decide +kernel
theorem dX1_server_19 : decode cX1_server 19 = .ok (.bipush 7, 2) := by decide +kernel
theorem dX1_server_21 : decode cX1_server 21 = .ok (.if_icmp .le 11, 3) := by decide +kernel
theorem dX1_server_24 : decode cX1_server 24 = .ok (.aload_n 0, 1) := by decide +kernel
theorem dX1_server_25 : decode cX1_server 25 = .ok (.iconst 1, 1) := by decide +kernel
theorem dX1_server_26 : decode cX1_server 26 = .ok (.invokevirtual 42, 3) := by decide +kernel
theorem dX1_server_29 : decode cX1_server 29 = .ok (.goto 9, 3) := by decide +kernel
theorem dX1_server_32 : decode cX1_server 32 = .ok (.aload_n 0, 1) := by decide +kernel
theorem dX1_server_33 : decode cX1_server 33 = .ok (.iload_n 1, 1) := by decide +kernel
theorem dX1_server_34 : decode cX1_server 34 = .ok (.iload_n 2, 1) := by decide +kernel
theorem dX1_server_35 : decode cX1_server 35 = .ok (.invokevirtual 38, 3) := by decide +kernel
theorem dX1_server_38 : decode cX1_server 38 = .ok (.ireturn, 1) := by decide +kernel
theorem dX1_council_0 : decode cX1_council 0 = .ok (.aload_n 0, 1) := by decide +kernel
theorem dX1_council_1 : decode cX1_council 1 = .ok (.iconst 0, 1) := by decide +kernel
theorem dX1_council_2 : decode cX1_council 2 = .ok (.putfield 20, 3) := by decide +kernel
theorem dX1_council_5 : decode cX1_council 5 = .ok (.iload_n 1, 1) := by decide +kernel
theorem dX1_council_6 : decode cX1_council 6 = .ok (.ifCond .lt 9, 3) := by decide +kernel
theorem dX1_council_9 : decode cX1_council 9 = .ok (.iload_n 1, 1) := by decide +kernel
theorem dX1_council_10 : decode cX1_council 10 = .ok (.bipush 7, 2) := by decide +kernel
theorem dX1_council_12 : decode cX1_council 12 = .ok (.if_icmp .le 5, 3) := by decide +kernel
theorem dX1_council_15 : decode cX1_council 15 = .ok (.iconst (-1), 1) := by decide +kernel
theorem dX1_council_16 : decode cX1_council 16 = .ok (.ireturn, 1) := by decide +kernel
theorem dX1_council_17 : decode cX1_council 17 = .ok (.iload_n 1, 1) := by decide +kernel
theorem dX1_council_18 : decode cX1_council 18 = .ok (.iconst 3, 1) := by decide +kernel
theorem dX1_council_19 : decode cX1_council 19 = .ok (.if_icmp .ge 31, 3) := by decide +kernel
theorem dX1_council_22 : decode cX1_council 22 = .ok (.iload_n 1, 1) := by decide +kernel
theorem dX1_council_23 : decode cX1_council 23 = .ok (.ifCond .ne 10, 3) := by decide +kernel
theorem dX1_council_26 : decode cX1_council 26 = .ok (.aload_n 0, 1) := by decide +kernel
theorem dX1_council_27 : decode cX1_council 27 = .ok (.getfield 17, 3) := by decide +kernel
theorem dX1_council_30 : decode cX1_council 30 = .ok (.goto 19, 3) := by decide +kernel
theorem dX1_council_33 : decode cX1_council 33 = .ok (.iload_n 1, 1) := by decide +kernel
theorem dX1_council_34 : decode cX1_council 34 = .ok (.iconst 1, 1) := by decide +kernel
theorem dX1_council_35 : decode cX1_council 35 = .ok (.if_icmp .ne 10, 3) := by decide +kernel
theorem dX1_council_38 : decode cX1_council 38 = .ok (.aload_n 0, 1) := by decide +kernel
theorem dX1_council_39 : decode cX1_council 39 = .ok (.getfield 28, 3) := by decide +kernel
theorem dX1_council_42 : decode cX1_council 42 = .ok (.goto 7, 3) := by decide +kernel
theorem dX1_council_45 : decode cX1_council 45 = .ok (.aload_n 0, 1) := by decide +kernel
theorem dX1_council_46 : decode cX1_council 46 = .ok (.getfield 31, 3) := by decide +kernel
theorem dX1_council_49 : decode cX1_council 49 = .ok (.ireturn, 1) := by decide +kernel
theorem dX1_council_50 : decode cX1_council 50 = .ok (.iload_n 1, 1) := by decide +kernel
theorem dX1_council_51 : decode cX1_council 51 = .ok (.iconst 5, 1) := by decide +kernel
theorem dX1_council_52 : decode cX1_council 52 = .ok (.if_icmp .ge 25, 3) := by decide +kernel
theorem dX1_council_55 : decode cX1_council 55 = .ok (.iload_n 1, 1) := by decide +kernel
theorem dX1_council_56 : decode cX1_council 56 = .ok (.iconst 3, 1) := by decide +kernel
theorem dX1_council_57 : decode cX1_council 57 = .ok (.if_icmp .ne 15, 3) := by decide +kernel
theorem dX1_council_60 : decode cX1_council 60 = .ok (.aload_n 0, 1) := by decide +kernel
theorem dX1_council_61 : decode cX1_council 61 = .ok (.getfield 17, 3) := by decide +kernel
theorem dX1_council_64 : decode cX1_council 64 = .ok (.aload_n 0, 1) := by decide +kernel
theorem dX1_council_65 : decode cX1_council 65 = .ok (.getfield 28, 3) := by decide +kernel
theorem dX1_council_68 : decode cX1_council 68 = .ok (.ior, 1) := by decide +kernel
theorem dX1_council_69 : decode cX1_council 69 = .ok (.goto 7, 3) := by decide +kernel
theorem dX1_council_72 : decode cX1_council 72 = .ok (.aload_n 0, 1) := by decide +kernel
theorem dX1_council_73 : decode cX1_council 73 = .ok (.invokevirtual 65, 3) := by decide +kernel
theorem dX1_council_76 : decode cX1_council 76 = .ok (.ireturn, 1) := by decide +kernel
theorem dX1_council_77 : decode cX1_council 77 = .ok (.iload_n 1, 1) := by decide +kernel
theorem dX1_council_78 : decode cX1_council 78 = .ok (.iconst 5, 1) := by decide +kernel
theorem dX1_council_79 : decode cX1_council 79 = .ok (.if_icmp .ne 10, 3) := by decide +kernel
theorem dX1_council_82 : decode cX1_council 82 = .ok (.aload_n 0, 1) := by decide +kernel
theorem dX1_council_83 : decode cX1_council 83 = .ok (.getfield 52, 3) := by decide +kernel
theorem dX1_council_86 : decode cX1_council 86 = .ok (.goto 20, 3) := by decide +kernel
theorem dX1_council_89 : decode cX1_council 89 = .ok (.iload_n 1, 1) := by decide +kernel
theorem dX1_council_90 : decode cX1_council 90 = .ok (.bipush 6, 2) := by decide +kernel
theorem dX1_council_92 : decode cX1_council 92 = .ok (.if_icmp .ne 10, 3) := by decide +kernel
theorem dX1_council_95 : decode cX1_council 95 = .ok (.aload_n 0, 1) := by decide +kernel
theorem dX1_council_96 : decode cX1_council 96 = .ok (.getfield 62, 3) := by decide +kernel
theorem dX1_council_99 : decode cX1_council 99 = .ok (.goto 7, 3) := by decide +kernel
theorem dX1_council_102 : decode cX1_council 102 = .ok (.aload_n 0, 1) := by decide +kernel
theorem dX1_council_103 : decode cX1_council 103 = .ok (.getfield 13, 3) := by decide +kernel
theorem dX1_council_106 : decode cX1_council 106 = .ok (.ireturn, 1) := by decide +kernel
