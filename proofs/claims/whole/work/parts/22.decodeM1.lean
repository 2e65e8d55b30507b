theorem dX1_lead_9 : decode cX1_lead 9 = .ok (.ifCond .eq 10, 3) := by decide +kernel
theorem dX1_lead_12 : decode cX1_lead 12 = .ok (.iload_n 2, 1) := by decide +kernel
theorem dX1_lead_13 : decode cX1_lead 13 = .ok (.invokestatic 55, 3) := by decide +kernel
theorem dX1_lead_16 : decode cX1_lead 16 = .ok (.ifCond .ne 9, 3) := by decide +kernel
theorem dX1_lead_19 : decode cX1_lead 19 = .ok (.aload_n 0, 1) := by decide +kernel
theorem dX1_lead_20 : decode cX1_lead 20 = .ok (.iconst 1, 1) := by decide +kernel
theorem dX1_lead_21 : decode cX1_lead 21 = .ok (.putfield 20, 3) := by decide +kernel
theorem dX1_lead_24 : decode cX1_lead 24 = .ok (.return_, 1) := by decide +kernel
theorem dX1_lead_25 : decode cX1_lead 25 = .ok (.iconst 0, 1) := by decide +kernel
theorem dX1_lead_26 : decode cX1_lead 26 = .ok (.istore_n 3, 1) := by decide +kernel
theorem dX1_lead_27 : decode cX1_lead 27 = .ok (.iload_n 3, 1) := by decide +kernel
theorem dX1_lead_28 : decode cX1_lead 28 = .ok (.bipush 7, 2) := by decide +kernel
theorem dX1_lead_30 : decode cX1_lead 30 = .ok (.if_icmp .ge 65, 3) := by decide +kernel
theorem dX1_lead_33 : decode cX1_lead 33 = .ok (.iconst 0, 1) := by decide +kernel
theorem dX1_lead_34 : decode cX1_lead 34 = .ok (.istore 4, 2) := by decide +kernel
theorem dX1_lead_36 : decode cX1_lead 36 = .ok (.iload 4, 2) := by decide +kernel
theorem dX1_lead_38 : decode cX1_lead 38 = .ok (.bipush 8, 2) := by decide +kernel
theorem dX1_lead_40 : decode cX1_lead 40 = .ok (.if_icmp .ge 49, 3) := by decide +kernel
theorem dX1_lead_43 : decode cX1_lead 43 = .ok (.aload_n 0, 1) := by decide +kernel
theorem dX1_lead_44 : decode cX1_lead 44 = .ok (.iload_n 3, 1) := by decide +kernel
theorem dX1_lead_45 : decode cX1_lead 45 = .ok (.iload 4, 2) := by decide +kernel
theorem dX1_lead_47 : decode cX1_lead 47 = .ok (.iload 4, 2) := by decide +kernel
theorem dX1_lead_49 : decode cX1_lead 49 = .ok (.ifCond .ne 9, 3) := by decide +kernel
theorem dX1_lead_52 : decode cX1_lead 52 = .ok (.iload_n 1, 1) := by decide +kernel
theorem dX1_lead_53 : decode cX1_lead 53 = .ok (.iconst 1, 1) := by decide +kernel
theorem dX1_lead_54 : decode cX1_lead 54 = .ok (.iadd, 1) := by decide +kernel
theorem dX1_lead_55 : decode cX1_lead 55 = .ok (.goto 25, 3) := by decide +kernel
theorem dX1_lead_58 : decode cX1_lead 58 = .ok (.iload 4, 2) := by decide +kernel
theorem dX1_lead_60 : decode cX1_lead 60 = .ok (.iconst 3, 1) := by decide +kernel
theorem dX1_lead_61 : decode cX1_lead 61 = .ok (.if_icmp .ne 7, 3) := by decide +kernel
theorem dX1_lead_64 : decode cX1_lead 64 = .ok (.iconst 1, 1) := by decide +kernel
theorem dX1_lead_65 : decode cX1_lead 65 = .ok (.goto 15, 3) := by decide +kernel
theorem dX1_lead_68 : decode cX1_lead 68 = .ok (.iload 4, 2) := by decide +kernel
theorem dX1_lead_70 : decode cX1_lead 70 = .ok (.bipush 6, 2) := by decide +kernel
theorem dX1_lead_72 : decode cX1_lead 72 = .ok (.if_icmp .ne 7, 3) := by decide +kernel
theorem dX1_lead_75 : decode cX1_lead 75 = .ok (.iload_n 2, 1) := by decide +kernel
theorem dX1_lead_76 : decode cX1_lead 76 = .ok (.goto 4, 3) := by decide +kernel
theorem dX1_lead_79 : decode cX1_lead 79 = .ok (.iconst 0, 1) := by decide +kernel
theorem dX1_lead_80 : decode cX1_lead 80 = .ok (.invokevirtual 58, 3) := by decide +kernel
theorem dX1_lead_83 : decode cX1_lead 83 = .ok (.iinc 4 1, 3) := by decide +kernel
theorem dX1_lead_86 : decode cX1_lead 86 = .ok (.goto (-50), 3) := by decide +kernel
theorem dX1_lead_89 : decode cX1_lead 89 = .ok (.iinc 3 1, 3) := by decide +kernel
theorem dX1_lead_92 : decode cX1_lead 92 = .ok (.goto (-65), 3) := by decide +kernel
theorem dX1_lead_95 : decode cX1_lead 95 = .ok (.aload_n 0, 1) := by decide +kernel
theorem dX1_lead_96 : decode cX1_lead 96 = .ok (.iconst 0, 1) := by decide +kernel
theorem dX1_lead_97 : decode cX1_lead 97 = .ok (.putfield 62, 3) := by decide +kernel
theorem dX1_lead_100 : decode cX1_lead 100 = .ok (.return_, 1) := by decide +kernel
theorem dX1_round_0 : decode cX1_round 0 = .ok (.aload_n 0, 1) := by decide +kernel
theorem dX1_round_1 : decode cX1_round 1 = .ok (.iconst 0, 1) := by decide +kernel
theorem dX1_round_2 : decode cX1_round 2 = .ok (.putfield 20, 3) := by decide +kernel
theorem dX1_round_5 : decode cX1_round 5 = .ok (.aload_n 0, 1) := by decide +kernel
theorem dX1_round_6 : decode cX1_round 6 = .ok (.dup, 1) := by decide +kernel
theorem dX1_round_7 : decode cX1_round 7 = .ok (.getfield 62, 3) := by decide +kernel
theorem dX1_round_10 : decode cX1_round 10 = .ok (.iconst 1, 1) := by decide +kernel
theorem dX1_round_11 : decode cX1_round 11 = .ok (.iadd, 1) := by decide +kernel
theorem dX1_round_12 : decode cX1_round 12 = .ok (.putfield 62, 3) := by decide +kernel
theorem dX1_round_15 : decode cX1_round 15 = .ok (.iconst 0, 1) := by decide +kernel
theorem dX1_round_16 : decode cX1_round 16 = .ok (.istore_n 1, 1) := by decide +kernel
theorem dX1_round_17 : decode cX1_round 17 = .ok (.iload_n 1, 1) := by decide +kernel
theorem dX1_round_18 : decode cX1_round 18 = .ok (.bipush 7, 2) := by decide +kernel
theorem dX1_round_20 : decode cX1_round 20 = .ok (.if_icmp .ge 67, 3) := by decide +kernel
theorem dX1_round_23 : decode cX1_round 23 = .ok (.aload_n 0, 1) := by decide +kernel
theorem dX1_round_24 : decode cX1_round 24 = .ok (.invokevirtual 65, 3) := by decide +kernel
theorem dX1_round_27 : decode cX1_round 27 = .ok (.iload_n 1, 1) := by decide +kernel
theorem dX1_round_28 : decode cX1_round 28 = .ok (.invokestatic 34, 3) := by decide +kernel
theorem dX1_round_31 : decode cX1_round 31 = .ok (.ifCond .eq 50, 3) := by decide +kernel
theorem dX1_round_34 : decode cX1_round 34 = .ok (.aload_n 0, 1) := by decide +kernel
theorem dX1_round_35 : decode cX1_round 35 = .ok (.iload_n 1, 1) := by decide +kernel
theorem dX1_round_36 : decode cX1_round 36 = .ok (.iconst 2, 1) := by decide +kernel
theorem dX1_round_37 : decode cX1_round 37 = .ok (.invokevirtual 38, 3) := by decide +kernel
theorem dX1_round_40 : decode cX1_round 40 = .ok (.ifCond .le 41, 3) := by decide +kernel
theorem dX1_round_43 : decode cX1_round 43 = .ok (.aload_n 0, 1) := by decide +kernel
theorem dX1_round_44 : decode cX1_round 44 = .ok (.iload_n 1, 1) := by decide +kernel
theorem dX1_round_45 : decode cX1_round 45 = .ok (.bipush 7, 2) := by decide +kernel
theorem dX1_round_47 : decode cX1_round 47 = .ok (.invokevirtual 38, 3) := by decide +kernel
theorem dX1_round_50 : decode cX1_round 50 = .ok (.ifCond .ne 31, 3) := by decide +kernel
theorem dX1_round_53 : decode cX1_round 53 = .ok (.aload_n 0, 1) := by decide +kernel
theorem dX1_round_54 : decode cX1_round 54 = .ok (.iload_n 1, 1) := by decide +kernel
theorem dX1_round_55 : decode cX1_round 55 = .ok (.iconst 0, 1) := by decide +kernel
theorem dX1_round_56 : decode cX1_round 56 = .ok (.aload_n 0, 1) := by decide +kernel
theorem dX1_round_57 : decode cX1_round 57 = .ok (.iload_n 1, 1) := by decide +kernel
theorem dX1_round_58 : decode cX1_round 58 = .ok (.iconst 1, 1) := by decide +kernel
theorem dX1_round_59 : decode cX1_round 59 = .ok (.invokevirtual 38, 3) := by decide +kernel
theorem dX1_round_62 : decode cX1_round 62 = .ok (.iconst 1, 1) := by decide +kernel
theorem dX1_round_63 : decode cX1_round 63 = .ok (.iadd, 1) := by decide +kernel
theorem dX1_round_64 : decode cX1_round 64 = .ok (.invokevirtual 58, 3) := by decide +kernel
theorem dX1_round_67 : decode cX1_round 67 = .ok (.aload_n 0, 1) := by decide +kernel
theorem dX1_round_68 : decode cX1_round 68 = .ok (.iload_n 1, 1) := by decide +kernel
theorem dX1_round_69 : decode cX1_round 69 = .ok (.iconst 2, 1) := by decide +kernel
theorem dX1_round_70 : decode cX1_round 70 = .ok (.iconst 0, 1) := by decide +kernel
theorem dX1_round_71 : decode cX1_round 71 = .ok (.invokevirtual 58, 3) := by decide +kernel
theorem dX1_round_74 : decode cX1_round 74 = .ok (.aload_n 0, 1) := by decide +kernel
theorem dX1_round_75 : decode cX1_round 75 = .ok (.iload_n 1, 1) := by decide +kernel
theorem dX1_round_76 : decode cX1_round 76 = .ok (.iconst 3, 1) := by decide +kernel
theorem dX1_round_77 : decode cX1_round 77 = .ok (.iconst 1, 1) := by decide +kernel
theorem dX1_round_78 : decode cX1_round 78 = .ok (.invokevirtual 58, 3) := by decide +kernel
theorem dX1_round_81 : decode cX1_round 81 = .ok (.iinc 1 1, 3) := by decide +kernel
theorem dX1_round_84 : decode cX1_round 84 = .ok (.goto (-67), 3) := by decide +kernel
theorem dX1_round_87 : decode cX1_round 87 = .ok (.iconst 0, 1) := by decide +kernel
theorem dX1_round_88 : decode cX1_round 88 = .ok (.istore_n 1, 1) := by decide +kernel
theorem dX1_round_89 : decode cX1_round 89 = .ok (.iload_n 1, 1) := by decide +kernel
theorem dX1_round_90 : decode cX1_round 90 = .ok (.bipush 7, 2) := by decide +kernel
theorem dX1_round_92 : decode cX1_round 92 = .ok (.if_icmp .ge 17, 3) := by decide +kernel
theorem dX1_round_95 : decode cX1_round 95 = .ok (.aload_n 0, 1) := by decide +kernel
theorem dX1_round_96 : decode cX1_round 96 = .ok (.iload_n 1, 1) := by decide +kernel
theorem dX1_round_97 : decode cX1_round 97 = .ok (.bipush 7, 2) := by decide +kernel
theorem dX1_round_99 : decode cX1_round 99 = .ok (.iconst 0, 1) := by decide +kernel
theorem dX1_round_100 : decode cX1_round 100 = .ok (.invokevirtual 58, 3) := by decide +kernel
theorem dX1_round_103 : decode cX1_round 103 = .ok (.iinc 1 1, 3) := by decide +kernel
theorem dX1_round_106 : decode cX1_round 106 = .ok (.goto (-17), 3) := by decide +kernel
theorem dX1_round_109 : decode cX1_round 109 = .ok (.aload_n 0, 1) := by decide +kernel
theorem dX1_round_110 : decode cX1_round 110 = .ok (.getfield 62, 3) := by decide +kernel
theorem dX1_round_113 : decode cX1_round 113 = .ok (.ireturn, 1) := by decide +kernel
theorem dX1_sending_0 : decode cX1_sending 0 = .ok (.aload_n 0, 1) := by decide +kernel
theorem dX1_sending_1 : decode cX1_sending 1 = .ok (.iconst 0, 1) := by decide +kernel
theorem dX1_sending_2 : decode cX1_sending 2 = .ok (.putfield 20, 3) := by decide +kernel
theorem dX1_sending_5 : decode cX1_sending 5 = .ok (.aload_n 0, 1) := by decide +kernel
theorem dX1_sending_6 : decode cX1_sending 6 = .ok (.invokevirtual 65, 3) := by decide +kernel
theorem dX1_sending_9 : decode cX1_sending 9 = .ok (.iload_n 1, 1) := by decide +kernel
theorem dX1_sending_10 : decode cX1_sending 10 = .ok (.invokestatic 34, 3) := by decide +kernel
theorem dX1_sending_13 : decode cX1_sending 13 = .ok (.ifCond .ne 9, 3) := by decide +kernel
theorem dX1_sending_16 : decode cX1_sending 16 = .ok (.aload_n 0, 1) := by decide +kernel
theorem dX1_sending_17 : decode cX1_sending 17 = .ok (.iconst 1, 1) := by decide +kernel
theorem dX1_sending_18 : decode cX1_sending 18 = .ok (.invokevirtual 42, 3) := by decide +kernel
theorem dX1_sending_21 : decode cX1_sending 21 = .ok (.ireturn, 1) := by decide +kernel
theorem dX1_sending_22 : decode cX1_sending 22 = .ok (.iload_n 2, 1) := by decide +kernel
theorem dX1_sending_23 : decode cX1_sending 23 = .ok (.invokestatic 55, 3) := by decide +kernel
theorem dX1_sending_26 : decode cX1_sending 26 = .ok (.ifCond .eq 15, 3) := by decide +kernel
theorem dX1_sending_29 : decode cX1_sending 29 = .ok (.iload_n 3, 1) := by decide +kernel
theorem dX1_sending_30 : decode cX1_sending 30 = .ok (.invokestatic 55, 3) := by decide +kernel
theorem dX1_sending_33 : decode cX1_sending 33 = .ok (.ifCond .eq 8, 3) := by decide +kernel
theorem dX1_sending_36 : decode cX1_sending 36 = .ok (.iload_n 3, 1) := by decide +kernel
theorem dX1_sending_37 : decode cX1_sending 37 = .ok (.iload_n 2, 1) := by decide +kernel
theorem dX1_sending_38 : decode cX1_sending 38 = .ok (.if_icmp .ge 9, 3) := by decide +kernel
theorem dX1_sending_41 : decode cX1_sending 41 = .ok (.aload_n 0, 1) := by decide +kernel
theorem dX1_sending_42 : decode cX1_sending 42 = .ok (.iconst 2, 1) := by decide +kernel
theorem dX1_sending_43 : decode cX1_sending 43 = .ok (.invokevirtual 42, 3) := by decide +kernel
theorem dX1_sending_46 : decode cX1_sending 46 = .ok (.ireturn, 1) := by decide +kernel
theorem dX1_sending_47 : decode cX1_sending 47 = .ok (.aload_n 0, 1) := by decide +kernel
theorem dX1_sending_48 : decode cX1_sending 48 = .ok (.iload_n 1, 1) := by decide +kernel
theorem dX1_sending_49 : decode cX1_sending 49 = .ok (.iconst 2, 1) := by decide +kernel
theorem dX1_sending_50 : decode cX1_sending 50 = .ok (.invokevirtual 38, 3) := by decide +kernel
theorem dX1_sending_53 : decode cX1_sending 53 = .ok (.istore 5, 2) := by decide +kernel
theorem dX1_sending_55 : decode cX1_sending 55 = .ok (.aload_n 0, 1) := by decide +kernel
theorem dX1_sending_56 : decode cX1_sending 56 = .ok (.iload_n 1, 1) := by decide +kernel
theorem dX1_sending_57 : decode cX1_sending 57 = .ok (.iconst 0, 1) := by decide +kernel
theorem dX1_sending_58 : decode cX1_sending 58 = .ok (.invokevirtual 38, 3) := by decide +kernel
theorem dX1_sending_61 : decode cX1_sending 61 = .ok (.iload_n 2, 1) := by decide +kernel
theorem dX1_sending_62 : decode cX1_sending 62 = .ok (.if_icmp .gt 32, 3) := by decide +kernel
theorem dX1_sending_65 : decode cX1_sending 65 = .ok (.aload_n 0, 1) := by decide +kernel
theorem dX1_sending_66 : decode cX1_sending 66 = .ok (.iload_n 1, 1) := by decide +kernel
theorem dX1_sending_67 : decode cX1_sending 67 = .ok (.iconst 2, 1) := by decide +kernel
theorem dX1_sending_68 : decode cX1_sending 68 = .ok (.iload 5, 2) := by decide +kernel
theorem dX1_sending_70 : decode cX1_sending 70 = .ok (.ifCond .ne 7, 3) := by decide +kernel
theorem dX1_sending_73 : decode cX1_sending 73 = .ok (.iconst 1, 1) := by decide +kernel
theorem dX1_sending_74 : decode cX1_sending 74 = .ok (.goto 5, 3) := by decide +kernel
theorem dX1_sending_77 : decode cX1_sending 77 = .ok (.iload 5, 2) := by decide +kernel
theorem dX1_sending_79 : decode cX1_sending 79 = .ok (.invokevirtual 58, 3) := by decide +kernel
theorem dX1_sending_82 : decode cX1_sending 82 = .ok (.iload 5, 2) := by decide +kernel
theorem dX1_sending_84 : decode cX1_sending 84 = .ok (.ifCond .ne 8, 3) := by decide +kernel
theorem dX1_sending_87 : decode cX1_sending 87 = .ok (.bipush 8, 2) := by decide +kernel
theorem dX1_sending_89 : decode cX1_sending 89 = .ok (.goto 4, 3) := by decide +kernel
theorem dX1_sending_92 : decode cX1_sending 92 = .ok (.iconst 0, 1) := by decide +kernel
theorem dX1_sending_93 : decode cX1_sending 93 = .ok (.ireturn, 1) := by decide +kernel
theorem dX1_sending_94 : decode cX1_sending 94 = .ok (.iload_n 3, 1) := by decide +kernel
theorem dX1_sending_95 : decode cX1_sending 95 = .ok (.aload_n 0, 1) := by decide +kernel
theorem dX1_sending_96 : decode cX1_sending 96 = .ok (.iload_n 1, 1) := by decide +kernel
theorem dX1_sending_97 : decode cX1_sending 97 = .ok (.iconst 0, 1) := by decide +kernel
theorem dX1_sending_98 : decode cX1_sending 98 = .ok (.invokevirtual 38, 3) := by decide +kernel
theorem dX1_sending_101 : decode cX1_sending 101 = .ok (.isub, 1) := by decide +kernel
theorem dX1_sending_102 : decode cX1_sending 102 = .ok (.iconst 1, 1) := by decide +kernel
theorem dX1_sending_103 : decode cX1_sending 103 = .ok (.iadd, 1) := by decide +kernel
theorem dX1_sending_104 : decode cX1_sending 104 = .ok (.istore 6, 2) := by decide +kernel
theorem dX1_sending_106 : decode cX1_sending 106 = .ok (.iload 6, 2) := by decide +kernel
theorem dX1_sending_108 : decode cX1_sending 108 = .ok (.ifCond .le 67, 3) := by decide +kernel
theorem dX1_sending_111 : decode cX1_sending 111 = .ok (.iload 5, 2) := by decide +kernel
theorem dX1_sending_113 : decode cX1_sending 113 = .ok (.aload_n 0, 1) := by decide +kernel
theorem dX1_sending_114 : decode cX1_sending 114 = .ok (.iload_n 1, 1) := by decide +kernel
theorem dX1_sending_115 : decode cX1_sending 115 = .ok (.iconst 3, 1) := by decide +kernel
theorem dX1_sending_116 : decode cX1_sending 116 = .ok (.invokevirtual 38, 3) := by decide +kernel
theorem dX1_sending_119 : decode cX1_sending 119 = .ok (.iconst 1, 1) := by decide +kernel
theorem dX1_sending_120 : decode cX1_sending 120 = .ok (.if_icmp .ne 7, 3) := by decide +kernel
theorem dX1_sending_123 : decode cX1_sending 123 = .ok (.iconst 1, 1) := by decide +kernel
theorem dX1_sending_124 : decode cX1_sending 124 = .ok (.goto 4, 3) := by decide +kernel
theorem dX1_sending_127 : decode cX1_sending 127 = .ok (.iconst 4, 1) := by decide +kernel
theorem dX1_sending_128 : decode cX1_sending 128 = .ok (.if_icmp .ge 47, 3) := by decide +kernel
theorem dX1_sending_131 : decode cX1_sending 131 = .ok (.iload 6, 2) := by decide +kernel
theorem dX1_sending_133 : decode cX1_sending 133 = .ok (.bipush 6, 2) := by decide +kernel
theorem dX1_sending_135 : decode cX1_sending 135 = .ok (.if_icmp .le 8, 3) := by decide +kernel
theorem dX1_sending_138 : decode cX1_sending 138 = .ok (.bipush 6, 2) := by decide +kernel
theorem dX1_sending_140 : decode cX1_sending 140 = .ok (.goto 5, 3) := by decide +kernel
theorem dX1_sending_143 : decode cX1_sending 143 = .ok (.iload 6, 2) := by decide +kernel
theorem dX1_sending_145 : decode cX1_sending 145 = .ok (.istore 7, 2) := by decide +kernel
theorem dX1_sending_147 : decode cX1_sending 147 = .ok (.aload_n 0, 1) := by decide +kernel
theorem dX1_sending_148 : decode cX1_sending 148 = .ok (.iload_n 1, 1) := by decide +kernel
theorem dX1_sending_149 : decode cX1_sending 149 = .ok (.iconst 0, 1) := by decide +kernel
theorem dX1_sending_150 : decode cX1_sending 150 = .ok (.aload_n 0, 1) := by decide +kernel
theorem dX1_sending_151 : decode cX1_sending 151 = .ok (.iload_n 1, 1) := by decide +kernel
theorem dX1_sending_152 : decode cX1_sending 152 = .ok (.iconst 0, 1) := by decide +kernel
theorem dX1_sending_153 : decode cX1_sending 153 = .ok (.invokevirtual 38, 3) := by decide +kernel
theorem dX1_sending_156 : decode cX1_sending 156 = .ok (.iload 7, 2) := by decide +kernel
theorem dX1_sending_158 : decode cX1_sending 158 = .ok (.iadd, 1) := by decide +kernel
theorem dX1_sending_159 : decode cX1_sending 159 = .ok (.invokevirtual 58, 3) := by decide +kernel
theorem dX1_sending_162 : decode cX1_sending 162 = .ok (.aload_n 0, 1) := by decide +kernel
theorem dX1_sending_163 : decode cX1_sending 163 = .ok (.iload_n 1, 1) := by decide +kernel
theorem dX1_sending_164 : decode cX1_sending 164 = .ok (.iconst 2, 1) := by decide +kernel
theorem dX1_sending_165 : decode cX1_sending 165 = .ok (.iload 5, 2) := by decide +kernel
theorem dX1_sending_167 : decode cX1_sending 167 = .ok (.iconst 1, 1) := by decide +kernel
theorem dX1_sending_168 : decode cX1_sending 168 = .ok (.iadd, 1) := by decide +kernel
theorem dX1_sending_169 : decode cX1_sending 169 = .ok (.invokevirtual 58, 3) := by decide +kernel
theorem dX1_sending_172 : decode cX1_sending 172 = .ok (.iload 7, 2) := by decide +kernel
theorem dX1_sending_174 : decode cX1_sending 174 = .ok (.ireturn, 1) := by decide +kernel
theorem dX1_sending_175 : decode cX1_sending 175 = .ok (.iload 4, 2) := by decide +kernel
theorem dX1_sending_177 : decode cX1_sending 177 = .ok (.ifCond .eq 8, 3) := by decide +kernel
theorem dX1_sending_180 : decode cX1_sending 180 = .ok (.bipush 7, 2) := by decide +kernel
theorem dX1_sending_182 : decode cX1_sending 182 = .ok (.goto 4, 3) := by decide +kernel
theorem dX1_sending_185 : decode cX1_sending 185 = .ok (.iconst 0, 1) := by decide +kernel
theorem dX1_sending_186 : decode cX1_sending 186 = .ok (.ireturn, 1) := by decide +kernel
theorem dX1_bad_0 : decode cX1_bad 0 = .ok (.bipush 127, 2) := by decide +kernel
theorem dX1_bad_2 : decode cX1_bad 2 = .ok (.iload_n 1, 1) := by decide +kernel
theorem dX1_bad_3 : decode cX1_bad 3 = .ok (.invokestatic 34, 3) := by decide +kernel
theorem dX1_bad_6 : decode cX1_bad 6 = .ok (.ifCond .ne 11, 3) := by decide +kernel
theorem dX1_bad_9 : decode cX1_bad 9 = .ok (.aload_n 0, 1) := by decide +kernel
theorem dX1_bad_10 : decode cX1_bad 10 = .ok (.iconst 1, 1) := by decide +kernel
theorem dX1_bad_11 : decode cX1_bad 11 = .ok (.putfield 20, 3) := by decide +kernel
theorem dX1_bad_14 : decode cX1_bad 14 = .ok (.goto 38, 3) := by decide +kernel
theorem dX1_bad_17 : decode cX1_bad 17 = .ok (.iload_n 2, 1) := by decide +kernel
theorem dX1_bad_18 : decode cX1_bad 18 = .ok (.invokestatic 55, 3) := by decide +kernel
theorem dX1_bad_21 : decode cX1_bad 21 = .ok (.ifCond .eq 26, 3) := by decide +kernel
theorem dX1_bad_24 : decode cX1_bad 24 = .ok (.iload_n 3, 1) := by decide +kernel
theorem dX1_bad_25 : decode cX1_bad 25 = .ok (.invokestatic 55, 3) := by decide +kernel
theorem dX1_bad_28 : decode cX1_bad 28 = .ok (.ifCond .eq 19, 3) := by decide +kernel
theorem dX1_bad_31 : decode cX1_bad 31 = .ok (.iload 4, 2) := by decide +kernel
theorem dX1_bad_33 : decode cX1_bad 33 = .ok (.invokestatic 55, 3) := by decide +kernel
theorem dX1_bad_36 : decode cX1_bad 36 = .ok (.ifCond .eq 11, 3) := by decide +kernel
theorem dX1_bad_39 : decode cX1_bad 39 = .ok (.iload 5, 2) := by decide +kernel
theorem dX1_bad_41 : decode cX1_bad 41 = .ok (.invokestatic 55, 3) := by decide +kernel
theorem dX1_bad_44 : decode cX1_bad 44 = .ok (.ifCond .ne 8, 3) := by decide +kernel
theorem dX1_bad_47 : decode cX1_bad 47 = .ok (.aload_n 0, 1) := by decide +kernel
theorem dX1_bad_48 : decode cX1_bad 48 = .ok (.iconst 2, 1) := by decide +kernel
theorem dX1_bad_49 : decode cX1_bad 49 = .ok (.putfield 20, 3) := by decide +kernel
theorem dX1_bad_52 : decode cX1_bad 52 = .ok (.aload_n 0, 1) := by decide +kernel
theorem dX1_bad_53 : decode cX1_bad 53 = .ok (.getfield 20, 3) := by decide +kernel
theorem dX1_bad_56 : decode cX1_bad 56 = .ok (.ifCond .le 7, 3) := by decide +kernel
theorem dX1_bad_59 : decode cX1_bad 59 = .ok (.iconst 1, 1) := by decide +kernel
theorem dX1_bad_60 : decode cX1_bad 60 = .ok (.goto 4, 3) := by decide +kernel
theorem dX1_bad_63 : decode cX1_bad 63 = .ok (.iconst 0, 1) := by decide +kernel
theorem dX1_bad_64 : decode cX1_bad 64 = .ok (.ireturn, 1) := by decide +kernel
theorem dX1_greater_0 : decode cX1_greater 0 = .ok (.iload_n 0, 1) := by decide +kernel
theorem dX1_greater_1 : decode cX1_greater 1 = .ok (.iload_n 1, 1) := by decide +kernel
theorem dX1_greater_2 : decode cX1_greater 2 = .ok (.if_icmp .le 7, 3) := by decide +kernel
theorem dX1_greater_5 : decode cX1_greater 5 = .ok (.iload_n 0, 1) := by decide +kernel
theorem dX1_greater_6 : decode cX1_greater 6 = .ok (.goto 4, 3) := by decide +kernel
theorem dX1_greater_9 : decode cX1_greater 9 = .ok (.iload_n 1, 1) := by decide +kernel
theorem dX1_greater_10 : decode cX1_greater 10 = .ok (.ireturn, 1) := by decide +kernel
theorem dX1_answered_0 : decode cX1_answered 0 = .ok (.aload_n 0, 1) := by decide +kernel
theorem dX1_answered_1 : decode cX1_answered 1 = .ok (.iload_n 1, 1) := by decide +kernel
theorem dX1_answered_2 : decode cX1_answered 2 = .ok (.bipush 6, 2) := by decide +kernel
theorem dX1_answered_4 : decode cX1_answered 4 = .ok (.iload_n 3, 1) := by decide +kernel
theorem dX1_answered_5 : decode cX1_answered 5 = .ok (.invokevirtual 58, 3) := by decide +kernel
theorem dX1_answered_8 : decode cX1_answered 8 = .ok (.aload_n 0, 1) := by decide +kernel
theorem dX1_answered_9 : decode cX1_answered 9 = .ok (.iload_n 1, 1) := by decide +kernel
theorem dX1_answered_10 : decode cX1_answered 10 = .ok (.bipush 7, 2) := by decide +kernel
theorem dX1_answered_12 : decode cX1_answered 12 = .ok (.iconst 1, 1) := by decide +kernel
theorem dX1_answered_13 : decode cX1_answered 13 = .ok (.invokevirtual 58, 3) := by decide +kernel
theorem dX1_answered_16 : decode cX1_answered 16 = .ok (.aload_n 0, 1) := by decide +kernel
theorem dX1_answered_17 : decode cX1_answered 17 = .ok (.iload_n 1, 1) := by decide +kernel
theorem dX1_answered_18 : decode cX1_answered 18 = .ok (.iconst 5, 1) := by decide +kernel
theorem dX1_answered_19 : decode cX1_answered 19 = .ok (.aload_n 0, 1) := by decide +kernel
theorem dX1_answered_20 : decode cX1_answered 20 = .ok (.iload_n 1, 1) := by decide +kernel
theorem dX1_answered_21 : decode cX1_answered 21 = .ok (.iconst 5, 1) := by decide +kernel
theorem dX1_answered_22 : decode cX1_answered 22 = .ok (.invokevirtual 38, 3) := by decide +kernel
theorem dX1_answered_25 : decode cX1_answered 25 = .ok (.iload_n 2, 1) := by decide +kernel
theorem dX1_answered_26 : decode cX1_answered 26 = .ok (.invokestatic 69, 3) := by decide +kernel
theorem dX1_answered_29 : decode cX1_answered 29 = .ok (.invokevirtual 58, 3) := by decide +kernel
theorem dX1_answered_32 : decode cX1_answered 32 = .ok (.return_, 1) := by decide +kernel
theorem dX1_matched_0 : decode cX1_matched 0 = .ok (.aload_n 0, 1) := by decide +kernel
theorem dX1_matched_1 : decode cX1_matched 1 = .ok (.iconst 0, 1) := by decide +kernel
theorem dX1_matched_2 : decode cX1_matched 2 = .ok (.putfield 20, 3) := by decide +kernel
theorem dX1_matched_5 : decode cX1_matched 5 = .ok (.aload_n 0, 1) := by decide +kernel
theorem dX1_matched_6 : decode cX1_matched 6 = .ok (.iload_n 1, 1) := by decide +kernel
theorem dX1_matched_7 : decode cX1_matched 7 = .ok (.iload_n 2, 1) := by decide +kernel
theorem dX1_matched_8 : decode cX1_matched 8 = .ok (.iload_n 3, 1) := by decide +kernel
theorem dX1_matched_9 : decode cX1_matched 9 = .ok (.iload 4, 2) := by decide +kernel
theorem dX1_matched_11 : decode cX1_matched 11 = .ok (.iconst 0, 1) := by decide +kernel
theorem dX1_matched_12 : decode cX1_matched 12 = .ok (.invokevirtual 72, 3) := by decide +kernel
theorem dX1_matched_15 : decode cX1_matched 15 = .ok (.ifCond .eq 5, 3) := by decide +kernel
theorem dX1_matched_18 : decode cX1_matched 18 = .ok (.iconst 0, 1) := by decide +kernel
theorem dX1_matched_19 : decode cX1_matched 19 = .ok (.ireturn, 1) := by decide +kernel
theorem dX1_matched_20 : decode cX1_matched 20 = .ok (.aload_n 0, 1) := by decide +kernel
theorem dX1_matched_21 : decode cX1_matched 21 = .ok (.iload_n 1, 1) := by decide +kernel
theorem dX1_matched_22 : decode cX1_matched 22 = .ok (.iload_n 3, 1) := by decide +kernel
theorem dX1_matched_23 : decode cX1_matched 23 = .ok (.iload 4, 2) := by decide +kernel
theorem dX1_matched_25 : decode cX1_matched 25 = .ok (.invokevirtual 76, 3) := by decide +kernel
theorem dX1_matched_28 : decode cX1_matched 28 = .ok (.aload_n 0, 1) := by decide +kernel
theorem dX1_matched_29 : decode cX1_matched 29 = .ok (.iload_n 1, 1) := by decide +kernel
theorem dX1_matched_30 : decode cX1_matched 30 = .ok (.iconst 1, 1) := by decide +kernel
theorem dX1_matched_31 : decode cX1_matched 31 = .ok (.aload_n 0, 1) := by decide +kernel
theorem dX1_matched_32 : decode cX1_matched 32 = .ok (.iload_n 1, 1) := by decide +kernel
theorem dX1_matched_33 : decode cX1_matched 33 = .ok (.iconst 1, 1) := by decide +kernel
theorem dX1_matched_34 : decode cX1_matched 34 = .ok (.invokevirtual 38, 3) := by decide +kernel
theorem dX1_matched_37 : decode cX1_matched 37 = .ok (.iload_n 2, 1) := by decide +kernel
theorem dX1_matched_38 : decode cX1_matched 38 = .ok (.invokestatic 69, 3) := by decide +kernel
theorem dX1_matched_41 : decode cX1_matched 41 = .ok (.invokevirtual 58, 3) := by decide +kernel
theorem dX1_matched_44 : decode cX1_matched 44 = .ok (.aload_n 0, 1) := by decide +kernel
theorem dX1_matched_45 : decode cX1_matched 45 = .ok (.iload_n 1, 1) := by decide +kernel
theorem dX1_matched_46 : decode cX1_matched 46 = .ok (.iconst 3, 1) := by decide +kernel
theorem dX1_matched_47 : decode cX1_matched 47 = .ok (.iconst 0, 1) := by decide +kernel
theorem dX1_matched_48 : decode cX1_matched 48 = .ok (.invokevirtual 58, 3) := by decide +kernel
theorem dX1_matched_51 : decode cX1_matched 51 = .ok (.aload_n 0, 1) := by decide +kernel
theorem dX1_matched_52 : decode cX1_matched 52 = .ok (.iload_n 1, 1) := by decide +kernel
theorem dX1_matched_53 : decode cX1_matched 53 = .ok (.iconst 2, 1) := by decide +kernel
theorem dX1_matched_54 : decode cX1_matched 54 = .ok (.aload_n 0, 1) := by decide +kernel
theorem dX1_matched_55 : decode cX1_matched 55 = .ok (.iload_n 1, 1) := by decide +kernel
theorem dX1_matched_56 : decode cX1_matched 56 = .ok (.iconst 2, 1) := by decide +kernel
theorem dX1_matched_57 : decode cX1_matched 57 = .ok (.invokevirtual 38, 3) := by decide +kernel
theorem dX1_matched_60 : decode cX1_matched 60 = .ok (.ifCond .ne 7, 3) := by decide +kernel
theorem dX1_matched_63 : decode cX1_matched 63 = .ok (.iconst 0, 1) := by decide +kernel
theorem dX1_matched_64 : decode cX1_matched 64 = .ok (.goto 11, 3) := by decide +kernel
theorem dX1_matched_67 : decode cX1_matched 67 = .ok (.aload_n 0, 1) := by decide +kernel
theorem dX1_matched_68 : decode cX1_matched 68 = .ok (.iload_n 1, 1) := by decide +kernel
theorem dX1_matched_69 : decode cX1_matched 69 = .ok (.iconst 2, 1) := by decide +kernel
theorem dX1_matched_70 : decode cX1_matched 70 = .ok (.invokevirtual 38, 3) := by decide +kernel
theorem dX1_matched_73 : decode cX1_matched 73 = .ok (.iconst 1, 1) := by decide +kernel
theorem dX1_matched_74 : decode cX1_matched 74 = .ok (.isub, 1) := by decide +kernel
theorem dX1_matched_75 : decode cX1_matched 75 = .ok (.invokevirtual 58, 3) := by decide +kernel
theorem dX1_matched_78 : decode cX1_matched 78 = .ok (.aload_n 0, 1) := by decide +kernel
theorem dX1_matched_79 : decode cX1_matched 79 = .ok (.iload_n 1, 1) := by decide +kernel
theorem dX1_matched_80 : decode cX1_matched 80 = .ok (.iconst 0, 1) := by decide +kernel
theorem dX1_matched_81 : decode cX1_matched 81 = .ok (.aload_n 0, 1) := by decide +kernel
theorem dX1_matched_82 : decode cX1_matched 82 = .ok (.iload_n 1, 1) := by decide +kernel
theorem dX1_matched_83 : decode cX1_matched 83 = .ok (.iconst 0, 1) := by decide +kernel
theorem dX1_matched_84 : decode cX1_matched 84 = .ok (.invokevirtual 38, 3) := by decide +kernel
theorem dX1_matched_87 : decode cX1_matched 87 = .ok (.iload_n 2, 1) := by decide +kernel
theorem dX1_matched_88 : decode cX1_matched 88 = .ok (.iconst 1, 1) := by decide +kernel
theorem dX1_matched_89 : decode cX1_matched 89 = .ok (.iadd, 1) := by decide +kernel
theorem dX1_matched_90 : decode cX1_matched 90 = .ok (.invokestatic 69, 3) := by decide +kernel
theorem dX1_matched_93 : decode cX1_matched 93 = .ok (.invokevirtual 58, 3) := by decide +kernel
theorem dX1_matched_96 : decode cX1_matched 96 = .ok (.aload_n 0, 1) := by decide +kernel
theorem dX1_matched_97 : decode cX1_matched 97 = .ok (.iload_n 1, 1) := by decide +kernel
theorem dX1_matched_98 : decode cX1_matched 98 = .ok (.iconst 1, 1) := by decide +kernel
theorem dX1_matched_99 : decode cX1_matched 99 = .ok (.invokevirtual 38, 3) := by decide +kernel
theorem dX1_matched_102 : decode cX1_matched 102 = .ok (.ireturn, 1) := by decide +kernel
theorem dX1_refused_0 : decode cX1_refused 0 = .ok (.aload_n 0, 1) := by decide +kernel
theorem dX1_refused_1 : decode cX1_refused 1 = .ok (.iconst 0, 1) := by decide +kernel
theorem dX1_refused_2 : decode cX1_refused 2 = .ok (.putfield 20, 3) := by decide +kernel
theorem dX1_refused_5 : decode cX1_refused 5 = .ok (.aload_n 0, 1) := by decide +kernel
theorem dX1_refused_6 : decode cX1_refused 6 = .ok (.iload_n 1, 1) := by decide +kernel
theorem dX1_refused_7 : decode cX1_refused 7 = .ok (.iload_n 2, 1) := by decide +kernel
theorem dX1_refused_8 : decode cX1_refused 8 = .ok (.iload_n 3, 1) := by decide +kernel
theorem dX1_refused_9 : decode cX1_refused 9 = .ok (.iload 4, 2) := by decide +kernel
theorem dX1_refused_11 : decode cX1_refused 11 = .ok (.iload 5, 2) := by decide +kernel
theorem dX1_refused_13 : decode cX1_refused 13 = .ok (.invokevirtual 72, 3) := by decide +kernel
theorem dX1_refused_16 : decode cX1_refused 16 = .ok (.ifCond .eq 5, 3) := by decide +kernel
theorem dX1_refused_19 : decode cX1_refused 19 = .ok (.iconst 0, 1) := by decide +kernel
theorem dX1_refused_20 : decode cX1_refused 20 = .ok (.ireturn, 1) := by decide +kernel
theorem dX1_refused_21 : decode cX1_refused 21 = .ok (.aload_n 0, 1) := by decide +kernel
theorem dX1_refused_22 : decode cX1_refused 22 = .ok (.iload_n 1, 1) := by decide +kernel
theorem dX1_refused_23 : decode cX1_refused 23 = .ok (.iload 4, 2) := by decide +kernel
theorem dX1_refused_25 : decode cX1_refused 25 = .ok (.iload 5, 2) := by decide +kernel
theorem dX1_refused_27 : decode cX1_refused 27 = .ok (.invokevirtual 76, 3) := by decide +kernel
theorem dX1_refused_30 : decode cX1_refused 30 = .ok (.aload_n 0, 1) := by decide +kernel
theorem dX1_refused_31 : decode cX1_refused 31 = .ok (.iload_n 1, 1) := by decide +kernel
theorem dX1_refused_32 : decode cX1_refused 32 = .ok (.iconst 2, 1) := by decide +kernel
theorem dX1_refused_33 : decode cX1_refused 33 = .ok (.iconst 0, 1) := by decide +kernel
theorem dX1_refused_34 : decode cX1_refused 34 = .ok (.invokevirtual 58, 3) := by decide +kernel
theorem dX1_refused_37 : decode cX1_refused 37 = .ok (.aload_n 0, 1) := by decide +kernel
theorem dX1_refused_38 : decode cX1_refused 38 = .ok (.iload_n 1, 1) := by decide +kernel
theorem dX1_refused_39 : decode cX1_refused 39 = .ok (.iconst 3, 1) := by decide +kernel
theorem dX1_refused_40 : decode cX1_refused 40 = .ok (.iconst 1, 1) := by decide +kernel
theorem dX1_refused_41 : decode cX1_refused 41 = .ok (.invokevirtual 58, 3) := by decide +kernel
theorem dX1_refused_44 : decode cX1_refused 44 = .ok (.iload_n 2, 1) := by decide +kernel
theorem dX1_refused_45 : decode cX1_refused 45 = .ok (.aload_n 0, 1) := by decide +kernel
theorem dX1_refused_46 : decode cX1_refused 46 = .ok (.iload_n 1, 1) := by decide +kernel
theorem dX1_refused_47 : decode cX1_refused 47 = .ok (.iconst 1, 1) := by decide +kernel
theorem dX1_refused_48 : decode cX1_refused 48 = .ok (.invokevirtual 38, 3) := by decide +kernel
theorem dX1_refused_51 : decode cX1_refused 51 = .ok (.iconst 1, 1) := by decide +kernel
theorem dX1_refused_52 : decode cX1_refused 52 = .ok (.iadd, 1) := by decide +kernel
theorem dX1_refused_53 : decode cX1_refused 53 = .ok (.invokestatic 69, 3) := by decide +kernel
theorem dX1_refused_56 : decode cX1_refused 56 = .ok (.istore 6, 2) := by decide +kernel
theorem dX1_refused_58 : decode cX1_refused 58 = .ok (.aload_n 0, 1) := by decide +kernel
theorem dX1_refused_59 : decode cX1_refused 59 = .ok (.iload_n 1, 1) := by decide +kernel
theorem dX1_refused_60 : decode cX1_refused 60 = .ok (.iconst 0, 1) := by decide +kernel
theorem dX1_refused_61 : decode cX1_refused 61 = .ok (.iload 6, 2) := by decide +kernel
theorem dX1_refused_63 : decode cX1_refused 63 = .ok (.iload_n 3, 1) := by decide +kernel
theorem dX1_refused_64 : decode cX1_refused 64 = .ok (.iconst 1, 1) := by decide +kernel
theorem dX1_refused_65 : decode cX1_refused 65 = .ok (.iadd, 1) := by decide +kernel
theorem dX1_refused_66 : decode cX1_refused 66 = .ok (.if_icmp .le 9, 3) := by decide +kernel
theorem dX1_refused_69 : decode cX1_refused 69 = .ok (.iload_n 3, 1) := by decide +kernel
theorem dX1_refused_70 : decode cX1_refused 70 = .ok (.iconst 1, 1) := by decide +kernel
theorem dX1_refused_71 : decode cX1_refused 71 = .ok (.iadd, 1) := by decide +kernel
theorem dX1_refused_72 : decode cX1_refused 72 = .ok (.goto 5, 3) := by decide +kernel
theorem dX1_refused_75 : decode cX1_refused 75 = .ok (.iload 6, 2) := by decide +kernel
theorem dX1_refused_77 : decode cX1_refused 77 = .ok (.invokevirtual 58, 3) := by decide +kernel
theorem dX1_refused_80 : decode cX1_refused 80 = .ok (.aload_n 0, 1) := by decide +kernel
theorem dX1_refused_81 : decode cX1_refused 81 = .ok (.iload_n 1, 1) := by decide +kernel
theorem dX1_refused_82 : decode cX1_refused 82 = .ok (.iconst 0, 1) := by decide +kernel
theorem dX1_refused_83 : decode cX1_refused 83 = .ok (.invokevirtual 38, 3) := by decide +kernel
theorem dX1_refused_86 : decode cX1_refused 86 = .ok (.ireturn, 1) := by decide +kernel
theorem dX1_stored_0 : decode cX1_stored 0 = .ok (.aload_n 0, 1) := by decide +kernel
