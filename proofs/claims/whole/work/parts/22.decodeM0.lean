theorem dX1_init_0 : decode cX1_init 0 = .ok (.aload_n 0, 1) := by decide +kernel
theorem dX1_init_1 : decode cX1_init 1 = .ok (.invokespecial 1, 3) := by decide +kernel
theorem dX1_init_4 : decode cX1_init 4 = .ok (.aload_n 0, 1) := by decide +kernel
theorem dX1_init_5 : decode cX1_init 5 = .ok (.bipush 56, 2) := by decide +kernel
theorem dX1_init_7 : decode cX1_init 7 = .ok (.newarray .int, 2) := by decide +kernel
theorem dX1_init_9 : decode cX1_init 9 = .ok (.putfield 7, 3) := by decide +kernel
theorem dX1_init_12 : decode cX1_init 12 = .ok (.aload_n 0, 1) := by decide +kernel
theorem dX1_init_13 : decode cX1_init 13 = .ok (.iload_n 1, 1) := by decide +kernel
theorem dX1_init_14 : decode cX1_init 14 = .ok (.bipush 7, 2) := by decide +kernel
theorem dX1_init_16 : decode cX1_init 16 = .ok (.iand, 1) := by decide +kernel
theorem dX1_init_17 : decode cX1_init 17 = .ok (.bipush 7, 2) := by decide +kernel
theorem dX1_init_19 : decode cX1_init 19 = .ok (.if_icmp .ne 8, 3) := by decide +kernel
theorem dX1_init_22 : decode cX1_init 22 = .ok (.bipush 6, 2) := by decide +kernel
theorem dX1_init_24 : decode cX1_init 24 = .ok (.goto 7, 3) := by decide +kernel
theorem dX1_init_27 : decode cX1_init 27 = .ok (.iload_n 1, 1) := by decide +kernel
theorem dX1_init_28 : decode cX1_init 28 = .ok (.bipush 7, 2) := by decide +kernel
theorem dX1_init_30 : decode cX1_init 30 = .ok (.iand, 1) := by decide +kernel
theorem dX1_init_31 : decode cX1_init 31 = .ok (.putfield 13, 3) := by decide +kernel
theorem dX1_init_34 : decode cX1_init 34 = .ok (.aload_n 0, 1) := by decide +kernel
theorem dX1_init_35 : decode cX1_init 35 = .ok (.iload_n 2, 1) := by decide +kernel
theorem dX1_init_36 : decode cX1_init 36 = .ok (.bipush 127, 2) := by decide +kernel
theorem dX1_init_38 : decode cX1_init 38 = .ok (.iand, 1) := by decide +kernel
theorem dX1_init_39 : decode cX1_init 39 = .ok (.ifCond .ne 7, 3) := by decide +kernel
theorem dX1_init_42 : decode cX1_init 42 = .ok (.iconst 1, 1) := by decide +kernel
theorem dX1_init_43 : decode cX1_init 43 = .ok (.goto 7, 3) := by decide +kernel
theorem dX1_init_46 : decode cX1_init 46 = .ok (.iload_n 2, 1) := by decide +kernel
theorem dX1_init_47 : decode cX1_init 47 = .ok (.bipush 127, 2) := by decide +kernel
theorem dX1_init_49 : decode cX1_init 49 = .ok (.iand, 1) := by decide +kernel
theorem dX1_init_50 : decode cX1_init 50 = .ok (.putfield 17, 3) := by decide +kernel
theorem dX1_init_53 : decode cX1_init 53 = .ok (.return_, 1) := by decide +kernel
theorem dX1_thrown_0 : decode cX1_thrown 0 = .ok (.aload_n 0, 1) := by decide +kernel
theorem dX1_thrown_1 : decode cX1_thrown 1 = .ok (.getfield 20, 3) := by decide +kernel
theorem dX1_thrown_4 : decode cX1_thrown 4 = .ok (.ireturn, 1) := by decide +kernel
theorem dX1_fail_0 : decode cX1_fail 0 = .ok (.aload_n 0, 1) := by decide +kernel
theorem dX1_fail_1 : decode cX1_fail 1 = .ok (.iload_n 1, 1) := by decide +kernel
theorem dX1_fail_2 : decode cX1_fail 2 = .ok (.putfield 20, 3) := by decide +kernel
theorem dX1_fail_5 : decode cX1_fail 5 = .ok (.iconst 0, 1) := by decide +kernel
theorem dX1_fail_6 : decode cX1_fail 6 = .ok (.ireturn, 1) := by decide +kernel
theorem dX1_isSet_0 : decode cX1_isSet 0 = .ok (.iload_n 0, 1) := by decide +kernel
theorem dX1_isSet_1 : decode cX1_isSet 1 = .ok (.ifCond .lt 14, 3) := by decide +kernel
theorem dX1_isSet_4 : decode cX1_isSet 4 = .ok (.iload_n 0, 1) := by decide +kernel
theorem dX1_isSet_5 : decode cX1_isSet 5 = .ok (.sipush 128, 3) := by decide +kernel
theorem dX1_isSet_8 : decode cX1_isSet 8 = .ok (.if_icmp .ge 7, 3) := by decide +kernel
theorem dX1_isSet_11 : decode cX1_isSet 11 = .ok (.iconst 1, 1) := by decide +kernel
theorem dX1_isSet_12 : decode cX1_isSet 12 = .ok (.goto 4, 3) := by decide +kernel
theorem dX1_isSet_15 : decode cX1_isSet 15 = .ok (.iconst 0, 1) := by decide +kernel
theorem dX1_isSet_16 : decode cX1_isSet 16 = .ok (.ireturn, 1) := by decide +kernel
theorem dX1_number_0 : decode cX1_number 0 = .ok (.iload_n 0, 1) := by decide +kernel
theorem dX1_number_1 : decode cX1_number 1 = .ok (.ifCond .lt 13, 3) := by decide +kernel
theorem dX1_number_4 : decode cX1_number 4 = .ok (.iload_n 0, 1) := by decide +kernel
theorem dX1_number_5 : decode cX1_number 5 = .ok (.ldc 23, 2) := by decide +kernel
theorem dX1_number_7 : decode cX1_number 7 = .ok (.if_icmp .gt 7, 3) := by decide +kernel
theorem dX1_number_10 : decode cX1_number 10 = .ok (.iconst 1, 1) := by decide +kernel
theorem dX1_number_11 : decode cX1_number 11 = .ok (.goto 4, 3) := by decide +kernel
theorem dX1_number_14 : decode cX1_number 14 = .ok (.iconst 0, 1) := by decide +kernel
theorem dX1_number_15 : decode cX1_number 15 = .ok (.ireturn, 1) := by decide +kernel
theorem dX1_has_0 : decode cX1_has 0 = .ok (.iload_n 1, 1) := by decide +kernel
theorem dX1_has_1 : decode cX1_has 1 = .ok (.ifCond .lt 22, 3) := by decide +kernel
theorem dX1_has_4 : decode cX1_has 4 = .ok (.iload_n 1, 1) := by decide +kernel
theorem dX1_has_5 : decode cX1_has 5 = .ok (.bipush 7, 2) := by decide +kernel
theorem dX1_has_7 : decode cX1_has 7 = .ok (.if_icmp .ge 16, 3) := by decide +kernel
theorem dX1_has_10 : decode cX1_has 10 = .ok (.iload_n 0, 1) := by decide +kernel
theorem dX1_has_11 : decode cX1_has 11 = .ok (.iload_n 1, 1) := by decide +kernel
theorem dX1_has_12 : decode cX1_has 12 = .ok (.ishr, 1) := by decide +kernel
theorem dX1_has_13 : decode cX1_has 13 = .ok (.iconst 1, 1) := by decide +kernel
theorem dX1_has_14 : decode cX1_has 14 = .ok (.iand, 1) := by decide +kernel
theorem dX1_has_15 : decode cX1_has 15 = .ok (.iconst 1, 1) := by decide +kernel
theorem dX1_has_16 : decode cX1_has 16 = .ok (.if_icmp .ne 7, 3) := by decide +kernel
theorem dX1_has_19 : decode cX1_has 19 = .ok (.iconst 1, 1) := by decide +kernel
theorem dX1_has_20 : decode cX1_has 20 = .ok (.goto 4, 3) := by decide +kernel
theorem dX1_has_23 : decode cX1_has 23 = .ok (.iconst 0, 1) := by decide +kernel
theorem dX1_has_24 : decode cX1_has 24 = .ok (.ireturn, 1) := by decide +kernel
theorem dX1_get_0 : decode cX1_get 0 = .ok (.aload_n 0, 1) := by decide +kernel
theorem dX1_get_1 : decode cX1_get 1 = .ok (.getfield 7, 3) := by decide +kernel
theorem dX1_get_4 : decode cX1_get 4 = .ok (.bipush 8, 2) := by decide +kernel
theorem dX1_get_6 : decode cX1_get 6 = .ok (.iload_n 1, 1) := by decide +kernel
theorem dX1_get_7 : decode cX1_get 7 = .ok (.imul, 1) := by decide +kernel
theorem dX1_get_8 : decode cX1_get 8 = .ok (.iload_n 2, 1) := by decide +kernel
theorem dX1_get_9 : decode cX1_get 9 = .ok (.iadd, 1) := by decide +kernel
theorem dX1_get_10 : decode cX1_get 10 = .ok (.iaload, 1) := by decide +kernel
theorem dX1_get_11 : decode cX1_get 11 = .ok (.ireturn, 1) := by decide +kernel
theorem dX1_put_0 : decode cX1_put 0 = .ok (.aload_n 0, 1) := by decide +kernel
theorem dX1_put_1 : decode cX1_put 1 = .ok (.getfield 7, 3) := by decide +kernel
theorem dX1_put_4 : decode cX1_put 4 = .ok (.bipush 8, 2) := by decide +kernel
theorem dX1_put_6 : decode cX1_put 6 = .ok (.iload_n 1, 1) := by decide +kernel
theorem dX1_put_7 : decode cX1_put 7 = .ok (.imul, 1) := by decide +kernel
theorem dX1_put_8 : decode cX1_put 8 = .ok (.iload_n 2, 1) := by decide +kernel
theorem dX1_put_9 : decode cX1_put 9 = .ok (.iadd, 1) := by decide +kernel
theorem dX1_put_10 : decode cX1_put 10 = .ok (.iload_n 3, 1) := by decide +kernel
theorem dX1_put_11 : decode cX1_put 11 = .ok (.iastore, 1) := by decide +kernel
theorem dX1_put_12 : decode cX1_put 12 = .ok (.return_, 1) := by decide +kernel
theorem dX1_members_0 : decode cX1_members 0 = .ok (.aload_n 0, 1) := by decide +kernel
theorem dX1_members_1 : decode cX1_members 1 = .ok (.iconst 0, 1) := by decide +kernel
theorem dX1_members_2 : decode cX1_members 2 = .ok (.putfield 20, 3) := by decide +kernel
theorem dX1_members_5 : decode cX1_members 5 = .ok (.iload_n 1, 1) := by decide +kernel
theorem dX1_members_6 : decode cX1_members 6 = .ok (.invokestatic 24, 3) := by decide +kernel
theorem dX1_members_9 : decode cX1_members 9 = .ok (.ifCond .eq 29, 3) := by decide +kernel
theorem dX1_members_12 : decode cX1_members 12 = .ok (.iload_n 2, 1) := by decide +kernel
theorem dX1_members_13 : decode cX1_members 13 = .ok (.invokestatic 24, 3) := by decide +kernel
theorem dX1_members_16 : decode cX1_members 16 = .ok (.ifCond .eq 22, 3) := by decide +kernel
theorem dX1_members_19 : decode cX1_members 19 = .ok (.iload_n 3, 1) := by decide +kernel
theorem dX1_members_20 : decode cX1_members 20 = .ok (.invokestatic 24, 3) := by decide +kernel
theorem dX1_members_23 : decode cX1_members 23 = .ok (.ifCond .eq 15, 3) := by decide +kernel
theorem dX1_members_26 : decode cX1_members 26 = .ok (.iload_n 1, 1) := by decide +kernel
theorem dX1_members_27 : decode cX1_members 27 = .ok (.ifCond .eq 11, 3) := by decide +kernel
theorem dX1_members_30 : decode cX1_members 30 = .ok (.iload_n 3, 1) := by decide +kernel
theorem dX1_members_31 : decode cX1_members 31 = .ok (.iload_n 1, 1) := by decide +kernel
theorem dX1_members_32 : decode cX1_members 32 = .ok (.iload_n 2, 1) := by decide +kernel
theorem dX1_members_33 : decode cX1_members 33 = .ok (.ior, 1) := by decide +kernel
theorem dX1_members_34 : decode cX1_members 34 = .ok (.iand, 1) := by decide +kernel
theorem dX1_members_35 : decode cX1_members 35 = .ok (.ifCond .eq 9, 3) := by decide +kernel
theorem dX1_members_38 : decode cX1_members 38 = .ok (.aload_n 0, 1) := by decide +kernel
theorem dX1_members_39 : decode cX1_members 39 = .ok (.iconst 1, 1) := by decide +kernel
theorem dX1_members_40 : decode cX1_members 40 = .ok (.putfield 20, 3) := by decide +kernel
theorem dX1_members_43 : decode cX1_members 43 = .ok (.return_, 1) := by decide +kernel
theorem dX1_members_44 : decode cX1_members 44 = .ok (.aload_n 0, 1) := by decide +kernel
theorem dX1_members_45 : decode cX1_members 45 = .ok (.iload_n 1, 1) := by decide +kernel
theorem dX1_members_46 : decode cX1_members 46 = .ok (.putfield 17, 3) := by decide +kernel
theorem dX1_members_49 : decode cX1_members 49 = .ok (.aload_n 0, 1) := by decide +kernel
theorem dX1_members_50 : decode cX1_members 50 = .ok (.iload_n 2, 1) := by decide +kernel
theorem dX1_members_51 : decode cX1_members 51 = .ok (.putfield 28, 3) := by decide +kernel
theorem dX1_members_54 : decode cX1_members 54 = .ok (.aload_n 0, 1) := by decide +kernel
theorem dX1_members_55 : decode cX1_members 55 = .ok (.iload_n 3, 1) := by decide +kernel
theorem dX1_members_56 : decode cX1_members 56 = .ok (.putfield 31, 3) := by decide +kernel
theorem dX1_members_59 : decode cX1_members 59 = .ok (.return_, 1) := by decide +kernel
theorem dX1_change_0 : decode cX1_change 0 = .ok (.aload_n 0, 1) := by decide +kernel
theorem dX1_change_1 : decode cX1_change 1 = .ok (.iconst 0, 1) := by decide +kernel
theorem dX1_change_2 : decode cX1_change 2 = .ok (.putfield 20, 3) := by decide +kernel
theorem dX1_change_5 : decode cX1_change 5 = .ok (.iload_n 1, 1) := by decide +kernel
theorem dX1_change_6 : decode cX1_change 6 = .ok (.invokestatic 24, 3) := by decide +kernel
theorem dX1_change_9 : decode cX1_change 9 = .ok (.ifCond .eq 11, 3) := by decide +kernel
theorem dX1_change_12 : decode cX1_change 12 = .ok (.iload_n 1, 1) := by decide +kernel
theorem dX1_change_13 : decode cX1_change 13 = .ok (.ifCond .le 7, 3) := by decide +kernel
theorem dX1_change_16 : decode cX1_change 16 = .ok (.iconst 1, 1) := by decide +kernel
theorem dX1_change_17 : decode cX1_change 17 = .ok (.goto 4, 3) := by decide +kernel
theorem dX1_change_20 : decode cX1_change 20 = .ok (.iconst 0, 1) := by decide +kernel
theorem dX1_change_21 : decode cX1_change 21 = .ok (.istore_n 3, 1) := by decide +kernel
theorem dX1_change_22 : decode cX1_change 22 = .ok (.iconst 0, 1) := by decide +kernel
theorem dX1_change_23 : decode cX1_change 23 = .ok (.istore 4, 2) := by decide +kernel
theorem dX1_change_25 : decode cX1_change 25 = .ok (.iload 4, 2) := by decide +kernel
theorem dX1_change_27 : decode cX1_change 27 = .ok (.bipush 7, 2) := by decide +kernel
theorem dX1_change_29 : decode cX1_change 29 = .ok (.if_icmp .ge 63, 3) := by decide +kernel
theorem dX1_change_32 : decode cX1_change 32 = .ok (.iload_n 3, 1) := by decide +kernel
theorem dX1_change_33 : decode cX1_change 33 = .ok (.ifCond .eq 51, 3) := by decide +kernel
theorem dX1_change_36 : decode cX1_change 36 = .ok (.iload_n 1, 1) := by decide +kernel
theorem dX1_change_37 : decode cX1_change 37 = .ok (.iload 4, 2) := by decide +kernel
theorem dX1_change_39 : decode cX1_change 39 = .ok (.invokestatic 34, 3) := by decide +kernel
theorem dX1_change_42 : decode cX1_change 42 = .ok (.ifCond .eq 38, 3) := by decide +kernel
theorem dX1_change_45 : decode cX1_change 45 = .ok (.aload_n 0, 1) := by decide +kernel
theorem dX1_change_46 : decode cX1_change 46 = .ok (.getfield 17, 3) := by decide +kernel
theorem dX1_change_49 : decode cX1_change 49 = .ok (.iload 4, 2) := by decide +kernel
theorem dX1_change_51 : decode cX1_change 51 = .ok (.invokestatic 34, 3) := by decide +kernel
theorem dX1_change_54 : decode cX1_change 54 = .ok (.ifCond .ne 26, 3) := by decide +kernel
theorem dX1_change_57 : decode cX1_change 57 = .ok (.aload_n 0, 1) := by decide +kernel
theorem dX1_change_58 : decode cX1_change 58 = .ok (.getfield 31, 3) := by decide +kernel
theorem dX1_change_61 : decode cX1_change 61 = .ok (.iload 4, 2) := by decide +kernel
theorem dX1_change_63 : decode cX1_change 63 = .ok (.invokestatic 34, 3) := by decide +kernel
theorem dX1_change_66 : decode cX1_change 66 = .ok (.ifCond .eq 18, 3) := by decide +kernel
theorem dX1_change_69 : decode cX1_change 69 = .ok (.aload_n 0, 1) := by decide +kernel
theorem dX1_change_70 : decode cX1_change 70 = .ok (.iload 4, 2) := by decide +kernel
theorem dX1_change_72 : decode cX1_change 72 = .ok (.iconst 1, 1) := by decide +kernel
theorem dX1_change_73 : decode cX1_change 73 = .ok (.invokevirtual 38, 3) := by decide +kernel
theorem dX1_change_76 : decode cX1_change 76 = .ok (.iload_n 2, 1) := by decide +kernel
theorem dX1_change_77 : decode cX1_change 77 = .ok (.if_icmp .lt 7, 3) := by decide +kernel
theorem dX1_change_80 : decode cX1_change 80 = .ok (.iconst 1, 1) := by decide +kernel
theorem dX1_change_81 : decode cX1_change 81 = .ok (.goto 4, 3) := by decide +kernel
theorem dX1_change_84 : decode cX1_change 84 = .ok (.iconst 0, 1) := by decide +kernel
theorem dX1_change_85 : decode cX1_change 85 = .ok (.istore_n 3, 1) := by decide +kernel
theorem dX1_change_86 : decode cX1_change 86 = .ok (.iinc 4 1, 3) := by decide +kernel
theorem dX1_change_89 : decode cX1_change 89 = .ok (.goto (-64), 3) := by decide +kernel
theorem dX1_change_92 : decode cX1_change 92 = .ok (.iload_n 3, 1) := by decide +kernel
theorem dX1_change_93 : decode cX1_change 93 = .ok (.ifCond .eq 10, 3) := by decide +kernel
theorem dX1_change_96 : decode cX1_change 96 = .ok (.aload_n 0, 1) := by decide +kernel
theorem dX1_change_97 : decode cX1_change 97 = .ok (.getfield 28, 3) := by decide +kernel
theorem dX1_change_100 : decode cX1_change 100 = .ok (.ifCond .eq 17, 3) := by decide +kernel
theorem dX1_change_103 : decode cX1_change 103 = .ok (.aload_n 0, 1) := by decide +kernel
theorem dX1_change_104 : decode cX1_change 104 = .ok (.iload_n 3, 1) := by decide +kernel
theorem dX1_change_105 : decode cX1_change 105 = .ok (.ifCond .eq 7, 3) := by decide +kernel
theorem dX1_change_108 : decode cX1_change 108 = .ok (.iconst 2, 1) := by decide +kernel
theorem dX1_change_109 : decode cX1_change 109 = .ok (.goto 4, 3) := by decide +kernel
theorem dX1_change_112 : decode cX1_change 112 = .ok (.iconst 1, 1) := by decide +kernel
theorem dX1_change_113 : decode cX1_change 113 = .ok (.putfield 20, 3) := by decide +kernel
theorem dX1_change_116 : decode cX1_change 116 = .ok (.return_, 1) := by decide +kernel
theorem dX1_change_117 : decode cX1_change 117 = .ok (.aload_n 0, 1) := by decide +kernel
theorem dX1_change_118 : decode cX1_change 118 = .ok (.iload_n 1, 1) := by decide +kernel
theorem dX1_change_119 : decode cX1_change 119 = .ok (.putfield 28, 3) := by decide +kernel
theorem dX1_change_122 : decode cX1_change 122 = .ok (.iconst 0, 1) := by decide +kernel
theorem dX1_change_123 : decode cX1_change 123 = .ok (.istore 4, 2) := by decide +kernel
theorem dX1_change_125 : decode cX1_change 125 = .ok (.iload 4, 2) := by decide +kernel
theorem dX1_change_127 : decode cX1_change 127 = .ok (.bipush 7, 2) := by decide +kernel
theorem dX1_change_129 : decode cX1_change 129 = .ok (.if_icmp .ge 43, 3) := by decide +kernel
theorem dX1_change_132 : decode cX1_change 132 = .ok (.aload_n 0, 1) := by decide +kernel
theorem dX1_change_133 : decode cX1_change 133 = .ok (.getfield 31, 3) := by decide +kernel
theorem dX1_change_136 : decode cX1_change 136 = .ok (.iload 4, 2) := by decide +kernel
theorem dX1_change_138 : decode cX1_change 138 = .ok (.invokestatic 34, 3) := by decide +kernel
theorem dX1_change_141 : decode cX1_change 141 = .ok (.ifCond .eq 25, 3) := by decide +kernel
theorem dX1_change_144 : decode cX1_change 144 = .ok (.iload_n 1, 1) := by decide +kernel
theorem dX1_change_145 : decode cX1_change 145 = .ok (.iload 4, 2) := by decide +kernel
theorem dX1_change_147 : decode cX1_change 147 = .ok (.invokestatic 34, 3) := by decide +kernel
theorem dX1_change_150 : decode cX1_change 150 = .ok (.ifCond .eq 16, 3) := by decide +kernel
theorem dX1_change_153 : decode cX1_change 153 = .ok (.aload_n 0, 1) := by decide +kernel
theorem dX1_change_154 : decode cX1_change 154 = .ok (.dup, 1) := by decide +kernel
theorem dX1_change_155 : decode cX1_change 155 = .ok (.getfield 31, 3) := by decide +kernel
theorem dX1_change_158 : decode cX1_change 158 = .ok (.iconst 1, 1) := by decide +kernel
theorem dX1_change_159 : decode cX1_change 159 = .ok (.iload 4, 2) := by decide +kernel
theorem dX1_change_161 : decode cX1_change 161 = .ok (.ishl, 1) := by decide +kernel
theorem dX1_change_162 : decode cX1_change 162 = .ok (.isub, 1) := by decide +kernel
theorem dX1_change_163 : decode cX1_change 163 = .ok (.putfield 31, 3) := by decide +kernel
theorem dX1_change_166 : decode cX1_change 166 = .ok (.iinc 4 1, 3) := by decide +kernel
theorem dX1_change_169 : decode cX1_change 169 = .ok (.goto (-44), 3) := by decide +kernel
theorem dX1_change_172 : decode cX1_change 172 = .ok (.return_, 1) := by decide +kernel
theorem dX1_settle_0 : decode cX1_settle 0 = .ok (.aload_n 0, 1) := by decide +kernel
theorem dX1_settle_1 : decode cX1_settle 1 = .ok (.iconst 0, 1) := by decide +kernel
theorem dX1_settle_2 : decode cX1_settle 2 = .ok (.putfield 20, 3) := by decide +kernel
theorem dX1_settle_5 : decode cX1_settle 5 = .ok (.aload_n 0, 1) := by decide +kernel
theorem dX1_settle_6 : decode cX1_settle 6 = .ok (.getfield 28, 3) := by decide +kernel
theorem dX1_settle_9 : decode cX1_settle 9 = .ok (.ifCond .ne 17, 3) := by decide +kernel
theorem dX1_settle_12 : decode cX1_settle 12 = .ok (.aload_n 0, 1) := by decide +kernel
theorem dX1_settle_13 : decode cX1_settle 13 = .ok (.iconst 1, 1) := by decide +kernel
theorem dX1_settle_14 : decode cX1_settle 14 = .ok (.invokevirtual 42, 3) := by decide +kernel
theorem dX1_settle_17 : decode cX1_settle 17 = .ok (.ifCond .le 7, 3) := by decide +kernel
theorem dX1_settle_20 : decode cX1_settle 20 = .ok (.iconst 1, 1) := by decide +kernel
theorem dX1_settle_21 : decode cX1_settle 21 = .ok (.goto 4, 3) := by decide +kernel
theorem dX1_settle_24 : decode cX1_settle 24 = .ok (.iconst 0, 1) := by decide +kernel
theorem dX1_settle_25 : decode cX1_settle 25 = .ok (.ireturn, 1) := by decide +kernel
theorem dX1_settle_26 : decode cX1_settle 26 = .ok (.aload_n 0, 1) := by decide +kernel
theorem dX1_settle_27 : decode cX1_settle 27 = .ok (.aload_n 0, 1) := by decide +kernel
theorem dX1_settle_28 : decode cX1_settle 28 = .ok (.getfield 28, 3) := by decide +kernel
theorem dX1_settle_31 : decode cX1_settle 31 = .ok (.putfield 17, 3) := by decide +kernel
theorem dX1_settle_34 : decode cX1_settle 34 = .ok (.aload_n 0, 1) := by decide +kernel
theorem dX1_settle_35 : decode cX1_settle 35 = .ok (.iconst 0, 1) := by decide +kernel
theorem dX1_settle_36 : decode cX1_settle 36 = .ok (.putfield 28, 3) := by decide +kernel
theorem dX1_settle_39 : decode cX1_settle 39 = .ok (.aload_n 0, 1) := by decide +kernel
theorem dX1_settle_40 : decode cX1_settle 40 = .ok (.getfield 17, 3) := by decide +kernel
theorem dX1_settle_43 : decode cX1_settle 43 = .ok (.aload_n 0, 1) := by decide +kernel
theorem dX1_settle_44 : decode cX1_settle 44 = .ok (.getfield 13, 3) := by decide +kernel
theorem dX1_settle_47 : decode cX1_settle 47 = .ok (.invokestatic 34, 3) := by decide +kernel
theorem dX1_settle_50 : decode cX1_settle 50 = .ok (.ireturn, 1) := by decide +kernel
theorem dX1_mostOf_0 : decode cX1_mostOf 0 = .ok (.iconst 0, 1) := by decide +kernel
theorem dX1_mostOf_1 : decode cX1_mostOf 1 = .ok (.istore_n 2, 1) := by decide +kernel
theorem dX1_mostOf_2 : decode cX1_mostOf 2 = .ok (.iconst 0, 1) := by decide +kernel
theorem dX1_mostOf_3 : decode cX1_mostOf 3 = .ok (.istore_n 3, 1) := by decide +kernel
theorem dX1_mostOf_4 : decode cX1_mostOf 4 = .ok (.iconst 0, 1) := by decide +kernel
theorem dX1_mostOf_5 : decode cX1_mostOf 5 = .ok (.istore 4, 2) := by decide +kernel
theorem dX1_mostOf_7 : decode cX1_mostOf 7 = .ok (.iload 4, 2) := by decide +kernel
theorem dX1_mostOf_9 : decode cX1_mostOf 9 = .ok (.bipush 7, 2) := by decide +kernel
theorem dX1_mostOf_11 : decode cX1_mostOf 11 = .ok (.if_icmp .ge 52, 3) := by decide +kernel
theorem dX1_mostOf_14 : decode cX1_mostOf 14 = .ok (.iload_n 3, 1) := by decide +kernel
theorem dX1_mostOf_15 : decode cX1_mostOf 15 = .ok (.iload_n 1, 1) := by decide +kernel
theorem dX1_mostOf_16 : decode cX1_mostOf 16 = .ok (.iload 4, 2) := by decide +kernel
theorem dX1_mostOf_18 : decode cX1_mostOf 18 = .ok (.invokestatic 34, 3) := by decide +kernel
theorem dX1_mostOf_21 : decode cX1_mostOf 21 = .ok (.ifCond .eq 7, 3) := by decide +kernel
theorem dX1_mostOf_24 : decode cX1_mostOf 24 = .ok (.iconst 1, 1) := by decide +kernel
theorem dX1_mostOf_25 : decode cX1_mostOf 25 = .ok (.goto 4, 3) := by decide +kernel
theorem dX1_mostOf_28 : decode cX1_mostOf 28 = .ok (.iconst 0, 1) := by decide +kernel
theorem dX1_mostOf_29 : decode cX1_mostOf 29 = .ok (.iadd, 1) := by decide +kernel
theorem dX1_mostOf_30 : decode cX1_mostOf 30 = .ok (.istore_n 3, 1) := by decide +kernel
theorem dX1_mostOf_31 : decode cX1_mostOf 31 = .ok (.iload_n 2, 1) := by decide +kernel
theorem dX1_mostOf_32 : decode cX1_mostOf 32 = .ok (.iload_n 1, 1) := by decide +kernel
theorem dX1_mostOf_33 : decode cX1_mostOf 33 = .ok (.iload 4, 2) := by decide +kernel
theorem dX1_mostOf_35 : decode cX1_mostOf 35 = .ok (.invokestatic 34, 3) := by decide +kernel
theorem dX1_mostOf_38 : decode cX1_mostOf 38 = .ok (.ifCond .eq 16, 3) := by decide +kernel
theorem dX1_mostOf_41 : decode cX1_mostOf 41 = .ok (.iload_n 0, 1) := by decide +kernel
theorem dX1_mostOf_42 : decode cX1_mostOf 42 = .ok (.iload 4, 2) := by decide +kernel
theorem dX1_mostOf_44 : decode cX1_mostOf 44 = .ok (.invokestatic 34, 3) := by decide +kernel
theorem dX1_mostOf_47 : decode cX1_mostOf 47 = .ok (.ifCond .eq 7, 3) := by decide +kernel
theorem dX1_mostOf_50 : decode cX1_mostOf 50 = .ok (.iconst 1, 1) := by decide +kernel
theorem dX1_mostOf_51 : decode cX1_mostOf 51 = .ok (.goto 4, 3) := by decide +kernel
theorem dX1_mostOf_54 : decode cX1_mostOf 54 = .ok (.iconst 0, 1) := by decide +kernel
theorem dX1_mostOf_55 : decode cX1_mostOf 55 = .ok (.iadd, 1) := by decide +kernel
theorem dX1_mostOf_56 : decode cX1_mostOf 56 = .ok (.istore_n 2, 1) := by decide +kernel
theorem dX1_mostOf_57 : decode cX1_mostOf 57 = .ok (.iinc 4 1, 3) := by decide +kernel
theorem dX1_mostOf_60 : decode cX1_mostOf 60 = .ok (.goto (-53), 3) := by decide +kernel
theorem dX1_mostOf_63 : decode cX1_mostOf 63 = .ok (.iconst 2, 1) := by decide +kernel
theorem dX1_mostOf_64 : decode cX1_mostOf 64 = .ok (.iload_n 2, 1) := by decide +kernel
theorem dX1_mostOf_65 : decode cX1_mostOf 65 = .ok (.imul, 1) := by decide +kernel
theorem dX1_mostOf_66 : decode cX1_mostOf 66 = .ok (.iload_n 3, 1) := by decide +kernel
theorem dX1_mostOf_67 : decode cX1_mostOf 67 = .ok (.if_icmp .le 7, 3) := by decide +kernel
theorem dX1_mostOf_70 : decode cX1_mostOf 70 = .ok (.iconst 1, 1) := by decide +kernel
theorem dX1_mostOf_71 : decode cX1_mostOf 71 = .ok (.goto 4, 3) := by decide +kernel
theorem dX1_mostOf_74 : decode cX1_mostOf 74 = .ok (.iconst 0, 1) := by decide +kernel
theorem dX1_mostOf_75 : decode cX1_mostOf 75 = .ok (.ireturn, 1) := by decide +kernel
theorem dX1_carries_0 : decode cX1_carries 0 = .ok (.iload_n 1, 1) := by decide +kernel
theorem dX1_carries_1 : decode cX1_carries 1 = .ok (.aload_n 0, 1) := by decide +kernel
theorem dX1_carries_2 : decode cX1_carries 2 = .ok (.getfield 17, 3) := by decide +kernel
theorem dX1_carries_5 : decode cX1_carries 5 = .ok (.invokestatic 46, 3) := by decide +kernel
theorem dX1_carries_8 : decode cX1_carries 8 = .ok (.ifCond .eq 25, 3) := by decide +kernel
theorem dX1_carries_11 : decode cX1_carries 11 = .ok (.aload_n 0, 1) := by decide +kernel
theorem dX1_carries_12 : decode cX1_carries 12 = .ok (.getfield 28, 3) := by decide +kernel
theorem dX1_carries_15 : decode cX1_carries 15 = .ok (.ifCond .eq 14, 3) := by decide +kernel
theorem dX1_carries_18 : decode cX1_carries 18 = .ok (.iload_n 1, 1) := by decide +kernel
theorem dX1_carries_19 : decode cX1_carries 19 = .ok (.aload_n 0, 1) := by decide +kernel
theorem dX1_carries_20 : decode cX1_carries 20 = .ok (.getfield 28, 3) := by decide +kernel
theorem dX1_carries_23 : decode cX1_carries 23 = .ok (.invokestatic 46, 3) := by decide +kernel
theorem dX1_carries_26 : decode cX1_carries 26 = .ok (.ifCond .eq 7, 3) := by decide +kernel
theorem dX1_carries_29 : decode cX1_carries 29 = .ok (.iconst 1, 1) := by decide +kernel
theorem dX1_carries_30 : decode cX1_carries 30 = .ok (.goto 4, 3) := by decide +kernel
theorem dX1_carries_33 : decode cX1_carries 33 = .ok (.iconst 0, 1) := by decide +kernel
theorem dX1_carries_34 : decode cX1_carries 34 = .ok (.ireturn, 1) := by decide +kernel
theorem dX1_majority_0 : decode cX1_majority 0 = .ok (.aload_n 0, 1) := by decide +kernel
theorem dX1_majority_1 : decode cX1_majority 1 = .ok (.iconst 0, 1) := by decide +kernel
theorem dX1_majority_2 : decode cX1_majority 2 = .ok (.putfield 20, 3) := by decide +kernel
theorem dX1_majority_5 : decode cX1_majority 5 = .ok (.iload_n 1, 1) := by decide +kernel
theorem dX1_majority_6 : decode cX1_majority 6 = .ok (.invokestatic 24, 3) := by decide +kernel
theorem dX1_majority_9 : decode cX1_majority 9 = .ok (.ifCond .eq 11, 3) := by decide +kernel
theorem dX1_majority_12 : decode cX1_majority 12 = .ok (.aload_n 0, 1) := by decide +kernel
theorem dX1_majority_13 : decode cX1_majority 13 = .ok (.iload_n 1, 1) := by decide +kernel
theorem dX1_majority_14 : decode cX1_majority 14 = .ok (.invokevirtual 49, 3) := by decide +kernel
theorem dX1_majority_17 : decode cX1_majority 17 = .ok (.goto 16, 3) := by decide +kernel
theorem dX1_majority_20 : decode cX1_majority 20 = .ok (.aload_n 0, 1) := by decide +kernel
theorem dX1_majority_21 : decode cX1_majority 21 = .ok (.iconst 1, 1) := by decide +kernel
theorem dX1_majority_22 : decode cX1_majority 22 = .ok (.invokevirtual 42, 3) := by decide +kernel
theorem dX1_majority_25 : decode cX1_majority 25 = .ok (.ifCond .le 7, 3) := by decide +kernel
theorem dX1_majority_28 : decode cX1_majority 28 = .ok (.iconst 1, 1) := by decide +kernel
theorem dX1_majority_29 : decode cX1_majority 29 = .ok (.goto 4, 3) := by decide +kernel
theorem dX1_majority_32 : decode cX1_majority 32 = .ok (.iconst 0, 1) := by decide +kernel
theorem dX1_majority_33 : decode cX1_majority 33 = .ok (.ireturn, 1) := by decide +kernel
theorem dX1_ballot_0 : decode cX1_ballot 0 = .ok (.aload_n 0, 1) := by decide +kernel
theorem dX1_ballot_1 : decode cX1_ballot 1 = .ok (.iconst 0, 1) := by decide +kernel
theorem dX1_ballot_2 : decode cX1_ballot 2 = .ok (.putfield 20, 3) := by decide +kernel
theorem dX1_ballot_5 : decode cX1_ballot 5 = .ok (.aload_n 0, 1) := by decide +kernel
theorem dX1_ballot_6 : decode cX1_ballot 6 = .ok (.iconst 0, 1) := by decide +kernel
theorem dX1_ballot_7 : decode cX1_ballot 7 = .ok (.putfield 52, 3) := by decide +kernel
theorem dX1_ballot_10 : decode cX1_ballot 10 = .ok (.return_, 1) := by decide +kernel
theorem dX1_vote_0 : decode cX1_vote 0 = .ok (.aload_n 0, 1) := by decide +kernel
theorem dX1_vote_1 : decode cX1_vote 1 = .ok (.iconst 0, 1) := by decide +kernel
theorem dX1_vote_2 : decode cX1_vote 2 = .ok (.putfield 20, 3) := by decide +kernel
theorem dX1_vote_5 : decode cX1_vote 5 = .ok (.bipush 127, 2) := by decide +kernel
theorem dX1_vote_7 : decode cX1_vote 7 = .ok (.iload_n 1, 1) := by decide +kernel
theorem dX1_vote_8 : decode cX1_vote 8 = .ok (.invokestatic 34, 3) := by decide +kernel
theorem dX1_vote_11 : decode cX1_vote 11 = .ok (.ifCond .ne 17, 3) := by decide +kernel
theorem dX1_vote_14 : decode cX1_vote 14 = .ok (.aload_n 0, 1) := by decide +kernel
theorem dX1_vote_15 : decode cX1_vote 15 = .ok (.iconst 1, 1) := by decide +kernel
theorem dX1_vote_16 : decode cX1_vote 16 = .ok (.invokevirtual 42, 3) := by decide +kernel
theorem dX1_vote_19 : decode cX1_vote 19 = .ok (.ifCond .le 7, 3) := by decide +kernel
theorem dX1_vote_22 : decode cX1_vote 22 = .ok (.iconst 1, 1) := by decide +kernel
theorem dX1_vote_23 : decode cX1_vote 23 = .ok (.goto 4, 3) := by decide +kernel
theorem dX1_vote_26 : decode cX1_vote 26 = .ok (.iconst 0, 1) := by decide +kernel
theorem dX1_vote_27 : decode cX1_vote 27 = .ok (.ireturn, 1) := by decide +kernel
theorem dX1_vote_28 : decode cX1_vote 28 = .ok (.aload_n 0, 1) := by decide +kernel
theorem dX1_vote_29 : decode cX1_vote 29 = .ok (.getfield 52, 3) := by decide +kernel
theorem dX1_vote_32 : decode cX1_vote 32 = .ok (.iload_n 1, 1) := by decide +kernel
theorem dX1_vote_33 : decode cX1_vote 33 = .ok (.invokestatic 34, 3) := by decide +kernel
theorem dX1_vote_36 : decode cX1_vote 36 = .ok (.ifCond .ne 15, 3) := by decide +kernel
theorem dX1_vote_39 : decode cX1_vote 39 = .ok (.aload_n 0, 1) := by decide +kernel
theorem dX1_vote_40 : decode cX1_vote 40 = .ok (.dup, 1) := by decide +kernel
theorem dX1_vote_41 : decode cX1_vote 41 = .ok (.getfield 52, 3) := by decide +kernel
theorem dX1_vote_44 : decode cX1_vote 44 = .ok (.iconst 1, 1) := by decide +kernel
theorem dX1_vote_45 : decode cX1_vote 45 = .ok (.iload_n 1, 1) := by decide +kernel
theorem dX1_vote_46 : decode cX1_vote 46 = .ok (.ishl, 1) := by decide +kernel
theorem dX1_vote_47 : decode cX1_vote 47 = .ok (.iadd, 1) := by decide +kernel
theorem dX1_vote_48 : decode cX1_vote 48 = .ok (.putfield 52, 3) := by decide +kernel
theorem dX1_vote_51 : decode cX1_vote 51 = .ok (.aload_n 0, 1) := by decide +kernel
theorem dX1_vote_52 : decode cX1_vote 52 = .ok (.aload_n 0, 1) := by decide +kernel
theorem dX1_vote_53 : decode cX1_vote 53 = .ok (.getfield 52, 3) := by decide +kernel
theorem dX1_vote_56 : decode cX1_vote 56 = .ok (.invokevirtual 49, 3) := by decide +kernel
theorem dX1_vote_59 : decode cX1_vote 59 = .ok (.ireturn, 1) := by decide +kernel
theorem dX1_peers_0 : decode cX1_peers 0 = .ok (.iconst 0, 1) := by decide +kernel
theorem dX1_peers_1 : decode cX1_peers 1 = .ok (.istore_n 1, 1) := by decide +kernel
theorem dX1_peers_2 : decode cX1_peers 2 = .ok (.iconst 0, 1) := by decide +kernel
theorem dX1_peers_3 : decode cX1_peers 3 = .ok (.istore_n 2, 1) := by decide +kernel
theorem dX1_peers_4 : decode cX1_peers 4 = .ok (.iload_n 2, 1) := by decide +kernel
theorem dX1_peers_5 : decode cX1_peers 5 = .ok (.bipush 7, 2) := by decide +kernel
theorem dX1_peers_7 : decode cX1_peers 7 = .ok (.if_icmp .ge 60, 3) := by decide +kernel
theorem dX1_peers_10 : decode cX1_peers 10 = .ok (.iload_n 1, 1) := by decide +kernel
theorem dX1_peers_11 : decode cX1_peers 11 = .ok (.iload_n 2, 1) := by decide +kernel
theorem dX1_peers_12 : decode cX1_peers 12 = .ok (.aload_n 0, 1) := by decide +kernel
theorem dX1_peers_13 : decode cX1_peers 13 = .ok (.getfield 13, 3) := by decide +kernel
theorem dX1_peers_16 : decode cX1_peers 16 = .ok (.if_icmp .eq 42, 3) := by decide +kernel
theorem dX1_peers_19 : decode cX1_peers 19 = .ok (.aload_n 0, 1) := by decide +kernel
theorem dX1_peers_20 : decode cX1_peers 20 = .ok (.getfield 17, 3) := by decide +kernel
theorem dX1_peers_23 : decode cX1_peers 23 = .ok (.iload_n 2, 1) := by decide +kernel
theorem dX1_peers_24 : decode cX1_peers 24 = .ok (.invokestatic 34, 3) := by decide +kernel
theorem dX1_peers_27 : decode cX1_peers 27 = .ok (.ifCond .ne 25, 3) := by decide +kernel
theorem dX1_peers_30 : decode cX1_peers 30 = .ok (.aload_n 0, 1) := by decide +kernel
theorem dX1_peers_31 : decode cX1_peers 31 = .ok (.getfield 28, 3) := by decide +kernel
theorem dX1_peers_34 : decode cX1_peers 34 = .ok (.iload_n 2, 1) := by decide +kernel
theorem dX1_peers_35 : decode cX1_peers 35 = .ok (.invokestatic 34, 3) := by decide +kernel
theorem dX1_peers_38 : decode cX1_peers 38 = .ok (.ifCond .ne 14, 3) := by decide +kernel
theorem dX1_peers_41 : decode cX1_peers 41 = .ok (.aload_n 0, 1) := by decide +kernel
theorem dX1_peers_42 : decode cX1_peers 42 = .ok (.getfield 31, 3) := by decide +kernel
theorem dX1_peers_45 : decode cX1_peers 45 = .ok (.iload_n 2, 1) := by decide +kernel
theorem dX1_peers_46 : decode cX1_peers 46 = .ok (.invokestatic 34, 3) := by decide +kernel
theorem dX1_peers_49 : decode cX1_peers 49 = .ok (.ifCond .eq 9, 3) := by decide +kernel
theorem dX1_peers_52 : decode cX1_peers 52 = .ok (.iconst 1, 1) := by decide +kernel
theorem dX1_peers_53 : decode cX1_peers 53 = .ok (.iload_n 2, 1) := by decide +kernel
theorem dX1_peers_54 : decode cX1_peers 54 = .ok (.ishl, 1) := by decide +kernel
theorem dX1_peers_55 : decode cX1_peers 55 = .ok (.goto 4, 3) := by decide +kernel
theorem dX1_peers_58 : decode cX1_peers 58 = .ok (.iconst 0, 1) := by decide +kernel
theorem dX1_peers_59 : decode cX1_peers 59 = .ok (.iadd, 1) := by decide +kernel
theorem dX1_peers_60 : decode cX1_peers 60 = .ok (.istore_n 1, 1) := by decide +kernel
theorem dX1_peers_61 : decode cX1_peers 61 = .ok (.iinc 2 1, 3) := by decide +kernel
theorem dX1_peers_64 : decode cX1_peers 64 = .ok (.goto (-60), 3) := by decide +kernel
theorem dX1_peers_67 : decode cX1_peers 67 = .ok (.iload_n 1, 1) := by decide +kernel
theorem dX1_peers_68 : decode cX1_peers 68 = .ok (.ireturn, 1) := by decide +kernel
theorem dX1_lead_0 : decode cX1_lead 0 = .ok (.aload_n 0, 1) := by decide +kernel
theorem dX1_lead_1 : decode cX1_lead 1 = .ok (.iconst 0, 1) := by decide +kernel
theorem dX1_lead_2 : decode cX1_lead 2 = .ok (.putfield 20, 3) := by decide +kernel
theorem dX1_lead_5 : decode cX1_lead 5 = .ok (.iload_n 1, 1) := by decide +kernel
theorem dX1_lead_6 : decode cX1_lead 6 = .ok (.invokestatic 55, 3) := by decide +kernel
