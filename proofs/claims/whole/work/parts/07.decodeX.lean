theorem dX0_stored_5 : decode cX0_stored 5 = .ok (.invokestatic 90, 3) := by decide +kernel
theorem dX0_stored_8 : decode cX0_stored 8 = .ok (.iload_n 3, 1) := by decide +kernel
theorem dX0_stored_9 : decode cX0_stored 9 = .ok (.invokestatic 90, 3) := by decide +kernel
theorem dX0_stored_12 : decode cX0_stored 12 = .ok (.iload 4, 2) := by decide +kernel
theorem dX0_stored_14 : decode cX0_stored 14 = .ok (.invokestatic 90, 3) := by decide +kernel
theorem dX0_stored_17 : decode cX0_stored 17 = .ok (.iload 5, 2) := by decide +kernel
theorem dX0_stored_19 : decode cX0_stored 19 = .ok (.invokestatic 90, 3) := by decide +kernel
theorem dX0_stored_22 : decode cX0_stored 22 = .ok (.iload 6, 2) := by decide +kernel
theorem dX0_stored_24 : decode cX0_stored 24 = .ok (.invokestatic 90, 3) := by decide +kernel
theorem dX0_stored_27 : decode cX0_stored 27 = .ok (.aload_n 0, 1) := by decide +kernel
theorem dX0_stored_28 : decode cX0_stored 28 = .ok (.iload_n 1, 1) := by decide +kernel
theorem dX0_stored_29 : decode cX0_stored 29 = .ok (.iload 5, 2) := by decide +kernel
theorem dX0_stored_31 : decode cX0_stored 31 = .ok (.iload 6, 2) := by decide +kernel
theorem dX0_stored_33 : decode cX0_stored 33 = .ok (.invokevirtual 115, 3) := by decide +kernel
theorem dX0_stored_36 : decode cX0_stored 36 = .ok (.aload_n 0, 1) := by decide +kernel
theorem dX0_stored_37 : decode cX0_stored 37 = .ok (.getfield 16, 3) := by decide +kernel
theorem dX0_stored_40 : decode cX0_stored 40 = .ok (.iload_n 1, 1) := by decide +kernel
theorem dX0_stored_41 : decode cX0_stored 41 = .ok (.iconst 0, 1) := by decide +kernel
theorem dX0_stored_42 : decode cX0_stored 42 = .ok (.iastore, 1) := by decide +kernel
theorem dX0_stored_43 : decode cX0_stored 43 = .ok (.iload_n 2, 1) := by decide +kernel
theorem dX0_stored_44 : decode cX0_stored 44 = .ok (.iload_n 3, 1) := by decide +kernel
theorem dX0_stored_45 : decode cX0_stored 45 = .ok (.if_icmp .ge 12, 3) := by decide +kernel
theorem dX0_stored_48 : decode cX0_stored 48 = .ok (.aload_n 0, 1) := by decide +kernel
theorem dX0_stored_49 : decode cX0_stored 49 = .ok (.getfield 23, 3) := by decide +kernel
theorem dX0_stored_52 : decode cX0_stored 52 = .ok (.iload_n 1, 1) := by decide +kernel
theorem dX0_stored_53 : decode cX0_stored 53 = .ok (.iload_n 2, 1) := by decide +kernel
theorem dX0_stored_54 : decode cX0_stored 54 = .ok (.iastore, 1) := by decide +kernel
theorem dX0_stored_55 : decode cX0_stored 55 = .ok (.iconst 0, 1) := by decide +kernel
theorem dX0_stored_56 : decode cX0_stored 56 = .ok (.ireturn, 1) := by decide +kernel
theorem dX0_stored_57 : decode cX0_stored 57 = .ok (.aload_n 0, 1) := by decide +kernel
theorem dX0_stored_58 : decode cX0_stored 58 = .ok (.getfield 13, 3) := by decide +kernel
theorem dX0_stored_61 : decode cX0_stored 61 = .ok (.iload_n 1, 1) := by decide +kernel
theorem dX0_stored_62 : decode cX0_stored 62 = .ok (.aload_n 0, 1) := by decide +kernel
theorem dX0_stored_63 : decode cX0_stored 63 = .ok (.getfield 13, 3) := by decide +kernel
theorem dX0_stored_66 : decode cX0_stored 66 = .ok (.iload_n 1, 1) := by decide +kernel
theorem dX0_stored_67 : decode cX0_stored 67 = .ok (.iaload, 1) := by decide +kernel
theorem dX0_stored_68 : decode cX0_stored 68 = .ok (.iload 4, 2) := by decide +kernel
theorem dX0_stored_70 : decode cX0_stored 70 = .ok (.invokestatic 119, 3) := by decide +kernel
theorem dX0_stored_73 : decode cX0_stored 73 = .ok (.iastore, 1) := by decide +kernel
theorem dX0_stored_74 : decode cX0_stored 74 = .ok (.aload_n 0, 1) := by decide +kernel
theorem dX0_stored_75 : decode cX0_stored 75 = .ok (.getfield 9, 3) := by decide +kernel
theorem dX0_stored_78 : decode cX0_stored 78 = .ok (.iload_n 1, 1) := by decide +kernel
theorem dX0_stored_79 : decode cX0_stored 79 = .ok (.iload 4, 2) := by decide +kernel
theorem dX0_stored_81 : decode cX0_stored 81 = .ok (.iconst 1, 1) := by decide +kernel
theorem dX0_stored_82 : decode cX0_stored 82 = .ok (.iadd, 1) := by decide +kernel
theorem dX0_stored_83 : decode cX0_stored 83 = .ok (.iastore, 1) := by decide +kernel
theorem dX0_stored_84 : decode cX0_stored 84 = .ok (.aload_n 0, 1) := by decide +kernel
theorem dX0_stored_85 : decode cX0_stored 85 = .ok (.getfield 19, 3) := by decide +kernel
theorem dX0_stored_88 : decode cX0_stored 88 = .ok (.iload_n 1, 1) := by decide +kernel
theorem dX0_stored_89 : decode cX0_stored 89 = .ok (.iconst 1, 1) := by decide +kernel
theorem dX0_stored_90 : decode cX0_stored 90 = .ok (.bastore, 1) := by decide +kernel
theorem dX0_stored_91 : decode cX0_stored 91 = .ok (.aload_n 0, 1) := by decide +kernel
theorem dX0_stored_92 : decode cX0_stored 92 = .ok (.getfield 23, 3) := by decide +kernel
theorem dX0_stored_95 : decode cX0_stored 95 = .ok (.iload_n 1, 1) := by decide +kernel
theorem dX0_stored_96 : decode cX0_stored 96 = .ok (.iconst 0, 1) := by decide +kernel
theorem dX0_stored_97 : decode cX0_stored 97 = .ok (.iastore, 1) := by decide +kernel
theorem dX0_stored_98 : decode cX0_stored 98 = .ok (.iconst 1, 1) := by decide +kernel
theorem dX0_stored_99 : decode cX0_stored 99 = .ok (.ireturn, 1) := by decide +kernel
theorem dX0_own_0 : decode cX0_own 0 = .ok (.iload_n 1, 1) := by decide +kernel
theorem dX0_own_1 : decode cX0_own 1 = .ok (.invokestatic 90, 3) := by decide +kernel
theorem dX0_own_4 : decode cX0_own 4 = .ok (.iload_n 2, 1) := by decide +kernel
theorem dX0_own_5 : decode cX0_own 5 = .ok (.invokestatic 90, 3) := by decide +kernel
theorem dX0_own_8 : decode cX0_own 8 = .ok (.aload_n 0, 1) := by decide +kernel
theorem dX0_own_9 : decode cX0_own 9 = .ok (.getfield 13, 3) := by decide +kernel
theorem dX0_own_12 : decode cX0_own 12 = .ok (.aload_n 0, 1) := by decide +kernel
theorem dX0_own_13 : decode cX0_own 13 = .ok (.getfield 35, 3) := by decide +kernel
theorem dX0_own_16 : decode cX0_own 16 = .ok (.iload_n 1, 1) := by decide +kernel
theorem dX0_own_17 : decode cX0_own 17 = .ok (.iastore, 1) := by decide +kernel
theorem dX0_own_18 : decode cX0_own 18 = .ok (.aload_n 0, 1) := by decide +kernel
theorem dX0_own_19 : decode cX0_own 19 = .ok (.getfield 29, 3) := by decide +kernel
theorem dX0_own_22 : decode cX0_own 22 = .ok (.aload_n 0, 1) := by decide +kernel
theorem dX0_own_23 : decode cX0_own 23 = .ok (.getfield 35, 3) := by decide +kernel
theorem dX0_own_26 : decode cX0_own 26 = .ok (.iload_n 2, 1) := by decide +kernel
theorem dX0_own_27 : decode cX0_own 27 = .ok (.iastore, 1) := by decide +kernel
theorem dX0_own_28 : decode cX0_own 28 = .ok (.aload_n 0, 1) := by decide +kernel
theorem dX0_own_29 : decode cX0_own 29 = .ok (.getfield 26, 3) := by decide +kernel
theorem dX0_own_32 : decode cX0_own 32 = .ok (.aload_n 0, 1) := by decide +kernel
theorem dX0_own_33 : decode cX0_own 33 = .ok (.getfield 35, 3) := by decide +kernel
theorem dX0_own_36 : decode cX0_own 36 = .ok (.aload_n 0, 1) := by decide +kernel
theorem dX0_own_37 : decode cX0_own 37 = .ok (.getfield 93, 3) := by decide +kernel
theorem dX0_own_40 : decode cX0_own 40 = .ok (.iastore, 1) := by decide +kernel
theorem dX0_own_41 : decode cX0_own 41 = .ok (.return_, 1) := by decide +kernel
theorem dX0_agreed_0 : decode cX0_agreed 0 = .ok (.iload_n 1, 1) := by decide +kernel
theorem dX0_agreed_1 : decode cX0_agreed 1 = .ok (.tableswitch 54 0 2 #[27, 36, 45], 27) := by decide +kernel
theorem dX0_agreed_28 : decode cX0_agreed 28 = .ok (.aload_n 0, 1) := by decide +kernel
theorem dX0_agreed_29 : decode cX0_agreed 29 = .ok (.aload_n 0, 1) := by decide +kernel
theorem dX0_agreed_30 : decode cX0_agreed 30 = .ok (.getfield 13, 3) := by decide +kernel
theorem dX0_agreed_33 : decode cX0_agreed 33 = .ok (.invokevirtual 127, 3) := by decide +kernel
theorem dX0_agreed_36 : decode cX0_agreed 36 = .ok (.ireturn, 1) := by decide +kernel
theorem dX0_agreed_37 : decode cX0_agreed 37 = .ok (.aload_n 0, 1) := by decide +kernel
theorem dX0_agreed_38 : decode cX0_agreed 38 = .ok (.aload_n 0, 1) := by decide +kernel
theorem dX0_agreed_39 : decode cX0_agreed 39 = .ok (.getfield 26, 3) := by decide +kernel
theorem dX0_agreed_42 : decode cX0_agreed 42 = .ok (.invokevirtual 127, 3) := by decide +kernel
theorem dX0_agreed_45 : decode cX0_agreed 45 = .ok (.ireturn, 1) := by decide +kernel
theorem dX0_agreed_46 : decode cX0_agreed 46 = .ok (.aload_n 0, 1) := by decide +kernel
theorem dX0_agreed_47 : decode cX0_agreed 47 = .ok (.aload_n 0, 1) := by decide +kernel
theorem dX0_agreed_48 : decode cX0_agreed 48 = .ok (.getfield 29, 3) := by decide +kernel
theorem dX0_agreed_51 : decode cX0_agreed 51 = .ok (.invokevirtual 127, 3) := by decide +kernel
theorem dX0_agreed_54 : decode cX0_agreed 54 = .ok (.ireturn, 1) := by decide +kernel
theorem dX0_agreed_55 : decode cX0_agreed 55 = .ok (.new 46, 3) := by decide +kernel
theorem dX0_agreed_58 : decode cX0_agreed 58 = .ok (.dup, 1) := by decide +kernel
theorem dX0_agreed_59 : decode cX0_agreed 59 = .ok (.ldc 131, 2) := by decide +kernel
theorem dX0_agreed_61 : decode cX0_agreed 61 = .ok (.invokespecial 50, 3) := by decide +kernel
theorem dX0_agreed_64 : decode cX0_agreed 64 = .ok (.athrow, 1) := by decide +kernel
theorem dX0_server_0 : decode cX0_server 0 = .ok (.iload_n 1, 1) := by decide +kernel
theorem dX0_server_1 : decode cX0_server 1 = .ok (.invokestatic 87, 3) := by decide +kernel
theorem dX0_server_4 : decode cX0_server 4 = .ok (.iload_n 2, 1) := by decide +kernel
theorem dX0_server_5 : decode cX0_server 5 = .ok (.tableswitch 119 0 7 #[47, 54, 61, 68, 83, 90, 97, 104], 47) := by decide +kernel
theorem dX0_server_52 : decode cX0_server 52 = .ok (.aload_n 0, 1) := by decide +kernel
theorem dX0_server_53 : decode cX0_server 53 = .ok (.getfield 9, 3) := by decide +kernel
theorem dX0_server_56 : decode cX0_server 56 = .ok (.iload_n 1, 1) := by decide +kernel
theorem dX0_server_57 : decode cX0_server 57 = .ok (.iaload, 1) := by decide +kernel
theorem dX0_server_58 : decode cX0_server 58 = .ok (.ireturn, 1) := by decide +kernel
theorem dX0_server_59 : decode cX0_server 59 = .ok (.aload_n 0, 1) := by decide +kernel
theorem dX0_server_60 : decode cX0_server 60 = .ok (.getfield 13, 3) := by decide +kernel
theorem dX0_server_63 : decode cX0_server 63 = .ok (.iload_n 1, 1) := by decide +kernel
theorem dX0_server_64 : decode cX0_server 64 = .ok (.iaload, 1) := by decide +kernel
theorem dX0_server_65 : decode cX0_server 65 = .ok (.ireturn, 1) := by decide +kernel
theorem dX0_server_66 : decode cX0_server 66 = .ok (.aload_n 0, 1) := by decide +kernel
theorem dX0_server_67 : decode cX0_server 67 = .ok (.getfield 16, 3) := by decide +kernel
theorem dX0_server_70 : decode cX0_server 70 = .ok (.iload_n 1, 1) := by decide +kernel
theorem dX0_server_71 : decode cX0_server 71 = .ok (.iaload, 1) := by decide +kernel
theorem dX0_server_72 : decode cX0_server 72 = .ok (.ireturn, 1) := by decide +kernel
theorem dX0_server_73 : decode cX0_server 73 = .ok (.aload_n 0, 1) := by decide +kernel
theorem dX0_server_74 : decode cX0_server 74 = .ok (.getfield 19, 3) := by decide +kernel
theorem dX0_server_77 : decode cX0_server 77 = .ok (.iload_n 1, 1) := by decide +kernel
theorem dX0_server_78 : decode cX0_server 78 = .ok (.baload, 1) := by decide +kernel
theorem dX0_server_79 : decode cX0_server 79 = .ok (.ifCond .eq 7, 3) := by decide +kernel
theorem dX0_server_82 : decode cX0_server 82 = .ok (.iconst 1, 1) := by decide +kernel
theorem dX0_server_83 : decode cX0_server 83 = .ok (.goto 4, 3) := by decide +kernel
theorem dX0_server_86 : decode cX0_server 86 = .ok (.iconst 0, 1) := by decide +kernel
theorem dX0_server_87 : decode cX0_server 87 = .ok (.ireturn, 1) := by decide +kernel
theorem dX0_server_88 : decode cX0_server 88 = .ok (.aload_n 0, 1) := by decide +kernel
theorem dX0_server_89 : decode cX0_server 89 = .ok (.getfield 23, 3) := by decide +kernel
theorem dX0_server_92 : decode cX0_server 92 = .ok (.iload_n 1, 1) := by decide +kernel
theorem dX0_server_93 : decode cX0_server 93 = .ok (.iaload, 1) := by decide +kernel
theorem dX0_server_94 : decode cX0_server 94 = .ok (.ireturn, 1) := by decide +kernel
theorem dX0_server_95 : decode cX0_server 95 = .ok (.aload_n 0, 1) := by decide +kernel
theorem dX0_server_96 : decode cX0_server 96 = .ok (.getfield 26, 3) := by decide +kernel
theorem dX0_server_99 : decode cX0_server 99 = .ok (.iload_n 1, 1) := by decide +kernel
theorem dX0_server_100 : decode cX0_server 100 = .ok (.iaload, 1) := by decide +kernel
theorem dX0_server_101 : decode cX0_server 101 = .ok (.ireturn, 1) := by decide +kernel
theorem dX0_server_102 : decode cX0_server 102 = .ok (.aload_n 0, 1) := by decide +kernel
theorem dX0_server_103 : decode cX0_server 103 = .ok (.getfield 29, 3) := by decide +kernel
theorem dX0_server_106 : decode cX0_server 106 = .ok (.iload_n 1, 1) := by decide +kernel
theorem dX0_server_107 : decode cX0_server 107 = .ok (.iaload, 1) := by decide +kernel
theorem dX0_server_108 : decode cX0_server 108 = .ok (.ireturn, 1) := by decide +kernel
theorem dX0_server_109 : decode cX0_server 109 = .ok (.aload_n 0, 1) := by decide +kernel
theorem dX0_server_110 : decode cX0_server 110 = .ok (.getfield 32, 3) := by decide +kernel
theorem dX0_server_113 : decode cX0_server 113 = .ok (.iload_n 1, 1) := by decide +kernel
theorem dX0_server_114 : decode cX0_server 114 = .ok (.baload, 1) := by decide +kernel
theorem dX0_server_115 : decode cX0_server 115 = .ok (.ifCond .eq 7, 3) := by decide +kernel
theorem dX0_server_118 : decode cX0_server 118 = .ok (.iconst 1, 1) := by decide +kernel
theorem dX0_server_119 : decode cX0_server 119 = .ok (.goto 4, 3) := by decide +kernel
theorem dX0_server_122 : decode cX0_server 122 = .ok (.iconst 0, 1) := by decide +kernel
theorem dX0_server_123 : decode cX0_server 123 = .ok (.ireturn, 1) := by decide +kernel
theorem dX0_server_124 : decode cX0_server 124 = .ok (.new 133, 3) := by decide +kernel
theorem dX0_server_127 : decode cX0_server 127 = .ok (.dup, 1) := by decide +kernel
theorem dX0_server_128 : decode cX0_server 128 = .ok (.ldc 135, 2) := by decide +kernel
theorem dX0_server_130 : decode cX0_server 130 = .ok (.invokespecial 137, 3) := by decide +kernel
theorem dX0_server_133 : decode cX0_server 133 = .ok (.athrow, 1) := by decide +kernel
theorem dX0_council_0 : decode cX0_council 0 = .ok (.iload_n 1, 1) := by decide +kernel
theorem dX0_council_1 : decode cX0_council 1 = .ok (.tableswitch 87 0 7 #[47, 52, 57, 62, 67, 72, 77, 82], 47) := by decide +kernel
theorem dX0_council_48 : decode cX0_council 48 = .ok (.aload_n 0, 1) := by decide +kernel
theorem dX0_council_49 : decode cX0_council 49 = .ok (.getfield 39, 3) := by decide +kernel
theorem dX0_council_52 : decode cX0_council 52 = .ok (.ireturn, 1) := by decide +kernel
theorem dX0_council_53 : decode cX0_council 53 = .ok (.aload_n 0, 1) := by decide +kernel
theorem dX0_council_54 : decode cX0_council 54 = .ok (.getfield 55, 3) := by decide +kernel
theorem dX0_council_57 : decode cX0_council 57 = .ok (.ireturn, 1) := by decide +kernel
theorem dX0_council_58 : decode cX0_council 58 = .ok (.aload_n 0, 1) := by decide +kernel
theorem dX0_council_59 : decode cX0_council 59 = .ok (.getfield 58, 3) := by decide +kernel
theorem dX0_council_62 : decode cX0_council 62 = .ok (.ireturn, 1) := by decide +kernel
theorem dX0_council_63 : decode cX0_council 63 = .ok (.aload_n 0, 1) := by decide +kernel
theorem dX0_council_64 : decode cX0_council 64 = .ok (.invokevirtual 138, 3) := by decide +kernel
theorem dX0_council_67 : decode cX0_council 67 = .ok (.ireturn, 1) := by decide +kernel
theorem dX0_council_68 : decode cX0_council 68 = .ok (.aload_n 0, 1) := by decide +kernel
theorem dX0_council_69 : decode cX0_council 69 = .ok (.invokevirtual 96, 3) := by decide +kernel
theorem dX0_council_72 : decode cX0_council 72 = .ok (.ireturn, 1) := by decide +kernel
theorem dX0_council_73 : decode cX0_council 73 = .ok (.aload_n 0, 1) := by decide +kernel
theorem dX0_council_74 : decode cX0_council 74 = .ok (.getfield 84, 3) := by decide +kernel
theorem dX0_council_77 : decode cX0_council 77 = .ok (.ireturn, 1) := by decide +kernel
theorem dX0_council_78 : decode cX0_council 78 = .ok (.aload_n 0, 1) := by decide +kernel
theorem dX0_council_79 : decode cX0_council 79 = .ok (.getfield 93, 3) := by decide +kernel
theorem dX0_council_82 : decode cX0_council 82 = .ok (.ireturn, 1) := by decide +kernel
theorem dX0_council_83 : decode cX0_council 83 = .ok (.aload_n 0, 1) := by decide +kernel
theorem dX0_council_84 : decode cX0_council 84 = .ok (.getfield 35, 3) := by decide +kernel
theorem dX0_council_87 : decode cX0_council 87 = .ok (.ireturn, 1) := by decide +kernel
theorem dX0_council_88 : decode cX0_council 88 = .ok (.iconst (-1), 1) := by decide +kernel
theorem dX0_council_89 : decode cX0_council 89 = .ok (.ireturn, 1) := by decide +kernel
theorem dX0_requireSet_0 : decode cX0_requireSet 0 = .ok (.iload_n 0, 1) := by decide +kernel
theorem dX0_requireSet_1 : decode cX0_requireSet 1 = .ok (.ifCond .lt 9, 3) := by decide +kernel
theorem dX0_requireSet_4 : decode cX0_requireSet 4 = .ok (.iload_n 0, 1) := by decide +kernel
theorem dX0_requireSet_5 : decode cX0_requireSet 5 = .ok (.bipush 127, 2) := by decide +kernel
theorem dX0_requireSet_7 : decode cX0_requireSet 7 = .ok (.if_icmp .le 13, 3) := by decide +kernel
theorem dX0_requireSet_10 : decode cX0_requireSet 10 = .ok (.new 46, 3) := by decide +kernel
theorem dX0_requireSet_13 : decode cX0_requireSet 13 = .ok (.dup, 1) := by decide +kernel
theorem dX0_requireSet_14 : decode cX0_requireSet 14 = .ok (.ldc 141, 2) := by decide +kernel
theorem dX0_requireSet_16 : decode cX0_requireSet 16 = .ok (.invokespecial 50, 3) := by decide +kernel
theorem dX0_requireSet_19 : decode cX0_requireSet 19 = .ok (.athrow, 1) := by decide +kernel
theorem dX0_requireSet_20 : decode cX0_requireSet 20 = .ok (.return_, 1) := by decide +kernel
theorem dX0_requireNumber_0 : decode cX0_requireNumber 0 = .ok (.iload_n 0, 1) := by decide +kernel
theorem dX0_requireNumber_1 : decode cX0_requireNumber 1 = .ok (.ifCond .lt 9, 3) := by decide +kernel
theorem dX0_requireNumber_4 : decode cX0_requireNumber 4 = .ok (.iload_n 0, 1) := by decide +kernel
theorem dX0_requireNumber_5 : decode cX0_requireNumber 5 = .ok (.ldc 143, 2) := by decide +kernel
theorem dX0_requireNumber_7 : decode cX0_requireNumber 7 = .ok (.if_icmp .le 13, 3) := by decide +kernel
theorem dX0_requireNumber_10 : decode cX0_requireNumber 10 = .ok (.new 46, 3) := by decide +kernel
theorem dX0_requireNumber_13 : decode cX0_requireNumber 13 = .ok (.dup, 1) := by decide +kernel
theorem dX0_requireNumber_14 : decode cX0_requireNumber 14 = .ok (.ldc 144, 2) := by decide +kernel
theorem dX0_requireNumber_16 : decode cX0_requireNumber 16 = .ok (.invokespecial 50, 3) := by decide +kernel
theorem dX0_requireNumber_19 : decode cX0_requireNumber 19 = .ok (.athrow, 1) := by decide +kernel
theorem dX0_requireNumber_20 : decode cX0_requireNumber 20 = .ok (.return_, 1) := by decide +kernel
theorem dX0_requireServer_0 : decode cX0_requireServer 0 = .ok (.iload_n 0, 1) := by decide +kernel
theorem dX0_requireServer_1 : decode cX0_requireServer 1 = .ok (.ifCond .lt 9, 3) := by decide +kernel
theorem dX0_requireServer_4 : decode cX0_requireServer 4 = .ok (.iload_n 0, 1) := by decide +kernel
theorem dX0_requireServer_5 : decode cX0_requireServer 5 = .ok (.bipush 7, 2) := by decide +kernel
theorem dX0_requireServer_7 : decode cX0_requireServer 7 = .ok (.if_icmp .lt 13, 3) := by decide +kernel
theorem dX0_requireServer_10 : decode cX0_requireServer 10 = .ok (.new 133, 3) := by decide +kernel
theorem dX0_requireServer_13 : decode cX0_requireServer 13 = .ok (.dup, 1) := by decide +kernel
theorem dX0_requireServer_14 : decode cX0_requireServer 14 = .ok (.ldc 146, 2) := by decide +kernel
theorem dX0_requireServer_16 : decode cX0_requireServer 16 = .ok (.invokespecial 137, 3) := by decide +kernel
theorem dX0_requireServer_19 : decode cX0_requireServer 19 = .ok (.athrow, 1) := by decide +kernel
theorem dX0_requireServer_20 : decode cX0_requireServer 20 = .ok (.return_, 1) := by decide +kernel
theorem dX0_requirePeer_0 : decode cX0_requirePeer 0 = .ok (.iload_n 1, 1) := by decide +kernel
theorem dX0_requirePeer_1 : decode cX0_requirePeer 1 = .ok (.invokestatic 87, 3) := by decide +kernel
theorem dX0_requirePeer_4 : decode cX0_requirePeer 4 = .ok (.aload_n 0, 1) := by decide +kernel
theorem dX0_requirePeer_5 : decode cX0_requirePeer 5 = .ok (.invokevirtual 96, 3) := by decide +kernel
theorem dX0_requirePeer_8 : decode cX0_requirePeer 8 = .ok (.iload_n 1, 1) := by decide +kernel
theorem dX0_requirePeer_9 : decode cX0_requirePeer 9 = .ok (.invokestatic 76, 3) := by decide +kernel
theorem dX0_requirePeer_12 : decode cX0_requirePeer 12 = .ok (.ifCond .ne 13, 3) := by decide +kernel
theorem dX0_requirePeer_15 : decode cX0_requirePeer 15 = .ok (.new 133, 3) := by decide +kernel
theorem dX0_requirePeer_18 : decode cX0_requirePeer 18 = .ok (.dup, 1) := by decide +kernel
theorem dX0_requirePeer_19 : decode cX0_requirePeer 19 = .ok (.ldc 148, 2) := by decide +kernel
theorem dX0_requirePeer_21 : decode cX0_requirePeer 21 = .ok (.invokespecial 137, 3) := by decide +kernel
theorem dX0_requirePeer_24 : decode cX0_requirePeer 24 = .ok (.athrow, 1) := by decide +kernel
theorem dX0_requirePeer_25 : decode cX0_requirePeer 25 = .ok (.return_, 1) := by decide +kernel
theorem dX0_isIn_0 : decode cX0_isIn 0 = .ok (.iload_n 0, 1) := by decide +kernel
theorem dX0_isIn_1 : decode cX0_isIn 1 = .ok (.iconst 1, 1) := by decide +kernel
theorem dX0_isIn_2 : decode cX0_isIn 2 = .ok (.iload_n 1, 1) := by decide +kernel
theorem dX0_isIn_3 : decode cX0_isIn 3 = .ok (.ishl, 1) := by decide +kernel
theorem dX0_isIn_4 : decode cX0_isIn 4 = .ok (.iand, 1) := by decide +kernel
theorem dX0_isIn_5 : decode cX0_isIn 5 = .ok (.ifCond .eq 7, 3) := by decide +kernel
theorem dX0_isIn_8 : decode cX0_isIn 8 = .ok (.iconst 1, 1) := by decide +kernel
theorem dX0_isIn_9 : decode cX0_isIn 9 = .ok (.goto 4, 3) := by decide +kernel
theorem dX0_isIn_12 : decode cX0_isIn 12 = .ok (.iconst 0, 1) := by decide +kernel
theorem dX0_isIn_13 : decode cX0_isIn 13 = .ok (.ireturn, 1) := by decide +kernel
theorem dX0_voterSet_0 : decode cX0_voterSet 0 = .ok (.aload_n 0, 1) := by decide +kernel
theorem dX0_voterSet_1 : decode cX0_voterSet 1 = .ok (.getfield 39, 3) := by decide +kernel
theorem dX0_voterSet_4 : decode cX0_voterSet 4 = .ok (.aload_n 0, 1) := by decide +kernel
theorem dX0_voterSet_5 : decode cX0_voterSet 5 = .ok (.getfield 55, 3) := by decide +kernel
theorem dX0_voterSet_8 : decode cX0_voterSet 8 = .ok (.ior, 1) := by decide +kernel
theorem dX0_voterSet_9 : decode cX0_voterSet 9 = .ok (.ireturn, 1) := by decide +kernel
theorem dX0_peerSet_0 : decode cX0_peerSet 0 = .ok (.aload_n 0, 1) := by decide +kernel
theorem dX0_peerSet_1 : decode cX0_peerSet 1 = .ok (.invokevirtual 138, 3) := by decide +kernel
theorem dX0_peerSet_4 : decode cX0_peerSet 4 = .ok (.aload_n 0, 1) := by decide +kernel
theorem dX0_peerSet_5 : decode cX0_peerSet 5 = .ok (.getfield 58, 3) := by decide +kernel
theorem dX0_peerSet_8 : decode cX0_peerSet 8 = .ok (.ior, 1) := by decide +kernel
theorem dX0_peerSet_9 : decode cX0_peerSet 9 = .ok (.iconst 1, 1) := by decide +kernel
theorem dX0_peerSet_10 : decode cX0_peerSet 10 = .ok (.aload_n 0, 1) := by decide +kernel
theorem dX0_peerSet_11 : decode cX0_peerSet 11 = .ok (.getfield 35, 3) := by decide +kernel
theorem dX0_peerSet_14 : decode cX0_peerSet 14 = .ok (.ishl, 1) := by decide +kernel
theorem dX0_peerSet_15 : decode cX0_peerSet 15 = .ok (.iconst (-1), 1) := by decide +kernel
theorem dX0_peerSet_16 : decode cX0_peerSet 16 = .ok (.ixor, 1) := by decide +kernel
theorem dX0_peerSet_17 : decode cX0_peerSet 17 = .ok (.iand, 1) := by decide +kernel
theorem dX0_peerSet_18 : decode cX0_peerSet 18 = .ok (.ireturn, 1) := by decide +kernel
theorem dX0_learnersMatching_0 : decode cX0_learnersMatching 0 = .ok (.aload_n 0, 1) := by decide +kernel
theorem dX0_learnersMatching_1 : decode cX0_learnersMatching 1 = .ok (.getfield 58, 3) := by decide +kernel
theorem dX0_learnersMatching_4 : decode cX0_learnersMatching 4 = .ok (.aload_n 0, 1) := by decide +kernel
theorem dX0_learnersMatching_5 : decode cX0_learnersMatching 5 = .ok (.getfield 13, 3) := by decide +kernel
theorem dX0_learnersMatching_8 : decode cX0_learnersMatching 8 = .ok (.iload_n 1, 1) := by decide +kernel
theorem dX0_learnersMatching_9 : decode cX0_learnersMatching 9 = .ok (.invokestatic 150, 3) := by decide +kernel
theorem dX0_learnersMatching_12 : decode cX0_learnersMatching 12 = .ok (.iand, 1) := by decide +kernel
theorem dX0_learnersMatching_13 : decode cX0_learnersMatching 13 = .ok (.ireturn, 1) := by decide +kernel
theorem dX0_thoseWithAtLeast_0 : decode cX0_thoseWithAtLeast 0 = .ok (.iconst 0, 1) := by decide +kernel
theorem dX0_thoseWithAtLeast_1 : decode cX0_thoseWithAtLeast 1 = .ok (.istore_n 2, 1) := by decide +kernel
theorem dX0_thoseWithAtLeast_2 : decode cX0_thoseWithAtLeast 2 = .ok (.iconst 0, 1) := by decide +kernel
theorem dX0_thoseWithAtLeast_3 : decode cX0_thoseWithAtLeast 3 = .ok (.istore_n 3, 1) := by decide +kernel
theorem dX0_thoseWithAtLeast_4 : decode cX0_thoseWithAtLeast 4 = .ok (.iload_n 3, 1) := by decide +kernel
theorem dX0_thoseWithAtLeast_5 : decode cX0_thoseWithAtLeast 5 = .ok (.aload_n 0, 1) := by decide +kernel
theorem dX0_thoseWithAtLeast_6 : decode cX0_thoseWithAtLeast 6 = .ok (.arraylength, 1) := by decide +kernel
theorem dX0_thoseWithAtLeast_7 : decode cX0_thoseWithAtLeast 7 = .ok (.if_icmp .ge 22, 3) := by decide +kernel
theorem dX0_thoseWithAtLeast_10 : decode cX0_thoseWithAtLeast 10 = .ok (.aload_n 0, 1) := by decide +kernel
theorem dX0_thoseWithAtLeast_11 : decode cX0_thoseWithAtLeast 11 = .ok (.iload_n 3, 1) := by decide +kernel
theorem dX0_thoseWithAtLeast_12 : decode cX0_thoseWithAtLeast 12 = .ok (.iaload, 1) := by decide +kernel
theorem dX0_thoseWithAtLeast_13 : decode cX0_thoseWithAtLeast 13 = .ok (.iload_n 1, 1) := by decide +kernel
theorem dX0_thoseWithAtLeast_14 : decode cX0_thoseWithAtLeast 14 = .ok (.if_icmp .lt 9, 3) := by decide +kernel
theorem dX0_thoseWithAtLeast_17 : decode cX0_thoseWithAtLeast 17 = .ok (.iload_n 2, 1) := by decide +kernel
theorem dX0_thoseWithAtLeast_18 : decode cX0_thoseWithAtLeast 18 = .ok (.iconst 1, 1) := by decide +kernel
theorem dX0_thoseWithAtLeast_19 : decode cX0_thoseWithAtLeast 19 = .ok (.iload_n 3, 1) := by decide +kernel
theorem dX0_thoseWithAtLeast_20 : decode cX0_thoseWithAtLeast 20 = .ok (.ishl, 1) := by decide +kernel
theorem dX0_thoseWithAtLeast_21 : decode cX0_thoseWithAtLeast 21 = .ok (.ior, 1) := by decide +kernel
theorem dX0_thoseWithAtLeast_22 : decode cX0_thoseWithAtLeast 22 = .ok (.istore_n 2, 1) := by decide +kernel
theorem dX0_thoseWithAtLeast_23 : decode cX0_thoseWithAtLeast 23 = .ok (.iinc 3 1, 3) := by decide +kernel
theorem dX0_thoseWithAtLeast_26 : decode cX0_thoseWithAtLeast 26 = .ok (.goto (-22), 3) := by decide +kernel
theorem dX0_thoseWithAtLeast_29 : decode cX0_thoseWithAtLeast 29 = .ok (.iload_n 2, 1) := by decide +kernel
theorem dX0_thoseWithAtLeast_30 : decode cX0_thoseWithAtLeast 30 = .ok (.ireturn, 1) := by decide +kernel
theorem dX0_isMajority_0 : decode cX0_isMajority 0 = .ok (.iload_n 1, 1) := by decide +kernel
theorem dX0_isMajority_1 : decode cX0_isMajority 1 = .ok (.aload_n 0, 1) := by decide +kernel
theorem dX0_isMajority_2 : decode cX0_isMajority 2 = .ok (.getfield 39, 3) := by decide +kernel
theorem dX0_isMajority_5 : decode cX0_isMajority 5 = .ok (.invokestatic 154, 3) := by decide +kernel
theorem dX0_isMajority_8 : decode cX0_isMajority 8 = .ok (.ifCond .eq 25, 3) := by decide +kernel
theorem dX0_isMajority_11 : decode cX0_isMajority 11 = .ok (.aload_n 0, 1) := by decide +kernel
theorem dX0_isMajority_12 : decode cX0_isMajority 12 = .ok (.getfield 55, 3) := by decide +kernel
theorem dX0_isMajority_15 : decode cX0_isMajority 15 = .ok (.ifCond .eq 14, 3) := by decide +kernel
theorem dX0_isMajority_18 : decode cX0_isMajority 18 = .ok (.iload_n 1, 1) := by decide +kernel
theorem dX0_isMajority_19 : decode cX0_isMajority 19 = .ok (.aload_n 0, 1) := by decide +kernel
theorem dX0_isMajority_20 : decode cX0_isMajority 20 = .ok (.getfield 55, 3) := by decide +kernel
theorem dX0_isMajority_23 : decode cX0_isMajority 23 = .ok (.invokestatic 154, 3) := by decide +kernel
theorem dX0_isMajority_26 : decode cX0_isMajority 26 = .ok (.ifCond .eq 7, 3) := by decide +kernel
theorem dX0_isMajority_29 : decode cX0_isMajority 29 = .ok (.iconst 1, 1) := by decide +kernel
theorem dX0_isMajority_30 : decode cX0_isMajority 30 = .ok (.goto 4, 3) := by decide +kernel
theorem dX0_isMajority_33 : decode cX0_isMajority 33 = .ok (.iconst 0, 1) := by decide +kernel
theorem dX0_isMajority_34 : decode cX0_isMajority 34 = .ok (.ireturn, 1) := by decide +kernel
theorem dX0_isMoreThanHalf_0 : decode cX0_isMoreThanHalf 0 = .ok (.iconst 2, 1) := by decide +kernel
theorem dX0_isMoreThanHalf_1 : decode cX0_isMoreThanHalf 1 = .ok (.iload_n 0, 1) := by decide +kernel
theorem dX0_isMoreThanHalf_2 : decode cX0_isMoreThanHalf 2 = .ok (.iload_n 1, 1) := by decide +kernel
theorem dX0_isMoreThanHalf_3 : decode cX0_isMoreThanHalf 3 = .ok (.iand, 1) := by decide +kernel
theorem dX0_isMoreThanHalf_4 : decode cX0_isMoreThanHalf 4 = .ok (.invokestatic 157, 3) := by decide +kernel
theorem dX0_isMoreThanHalf_7 : decode cX0_isMoreThanHalf 7 = .ok (.imul, 1) := by decide +kernel
theorem dX0_isMoreThanHalf_8 : decode cX0_isMoreThanHalf 8 = .ok (.iload_n 1, 1) := by decide +kernel
theorem dX0_isMoreThanHalf_9 : decode cX0_isMoreThanHalf 9 = .ok (.invokestatic 157, 3) := by decide +kernel
theorem dX0_isMoreThanHalf_12 : decode cX0_isMoreThanHalf 12 = .ok (.if_icmp .le 7, 3) := by decide +kernel
theorem dX0_isMoreThanHalf_15 : decode cX0_isMoreThanHalf 15 = .ok (.iconst 1, 1) := by decide +kernel
theorem dX0_isMoreThanHalf_16 : decode cX0_isMoreThanHalf 16 = .ok (.goto 4, 3) := by decide +kernel
theorem dX0_isMoreThanHalf_19 : decode cX0_isMoreThanHalf 19 = .ok (.iconst 0, 1) := by decide +kernel
theorem dX0_isMoreThanHalf_20 : decode cX0_isMoreThanHalf 20 = .ok (.ireturn, 1) := by decide +kernel
theorem dX0_whatMajorityHas_0 : decode cX0_whatMajorityHas 0 = .ok (.iconst 0, 1) := by decide +kernel
theorem dX0_whatMajorityHas_1 : decode cX0_whatMajorityHas 1 = .ok (.istore_n 2, 1) := by decide +kernel
theorem dX0_whatMajorityHas_2 : decode cX0_whatMajorityHas 2 = .ok (.iconst 0, 1) := by decide +kernel
theorem dX0_whatMajorityHas_3 : decode cX0_whatMajorityHas 3 = .ok (.istore_n 3, 1) := by decide +kernel
theorem dX0_whatMajorityHas_4 : decode cX0_whatMajorityHas 4 = .ok (.iload_n 3, 1) := by decide +kernel
theorem dX0_whatMajorityHas_5 : decode cX0_whatMajorityHas 5 = .ok (.aload_n 1, 1) := by decide +kernel
theorem dX0_whatMajorityHas_6 : decode cX0_whatMajorityHas 6 = .ok (.arraylength, 1) := by decide +kernel
theorem dX0_whatMajorityHas_7 : decode cX0_whatMajorityHas 7 = .ok (.if_icmp .ge 34, 3) := by decide +kernel
theorem dX0_whatMajorityHas_10 : decode cX0_whatMajorityHas 10 = .ok (.aload_n 1, 1) := by decide +kernel
theorem dX0_whatMajorityHas_11 : decode cX0_whatMajorityHas 11 = .ok (.iload_n 3, 1) := by decide +kernel
theorem dX0_whatMajorityHas_12 : decode cX0_whatMajorityHas 12 = .ok (.iaload, 1) := by decide +kernel
theorem dX0_whatMajorityHas_13 : decode cX0_whatMajorityHas 13 = .ok (.iload_n 2, 1) := by decide +kernel
theorem dX0_whatMajorityHas_14 : decode cX0_whatMajorityHas 14 = .ok (.if_icmp .le 21, 3) := by decide +kernel
theorem dX0_whatMajorityHas_17 : decode cX0_whatMajorityHas 17 = .ok (.aload_n 0, 1) := by decide +kernel
theorem dX0_whatMajorityHas_18 : decode cX0_whatMajorityHas 18 = .ok (.aload_n 1, 1) := by decide +kernel
theorem dX0_whatMajorityHas_19 : decode cX0_whatMajorityHas 19 = .ok (.aload_n 1, 1) := by decide +kernel
theorem dX0_whatMajorityHas_20 : decode cX0_whatMajorityHas 20 = .ok (.iload_n 3, 1) := by decide +kernel
theorem dX0_whatMajorityHas_21 : decode cX0_whatMajorityHas 21 = .ok (.iaload, 1) := by decide +kernel
theorem dX0_whatMajorityHas_22 : decode cX0_whatMajorityHas 22 = .ok (.invokestatic 150, 3) := by decide +kernel
theorem dX0_whatMajorityHas_25 : decode cX0_whatMajorityHas 25 = .ok (.invokevirtual 80, 3) := by decide +kernel
theorem dX0_whatMajorityHas_28 : decode cX0_whatMajorityHas 28 = .ok (.ifCond .eq 7, 3) := by decide +kernel
theorem dX0_whatMajorityHas_31 : decode cX0_whatMajorityHas 31 = .ok (.aload_n 1, 1) := by decide +kernel
theorem dX0_whatMajorityHas_32 : decode cX0_whatMajorityHas 32 = .ok (.iload_n 3, 1) := by decide +kernel
theorem dX0_whatMajorityHas_33 : decode cX0_whatMajorityHas 33 = .ok (.iaload, 1) := by decide +kernel
theorem dX0_whatMajorityHas_34 : decode cX0_whatMajorityHas 34 = .ok (.istore_n 2, 1) := by decide +kernel
theorem dX0_whatMajorityHas_35 : decode cX0_whatMajorityHas 35 = .ok (.iinc 3 1, 3) := by decide +kernel
theorem dX0_whatMajorityHas_38 : decode cX0_whatMajorityHas 38 = .ok (.goto (-34), 3) := by decide +kernel
theorem dX0_whatMajorityHas_41 : decode cX0_whatMajorityHas 41 = .ok (.iload_n 2, 1) := by decide +kernel
theorem dX0_whatMajorityHas_42 : decode cX0_whatMajorityHas 42 = .ok (.ireturn, 1) := by decide +kernel
theorem dX0_mayFlyMore_0 : decode cX0_mayFlyMore 0 = .ok (.aload_n 0, 1) := by decide +kernel
theorem dX0_mayFlyMore_1 : decode cX0_mayFlyMore 1 = .ok (.getfield 16, 3) := by decide +kernel
theorem dX0_mayFlyMore_4 : decode cX0_mayFlyMore 4 = .ok (.iload_n 1, 1) := by decide +kernel
theorem dX0_mayFlyMore_5 : decode cX0_mayFlyMore 5 = .ok (.iaload, 1) := by decide +kernel
theorem dX0_mayFlyMore_6 : decode cX0_mayFlyMore 6 = .ok (.aload_n 0, 1) := by decide +kernel
theorem dX0_mayFlyMore_7 : decode cX0_mayFlyMore 7 = .ok (.getfield 19, 3) := by decide +kernel
theorem dX0_mayFlyMore_10 : decode cX0_mayFlyMore 10 = .ok (.iload_n 1, 1) := by decide +kernel
theorem dX0_mayFlyMore_11 : decode cX0_mayFlyMore 11 = .ok (.baload, 1) := by decide +kernel
theorem dX0_mayFlyMore_12 : decode cX0_mayFlyMore 12 = .ok (.ifCond .eq 7, 3) := by decide +kernel
theorem dX0_mayFlyMore_15 : decode cX0_mayFlyMore 15 = .ok (.iconst 1, 1) := by decide +kernel
theorem dX0_mayFlyMore_16 : decode cX0_mayFlyMore 16 = .ok (.goto 4, 3) := by decide +kernel
theorem dX0_mayFlyMore_19 : decode cX0_mayFlyMore 19 = .ok (.iconst 4, 1) := by decide +kernel
theorem dX0_mayFlyMore_20 : decode cX0_mayFlyMore 20 = .ok (.if_icmp .ge 7, 3) := by decide +kernel
theorem dX0_mayFlyMore_23 : decode cX0_mayFlyMore 23 = .ok (.iconst 1, 1) := by decide +kernel
theorem dX0_mayFlyMore_24 : decode cX0_mayFlyMore 24 = .ok (.goto 4, 3) := by decide +kernel
theorem dX0_mayFlyMore_27 : decode cX0_mayFlyMore 27 = .ok (.iconst 0, 1) := by decide +kernel
theorem dX0_mayFlyMore_28 : decode cX0_mayFlyMore 28 = .ok (.ireturn, 1) := by decide +kernel
theorem dX0_sendSnapshotPiece_0 : decode cX0_sendSnapshotPiece 0 = .ok (.aload_n 0, 1) := by decide +kernel
theorem dX0_sendSnapshotPiece_1 : decode cX0_sendSnapshotPiece 1 = .ok (.getfield 16, 3) := by decide +kernel
theorem dX0_sendSnapshotPiece_4 : decode cX0_sendSnapshotPiece 4 = .ok (.iload_n 1, 1) := by decide +kernel
theorem dX0_sendSnapshotPiece_5 : decode cX0_sendSnapshotPiece 5 = .ok (.iaload, 1) := by decide +kernel
theorem dX0_sendSnapshotPiece_6 : decode cX0_sendSnapshotPiece 6 = .ok (.ifCond .le 5, 3) := by decide +kernel
theorem dX0_sendSnapshotPiece_9 : decode cX0_sendSnapshotPiece 9 = .ok (.iconst 0, 1) := by decide +kernel
theorem dX0_sendSnapshotPiece_10 : decode cX0_sendSnapshotPiece 10 = .ok (.ireturn, 1) := by decide +kernel
theorem dX0_sendSnapshotPiece_11 : decode cX0_sendSnapshotPiece 11 = .ok (.aload_n 0, 1) := by decide +kernel
theorem dX0_sendSnapshotPiece_12 : decode cX0_sendSnapshotPiece 12 = .ok (.getfield 16, 3) := by decide +kernel
theorem dX0_sendSnapshotPiece_15 : decode cX0_sendSnapshotPiece 15 = .ok (.iload_n 1, 1) := by decide +kernel
theorem dX0_sendSnapshotPiece_16 : decode cX0_sendSnapshotPiece 16 = .ok (.iconst 1, 1) := by decide +kernel
theorem dX0_sendSnapshotPiece_17 : decode cX0_sendSnapshotPiece 17 = .ok (.iastore, 1) := by decide +kernel
theorem dX0_sendSnapshotPiece_18 : decode cX0_sendSnapshotPiece 18 = .ok (.bipush 8, 2) := by decide +kernel
theorem dX0_sendSnapshotPiece_20 : decode cX0_sendSnapshotPiece 20 = .ok (.ireturn, 1) := by decide +kernel
theorem dX0_sendEntries_0 : decode cX0_sendEntries 0 = .ok (.iload_n 2, 1) := by decide +kernel
theorem dX0_sendEntries_1 : decode cX0_sendEntries 1 = .ok (.aload_n 0, 1) := by decide +kernel
theorem dX0_sendEntries_2 : decode cX0_sendEntries 2 = .ok (.getfield 9, 3) := by decide +kernel
theorem dX0_sendEntries_5 : decode cX0_sendEntries 5 = .ok (.iload_n 1, 1) := by decide +kernel
theorem dX0_sendEntries_6 : decode cX0_sendEntries 6 = .ok (.iaload, 1) := by decide +kernel
theorem dX0_sendEntries_7 : decode cX0_sendEntries 7 = .ok (.isub, 1) := by decide +kernel
theorem dX0_sendEntries_8 : decode cX0_sendEntries 8 = .ok (.iconst 1, 1) := by decide +kernel
theorem dX0_sendEntries_9 : decode cX0_sendEntries 9 = .ok (.iadd, 1) := by decide +kernel
theorem dX0_sendEntries_10 : decode cX0_sendEntries 10 = .ok (.bipush 6, 2) := by decide +kernel
theorem dX0_sendEntries_12 : decode cX0_sendEntries 12 = .ok (.invokestatic 124, 3) := by decide +kernel
theorem dX0_sendEntries_15 : decode cX0_sendEntries 15 = .ok (.istore_n 3, 1) := by decide +kernel
theorem dX0_sendEntries_16 : decode cX0_sendEntries 16 = .ok (.aload_n 0, 1) := by decide +kernel
theorem dX0_sendEntries_17 : decode cX0_sendEntries 17 = .ok (.getfield 16, 3) := by decide +kernel
theorem dX0_sendEntries_20 : decode cX0_sendEntries 20 = .ok (.iload_n 1, 1) := by decide +kernel
theorem dX0_sendEntries_21 : decode cX0_sendEntries 21 = .ok (.aload_n 0, 1) := by decide +kernel
theorem dX0_sendEntries_22 : decode cX0_sendEntries 22 = .ok (.getfield 16, 3) := by decide +kernel
theorem dX0_sendEntries_25 : decode cX0_sendEntries 25 = .ok (.iload_n 1, 1) := by decide +kernel
theorem dX0_sendEntries_26 : decode cX0_sendEntries 26 = .ok (.iaload, 1) := by decide +kernel
theorem dX0_sendEntries_27 : decode cX0_sendEntries 27 = .ok (.iconst 1, 1) := by decide +kernel
theorem dX0_sendEntries_28 : decode cX0_sendEntries 28 = .ok (.iadd, 1) := by decide +kernel
theorem dX0_sendEntries_29 : decode cX0_sendEntries 29 = .ok (.iastore, 1) := by decide +kernel
theorem dX0_sendEntries_30 : decode cX0_sendEntries 30 = .ok (.aload_n 0, 1) := by decide +kernel
theorem dX0_sendEntries_31 : decode cX0_sendEntries 31 = .ok (.getfield 9, 3) := by decide +kernel
theorem dX0_sendEntries_34 : decode cX0_sendEntries 34 = .ok (.iload_n 1, 1) := by decide +kernel
theorem dX0_sendEntries_35 : decode cX0_sendEntries 35 = .ok (.aload_n 0, 1) := by decide +kernel
theorem dX0_sendEntries_36 : decode cX0_sendEntries 36 = .ok (.getfield 9, 3) := by decide +kernel
theorem dX0_sendEntries_39 : decode cX0_sendEntries 39 = .ok (.iload_n 1, 1) := by decide +kernel
theorem dX0_sendEntries_40 : decode cX0_sendEntries 40 = .ok (.iaload, 1) := by decide +kernel
theorem dX0_sendEntries_41 : decode cX0_sendEntries 41 = .ok (.iload_n 3, 1) := by decide +kernel
theorem dX0_sendEntries_42 : decode cX0_sendEntries 42 = .ok (.iadd, 1) := by decide +kernel
theorem dX0_sendEntries_43 : decode cX0_sendEntries 43 = .ok (.iastore, 1) := by decide +kernel
theorem dX0_sendEntries_44 : decode cX0_sendEntries 44 = .ok (.iload_n 3, 1) := by decide +kernel
theorem dX0_sendEntries_45 : decode cX0_sendEntries 45 = .ok (.ireturn, 1) := by decide +kernel
theorem dX0_hear_0 : decode cX0_hear 0 = .ok (.aload_n 0, 1) := by decide +kernel
theorem dX0_hear_1 : decode cX0_hear 1 = .ok (.getfield 29, 3) := by decide +kernel
theorem dX0_hear_4 : decode cX0_hear 4 = .ok (.iload_n 1, 1) := by decide +kernel
theorem dX0_hear_5 : decode cX0_hear 5 = .ok (.iload_n 3, 1) := by decide +kernel
theorem dX0_hear_6 : decode cX0_hear 6 = .ok (.iastore, 1) := by decide +kernel
theorem dX0_hear_7 : decode cX0_hear 7 = .ok (.aload_n 0, 1) := by decide +kernel
theorem dX0_hear_8 : decode cX0_hear 8 = .ok (.getfield 32, 3) := by decide +kernel
theorem dX0_hear_11 : decode cX0_hear 11 = .ok (.iload_n 1, 1) := by decide +kernel
theorem dX0_hear_12 : decode cX0_hear 12 = .ok (.iconst 1, 1) := by decide +kernel
theorem dX0_hear_13 : decode cX0_hear 13 = .ok (.bastore, 1) := by decide +kernel
theorem dX0_hear_14 : decode cX0_hear 14 = .ok (.aload_n 0, 1) := by decide +kernel
theorem dX0_hear_15 : decode cX0_hear 15 = .ok (.getfield 26, 3) := by decide +kernel
theorem dX0_hear_18 : decode cX0_hear 18 = .ok (.iload_n 1, 1) := by decide +kernel
theorem dX0_hear_19 : decode cX0_hear 19 = .ok (.aload_n 0, 1) := by decide +kernel
theorem dX0_hear_20 : decode cX0_hear 20 = .ok (.getfield 26, 3) := by decide +kernel
theorem dX0_hear_23 : decode cX0_hear 23 = .ok (.iload_n 1, 1) := by decide +kernel
theorem dX0_hear_24 : decode cX0_hear 24 = .ok (.iaload, 1) := by decide +kernel
theorem dX0_hear_25 : decode cX0_hear 25 = .ok (.iload_n 2, 1) := by decide +kernel
theorem dX0_hear_26 : decode cX0_hear 26 = .ok (.invokestatic 119, 3) := by decide +kernel
theorem dX0_hear_29 : decode cX0_hear 29 = .ok (.iastore, 1) := by decide +kernel
theorem dX0_hear_30 : decode cX0_hear 30 = .ok (.return_, 1) := by decide +kernel
theorem dJ6_bitCount_0 : decode cJ6_bitCount 0 = .ok (.iload_n 0, 1) := by decide +kernel
theorem dJ6_bitCount_1 : decode cJ6_bitCount 1 = .ok (.iload_n 0, 1) := by decide +kernel
theorem dJ6_bitCount_2 : decode cJ6_bitCount 2 = .ok (.iconst 1, 1) := by decide +kernel
theorem dJ6_bitCount_3 : decode cJ6_bitCount 3 = .ok (.iushr, 1) := by decide +kernel
theorem dJ6_bitCount_4 : decode cJ6_bitCount 4 = .ok (.ldc_w 265, 3) := by decide +kernel
theorem dJ6_bitCount_7 : decode cJ6_bitCount 7 = .ok (.iand, 1) := by decide +kernel
theorem dJ6_bitCount_8 : decode cJ6_bitCount 8 = .ok (.isub, 1) := by decide +kernel
theorem dJ6_bitCount_9 : decode cJ6_bitCount 9 = .ok (.istore_n 0, 1) := by decide +kernel
theorem dJ6_bitCount_10 : decode cJ6_bitCount 10 = .ok (.iload_n 0, 1) := by decide +kernel
theorem dJ6_bitCount_11 : decode cJ6_bitCount 11 = .ok (.ldc_w 266, 3) := by decide +kernel
theorem dJ6_bitCount_14 : decode cJ6_bitCount 14 = .ok (.iand, 1) := by decide +kernel
theorem dJ6_bitCount_15 : decode cJ6_bitCount 15 = .ok (.iload_n 0, 1) := by decide +kernel
theorem dJ6_bitCount_16 : decode cJ6_bitCount 16 = .ok (.iconst 2, 1) := by decide +kernel
theorem dJ6_bitCount_17 : decode cJ6_bitCount 17 = .ok (.iushr, 1) := by decide +kernel
theorem dJ6_bitCount_18 : decode cJ6_bitCount 18 = .ok (.ldc_w 266, 3) := by decide +kernel
theorem dJ6_bitCount_21 : decode cJ6_bitCount 21 = .ok (.iand, 1) := by decide +kernel
theorem dJ6_bitCount_22 : decode cJ6_bitCount 22 = .ok (.iadd, 1) := by decide +kernel
theorem dJ6_bitCount_23 : decode cJ6_bitCount 23 = .ok (.istore_n 0, 1) := by decide +kernel
theorem dJ6_bitCount_24 : decode cJ6_bitCount 24 = .ok (.iload_n 0, 1) := by decide +kernel
theorem dJ6_bitCount_25 : decode cJ6_bitCount 25 = .ok (.iload_n 0, 1) := by decide +kernel
theorem dJ6_bitCount_26 : decode cJ6_bitCount 26 = .ok (.iconst 4, 1) := by decide +kernel
theorem dJ6_bitCount_27 : decode cJ6_bitCount 27 = .ok (.iushr, 1) := by decide +kernel
theorem dJ6_bitCount_28 : decode cJ6_bitCount 28 = .ok (.iadd, 1) := by decide +kernel
theorem dJ6_bitCount_29 : decode cJ6_bitCount 29 = .ok (.ldc_w 267, 3) := by decide +kernel
theorem dJ6_bitCount_32 : decode cJ6_bitCount 32 = .ok (.iand, 1) := by decide +kernel
theorem dJ6_bitCount_33 : decode cJ6_bitCount 33 = .ok (.istore_n 0, 1) := by decide +kernel
theorem dJ6_bitCount_34 : decode cJ6_bitCount 34 = .ok (.iload_n 0, 1) := by decide +kernel
theorem dJ6_bitCount_35 : decode cJ6_bitCount 35 = .ok (.iload_n 0, 1) := by decide +kernel
theorem dJ6_bitCount_36 : decode cJ6_bitCount 36 = .ok (.bipush 8, 2) := by decide +kernel
theorem dJ6_bitCount_38 : decode cJ6_bitCount 38 = .ok (.iushr, 1) := by decide +kernel
theorem dJ6_bitCount_39 : decode cJ6_bitCount 39 = .ok (.iadd, 1) := by decide +kernel
theorem dJ6_bitCount_40 : decode cJ6_bitCount 40 = .ok (.istore_n 0, 1) := by decide +kernel
theorem dJ6_bitCount_41 : decode cJ6_bitCount 41 = .ok (.iload_n 0, 1) := by decide +kernel
theorem dJ6_bitCount_42 : decode cJ6_bitCount 42 = .ok (.iload_n 0, 1) := by decide +kernel
theorem dJ6_bitCount_43 : decode cJ6_bitCount 43 = .ok (.bipush 16, 2) := by decide +kernel
theorem dJ6_bitCount_45 : decode cJ6_bitCount 45 = .ok (.iushr, 1) := by decide +kernel
theorem dJ6_bitCount_46 : decode cJ6_bitCount 46 = .ok (.iadd, 1) := by decide +kernel
theorem dJ6_bitCount_47 : decode cJ6_bitCount 47 = .ok (.istore_n 0, 1) := by decide +kernel
theorem dJ6_bitCount_48 : decode cJ6_bitCount 48 = .ok (.iload_n 0, 1) := by decide +kernel
theorem dJ6_bitCount_49 : decode cJ6_bitCount 49 = .ok (.bipush 63, 2) := by decide +kernel
theorem dJ6_bitCount_51 : decode cJ6_bitCount 51 = .ok (.iand, 1) := by decide +kernel
theorem dJ6_bitCount_52 : decode cJ6_bitCount 52 = .ok (.ireturn, 1) := by decide +kernel
