theorem dq_25_0 : decode (qx_code 25) 0 = .ok (.aload_n 0, 1) := by decide +kernel
theorem dq_25_1 : decode (qx_code 25) 1 = .ok (.iload_n 1, 1) := by decide +kernel
theorem dq_25_2 : decode (qx_code 25) 2 = .ok (.iload_n 2, 1) := by decide +kernel
theorem dq_25_3 : decode (qx_code 25) 3 = .ok (.invokestatic 7, 3) := by decide +kernel
theorem dq_25_6 : decode (qx_code 25) 6 = .ok (.ifCond .eq 7, 3) := by decide +kernel
theorem dq_25_9 : decode (qx_code 25) 9 = .ok (.iconst 1, 1) := by decide +kernel
theorem dq_25_10 : decode (qx_code 25) 10 = .ok (.goto 4, 3) := by decide +kernel
theorem dq_25_13 : decode (qx_code 25) 13 = .ok (.iconst 0, 1) := by decide +kernel
theorem dq_25_14 : decode (qx_code 25) 14 = .ok (.istore_n 3, 1) := by decide +kernel
theorem dq_25_15 : decode (qx_code 25) 15 = .ok (.aload_n 0, 1) := by decide +kernel
theorem dq_25_16 : decode (qx_code 25) 16 = .ok (.iload_n 1, 1) := by decide +kernel
theorem dq_25_17 : decode (qx_code 25) 17 = .ok (.iload_n 2, 1) := by decide +kernel
theorem dq_25_18 : decode (qx_code 25) 18 = .ok (.invokestatic 13, 3) := by decide +kernel
theorem dq_25_21 : decode (qx_code 25) 21 = .ok (.iload_n 2, 1) := by decide +kernel
theorem dq_25_22 : decode (qx_code 25) 22 = .ok (.if_icmp .ne 22, 3) := by decide +kernel
theorem dq_25_25 : decode (qx_code 25) 25 = .ok (.iload_n 3, 1) := by decide +kernel
theorem dq_25_26 : decode (qx_code 25) 26 = .ok (.aload_n 0, 1) := by decide +kernel
theorem dq_25_27 : decode (qx_code 25) 27 = .ok (.iload_n 1, 1) := by decide +kernel
theorem dq_25_28 : decode (qx_code 25) 28 = .ok (.invokevirtual 17, 3) := by decide +kernel
theorem dq_25_31 : decode (qx_code 25) 31 = .ok (.bipush 91, 2) := by decide +kernel
theorem dq_25_33 : decode (qx_code 25) 33 = .ok (.if_icmp .ne 8, 3) := by decide +kernel
theorem dq_25_36 : decode (qx_code 25) 36 = .ok (.bipush 6, 2) := by decide +kernel
theorem dq_25_38 : decode (qx_code 25) 38 = .ok (.goto 4, 3) := by decide +kernel
theorem dq_25_41 : decode (qx_code 25) 41 = .ok (.iconst 4, 1) := by decide +kernel
theorem dq_25_42 : decode (qx_code 25) 42 = .ok (.ior, 1) := by decide +kernel
theorem dq_25_43 : decode (qx_code 25) 43 = .ok (.istore_n 3, 1) := by decide +kernel
theorem dq_25_44 : decode (qx_code 25) 44 = .ok (.aload_n 0, 1) := by decide +kernel
theorem dq_25_45 : decode (qx_code 25) 45 = .ok (.iload_n 1, 1) := by decide +kernel
theorem dq_25_46 : decode (qx_code 25) 46 = .ok (.iload_n 2, 1) := by decide +kernel
theorem dq_25_47 : decode (qx_code 25) 47 = .ok (.invokestatic 23, 3) := by decide +kernel
theorem dq_25_50 : decode (qx_code 25) 50 = .ok (.ifCond .eq 8, 3) := by decide +kernel
theorem dq_25_53 : decode (qx_code 25) 53 = .ok (.iload_n 3, 1) := by decide +kernel
theorem dq_25_54 : decode (qx_code 25) 54 = .ok (.bipush 8, 2) := by decide +kernel
theorem dq_25_56 : decode (qx_code 25) 56 = .ok (.ior, 1) := by decide +kernel
theorem dq_25_57 : decode (qx_code 25) 57 = .ok (.istore_n 3, 1) := by decide +kernel
theorem dq_25_58 : decode (qx_code 25) 58 = .ok (.aload_n 0, 1) := by decide +kernel
theorem dq_25_59 : decode (qx_code 25) 59 = .ok (.iload_n 1, 1) := by decide +kernel
theorem dq_25_60 : decode (qx_code 25) 60 = .ok (.iload_n 2, 1) := by decide +kernel
theorem dq_25_61 : decode (qx_code 25) 61 = .ok (.invokestatic 26, 3) := by decide +kernel
theorem dq_25_64 : decode (qx_code 25) 64 = .ok (.ifCond .eq 8, 3) := by decide +kernel
theorem dq_25_67 : decode (qx_code 25) 67 = .ok (.iload_n 3, 1) := by decide +kernel
theorem dq_25_68 : decode (qx_code 25) 68 = .ok (.bipush 16, 2) := by decide +kernel
theorem dq_25_70 : decode (qx_code 25) 70 = .ok (.ior, 1) := by decide +kernel
theorem dq_25_71 : decode (qx_code 25) 71 = .ok (.istore_n 3, 1) := by decide +kernel
theorem dq_25_72 : decode (qx_code 25) 72 = .ok (.iload_n 3, 1) := by decide +kernel
theorem dq_25_73 : decode (qx_code 25) 73 = .ok (.ireturn, 1) := by decide +kernel
theorem mt_25_7 : qx_mth 25 7 = some (26, 3) := by decide +kernel
theorem mt_25_13 : qx_mth 25 13 = some (50, 3) := by decide +kernel
theorem mt_25_17 : qx_mth 25 17 = some (27, 1) := by decide +kernel
theorem mt_25_23 : qx_mth 25 23 = some (51, 3) := by decide +kernel
theorem mt_25_26 : qx_mth 25 26 = some (52, 3) := by decide +kernel
theorem dq_26_0 : decode (qx_code 26) 0 = .ok (.iload_n 1, 1) := by decide +kernel
theorem dq_26_1 : decode (qx_code 26) 1 = .ok (.istore_n 3, 1) := by decide +kernel
theorem dq_26_2 : decode (qx_code 26) 2 = .ok (.iload_n 1, 1) := by decide +kernel
theorem dq_26_3 : decode (qx_code 26) 3 = .ok (.istore 4, 2) := by decide +kernel
theorem dq_26_5 : decode (qx_code 26) 5 = .ok (.iload 4, 2) := by decide +kernel
theorem dq_26_7 : decode (qx_code 26) 7 = .ok (.iload_n 2, 1) := by decide +kernel
theorem dq_26_8 : decode (qx_code 26) 8 = .ok (.if_icmp .ge 55, 3) := by decide +kernel
theorem dq_26_11 : decode (qx_code 26) 11 = .ok (.aload_n 0, 1) := by decide +kernel
theorem dq_26_12 : decode (qx_code 26) 12 = .ok (.iload 4, 2) := by decide +kernel
theorem dq_26_14 : decode (qx_code 26) 14 = .ok (.invokevirtual 17, 3) := by decide +kernel
theorem dq_26_17 : decode (qx_code 26) 17 = .ok (.istore 5, 2) := by decide +kernel
theorem dq_26_19 : decode (qx_code 26) 19 = .ok (.ldc 29, 2) := by decide +kernel
theorem dq_26_21 : decode (qx_code 26) 21 = .ok (.iload 5, 2) := by decide +kernel
theorem dq_26_23 : decode (qx_code 26) 23 = .ok (.i2c, 1) := by decide +kernel
theorem dq_26_24 : decode (qx_code 26) 24 = .ok (.invokevirtual 31, 3) := by decide +kernel
theorem dq_26_27 : decode (qx_code 26) 27 = .ok (.ifCond .ge 16, 3) := by decide +kernel
theorem dq_26_30 : decode (qx_code 26) 30 = .ok (.iload 5, 2) := by decide +kernel
theorem dq_26_32 : decode (qx_code 26) 32 = .ok (.bipush 47, 2) := by decide +kernel
theorem dq_26_34 : decode (qx_code 26) 34 = .ok (.if_icmp .ne 11, 3) := by decide +kernel
theorem dq_26_37 : decode (qx_code 26) 37 = .ok (.iload 4, 2) := by decide +kernel
theorem dq_26_39 : decode (qx_code 26) 39 = .ok (.iload_n 3, 1) := by decide +kernel
theorem dq_26_40 : decode (qx_code 26) 40 = .ok (.if_icmp .ne 5, 3) := by decide +kernel
theorem dq_26_43 : decode (qx_code 26) 43 = .ok (.iconst 0, 1) := by decide +kernel
theorem dq_26_44 : decode (qx_code 26) 44 = .ok (.ireturn, 1) := by decide +kernel
theorem dq_26_45 : decode (qx_code 26) 45 = .ok (.iload 5, 2) := by decide +kernel
theorem dq_26_47 : decode (qx_code 26) 47 = .ok (.bipush 47, 2) := by decide +kernel
theorem dq_26_49 : decode (qx_code 26) 49 = .ok (.if_icmp .ne 8, 3) := by decide +kernel
theorem dq_26_52 : decode (qx_code 26) 52 = .ok (.iload 4, 2) := by decide +kernel
theorem dq_26_54 : decode (qx_code 26) 54 = .ok (.iconst 1, 1) := by decide +kernel
theorem dq_26_55 : decode (qx_code 26) 55 = .ok (.iadd, 1) := by decide +kernel
theorem dq_26_56 : decode (qx_code 26) 56 = .ok (.istore_n 3, 1) := by decide +kernel
theorem dq_26_57 : decode (qx_code 26) 57 = .ok (.iinc 4 1, 3) := by decide +kernel
theorem dq_26_60 : decode (qx_code 26) 60 = .ok (.goto (-55), 3) := by decide +kernel
theorem dq_26_63 : decode (qx_code 26) 63 = .ok (.iload_n 3, 1) := by decide +kernel
theorem dq_26_64 : decode (qx_code 26) 64 = .ok (.iload_n 2, 1) := by decide +kernel
theorem dq_26_65 : decode (qx_code 26) 65 = .ok (.if_icmp .ge 7, 3) := by decide +kernel
theorem dq_26_68 : decode (qx_code 26) 68 = .ok (.iconst 1, 1) := by decide +kernel
theorem dq_26_69 : decode (qx_code 26) 69 = .ok (.goto 4, 3) := by decide +kernel
theorem dq_26_72 : decode (qx_code 26) 72 = .ok (.iconst 0, 1) := by decide +kernel
theorem dq_26_73 : decode (qx_code 26) 73 = .ok (.ireturn, 1) := by decide +kernel
theorem mt_26_17 : qx_mth 26 17 = some (27, 1) := by decide +kernel
theorem mt_26_31 : qx_mth 26 31 = some (28, 1) := by decide +kernel
theorem dq_52_0 : decode (qx_code 52) 0 = .ok (.iload_n 1, 1) := by decide +kernel
theorem dq_52_1 : decode (qx_code 52) 1 = .ok (.istore_n 3, 1) := by decide +kernel
theorem dq_52_2 : decode (qx_code 52) 2 = .ok (.iload_n 3, 1) := by decide +kernel
theorem dq_52_3 : decode (qx_code 52) 3 = .ok (.iload_n 2, 1) := by decide +kernel
theorem dq_52_4 : decode (qx_code 52) 4 = .ok (.if_icmp .ge 25, 3) := by decide +kernel
theorem dq_52_7 : decode (qx_code 52) 7 = .ok (.ldc 36, 2) := by decide +kernel
theorem dq_52_9 : decode (qx_code 52) 9 = .ok (.aload_n 0, 1) := by decide +kernel
theorem dq_52_10 : decode (qx_code 52) 10 = .ok (.iload_n 3, 1) := by decide +kernel
theorem dq_52_11 : decode (qx_code 52) 11 = .ok (.invokevirtual 17, 3) := by decide +kernel
theorem dq_52_14 : decode (qx_code 52) 14 = .ok (.i2c, 1) := by decide +kernel
theorem dq_52_15 : decode (qx_code 52) 15 = .ok (.invokevirtual 31, 3) := by decide +kernel
theorem dq_52_18 : decode (qx_code 52) 18 = .ok (.ifCond .lt 5, 3) := by decide +kernel
theorem dq_52_21 : decode (qx_code 52) 21 = .ok (.iconst 0, 1) := by decide +kernel
theorem dq_52_22 : decode (qx_code 52) 22 = .ok (.ireturn, 1) := by decide +kernel
theorem dq_52_23 : decode (qx_code 52) 23 = .ok (.iinc 3 1, 3) := by decide +kernel
theorem dq_52_26 : decode (qx_code 52) 26 = .ok (.goto (-24), 3) := by decide +kernel
theorem dq_52_29 : decode (qx_code 52) 29 = .ok (.iload_n 1, 1) := by decide +kernel
theorem dq_52_30 : decode (qx_code 52) 30 = .ok (.iload_n 2, 1) := by decide +kernel
theorem dq_52_31 : decode (qx_code 52) 31 = .ok (.if_icmp .ge 7, 3) := by decide +kernel
theorem dq_52_34 : decode (qx_code 52) 34 = .ok (.iconst 1, 1) := by decide +kernel
theorem dq_52_35 : decode (qx_code 52) 35 = .ok (.goto 4, 3) := by decide +kernel
theorem dq_52_38 : decode (qx_code 52) 38 = .ok (.iconst 0, 1) := by decide +kernel
theorem dq_52_39 : decode (qx_code 52) 39 = .ok (.ireturn, 1) := by decide +kernel
theorem mt_52_17 : qx_mth 52 17 = some (27, 1) := by decide +kernel
theorem mt_52_31 : qx_mth 52 31 = some (28, 1) := by decide +kernel
theorem dq_51_0 : decode (qx_code 51) 0 = .ok (.iload_n 1, 1) := by decide +kernel
theorem dq_51_1 : decode (qx_code 51) 1 = .ok (.iload_n 2, 1) := by decide +kernel
theorem dq_51_2 : decode (qx_code 51) 2 = .ok (.if_icmp .ge 13, 3) := by decide +kernel
theorem dq_51_5 : decode (qx_code 51) 5 = .ok (.aload_n 0, 1) := by decide +kernel
theorem dq_51_6 : decode (qx_code 51) 6 = .ok (.iload_n 1, 1) := by decide +kernel
theorem dq_51_7 : decode (qx_code 51) 7 = .ok (.invokevirtual 17, 3) := by decide +kernel
theorem dq_51_10 : decode (qx_code 51) 10 = .ok (.bipush 40, 2) := by decide +kernel
theorem dq_51_12 : decode (qx_code 51) 12 = .ok (.if_icmp .eq 5, 3) := by decide +kernel
theorem dq_51_15 : decode (qx_code 51) 15 = .ok (.iconst 0, 1) := by decide +kernel
theorem dq_51_16 : decode (qx_code 51) 16 = .ok (.ireturn, 1) := by decide +kernel
theorem dq_51_17 : decode (qx_code 51) 17 = .ok (.iload_n 1, 1) := by decide +kernel
theorem dq_51_18 : decode (qx_code 51) 18 = .ok (.iconst 1, 1) := by decide +kernel
theorem dq_51_19 : decode (qx_code 51) 19 = .ok (.iadd, 1) := by decide +kernel
theorem dq_51_20 : decode (qx_code 51) 20 = .ok (.istore_n 3, 1) := by decide +kernel
theorem dq_51_21 : decode (qx_code 51) 21 = .ok (.iload_n 1, 1) := by decide +kernel
theorem dq_51_22 : decode (qx_code 51) 22 = .ok (.istore 4, 2) := by decide +kernel
theorem dq_51_24 : decode (qx_code 51) 24 = .ok (.iload 4, 2) := by decide +kernel
theorem dq_51_26 : decode (qx_code 51) 26 = .ok (.iload_n 2, 1) := by decide +kernel
theorem dq_51_27 : decode (qx_code 51) 27 = .ok (.if_icmp .ge 36, 3) := by decide +kernel
theorem dq_51_30 : decode (qx_code 51) 30 = .ok (.iload_n 3, 1) := by decide +kernel
theorem dq_51_31 : decode (qx_code 51) 31 = .ok (.iconst (-1), 1) := by decide +kernel
theorem dq_51_32 : decode (qx_code 51) 32 = .ok (.if_icmp .eq 31, 3) := by decide +kernel
theorem dq_51_35 : decode (qx_code 51) 35 = .ok (.iload_n 3, 1) := by decide +kernel
theorem dq_51_36 : decode (qx_code 51) 36 = .ok (.iload_n 2, 1) := by decide +kernel
theorem dq_51_37 : decode (qx_code 51) 37 = .ok (.if_icmp .ge 26, 3) := by decide +kernel
theorem dq_51_40 : decode (qx_code 51) 40 = .ok (.aload_n 0, 1) := by decide +kernel
theorem dq_51_41 : decode (qx_code 51) 41 = .ok (.iload_n 3, 1) := by decide +kernel
theorem dq_51_42 : decode (qx_code 51) 42 = .ok (.invokevirtual 17, 3) := by decide +kernel
theorem dq_51_45 : decode (qx_code 51) 45 = .ok (.bipush 41, 2) := by decide +kernel
theorem dq_51_47 : decode (qx_code 51) 47 = .ok (.if_icmp .eq 16, 3) := by decide +kernel
theorem dq_51_50 : decode (qx_code 51) 50 = .ok (.aload_n 0, 1) := by decide +kernel
theorem dq_51_51 : decode (qx_code 51) 51 = .ok (.iload_n 3, 1) := by decide +kernel
theorem dq_51_52 : decode (qx_code 51) 52 = .ok (.iload_n 2, 1) := by decide +kernel
theorem dq_51_53 : decode (qx_code 51) 53 = .ok (.invokestatic 13, 3) := by decide +kernel
theorem dq_51_56 : decode (qx_code 51) 56 = .ok (.istore_n 3, 1) := by decide +kernel
theorem dq_51_57 : decode (qx_code 51) 57 = .ok (.iinc 4 1, 3) := by decide +kernel
theorem dq_51_60 : decode (qx_code 51) 60 = .ok (.goto (-36), 3) := by decide +kernel
theorem dq_51_63 : decode (qx_code 51) 63 = .ok (.iload_n 3, 1) := by decide +kernel
theorem dq_51_64 : decode (qx_code 51) 64 = .ok (.iconst (-1), 1) := by decide +kernel
theorem dq_51_65 : decode (qx_code 51) 65 = .ok (.if_icmp .eq 18, 3) := by decide +kernel
theorem dq_51_68 : decode (qx_code 51) 68 = .ok (.iload_n 3, 1) := by decide +kernel
theorem dq_51_69 : decode (qx_code 51) 69 = .ok (.iload_n 2, 1) := by decide +kernel
theorem dq_51_70 : decode (qx_code 51) 70 = .ok (.if_icmp .ge 13, 3) := by decide +kernel
theorem dq_51_73 : decode (qx_code 51) 73 = .ok (.aload_n 0, 1) := by decide +kernel
theorem dq_51_74 : decode (qx_code 51) 74 = .ok (.iload_n 3, 1) := by decide +kernel
theorem dq_51_75 : decode (qx_code 51) 75 = .ok (.invokevirtual 17, 3) := by decide +kernel
theorem dq_51_78 : decode (qx_code 51) 78 = .ok (.bipush 41, 2) := by decide +kernel
theorem dq_51_80 : decode (qx_code 51) 80 = .ok (.if_icmp .eq 5, 3) := by decide +kernel
theorem dq_51_83 : decode (qx_code 51) 83 = .ok (.iconst 0, 1) := by decide +kernel
theorem dq_51_84 : decode (qx_code 51) 84 = .ok (.ireturn, 1) := by decide +kernel
theorem dq_51_85 : decode (qx_code 51) 85 = .ok (.iload_n 3, 1) := by decide +kernel
theorem dq_51_86 : decode (qx_code 51) 86 = .ok (.iconst 2, 1) := by decide +kernel
theorem dq_51_87 : decode (qx_code 51) 87 = .ok (.iadd, 1) := by decide +kernel
theorem dq_51_88 : decode (qx_code 51) 88 = .ok (.iload_n 2, 1) := by decide +kernel
theorem dq_51_89 : decode (qx_code 51) 89 = .ok (.if_icmp .ne 19, 3) := by decide +kernel
theorem dq_51_92 : decode (qx_code 51) 92 = .ok (.aload_n 0, 1) := by decide +kernel
theorem dq_51_93 : decode (qx_code 51) 93 = .ok (.iload_n 3, 1) := by decide +kernel
theorem dq_51_94 : decode (qx_code 51) 94 = .ok (.iconst 1, 1) := by decide +kernel
theorem dq_51_95 : decode (qx_code 51) 95 = .ok (.iadd, 1) := by decide +kernel
theorem dq_51_96 : decode (qx_code 51) 96 = .ok (.invokevirtual 17, 3) := by decide +kernel
theorem dq_51_99 : decode (qx_code 51) 99 = .ok (.bipush 86, 2) := by decide +kernel
theorem dq_51_101 : decode (qx_code 51) 101 = .ok (.if_icmp .ne 7, 3) := by decide +kernel
theorem dq_51_104 : decode (qx_code 51) 104 = .ok (.iconst 1, 1) := by decide +kernel
theorem dq_51_105 : decode (qx_code 51) 105 = .ok (.goto 4, 3) := by decide +kernel
theorem dq_51_108 : decode (qx_code 51) 108 = .ok (.iconst 0, 1) := by decide +kernel
theorem dq_51_109 : decode (qx_code 51) 109 = .ok (.istore 4, 2) := by decide +kernel
theorem dq_51_111 : decode (qx_code 51) 111 = .ok (.iload 4, 2) := by decide +kernel
theorem dq_51_113 : decode (qx_code 51) 113 = .ok (.ifCond .ne 15, 3) := by decide +kernel
theorem dq_51_116 : decode (qx_code 51) 116 = .ok (.aload_n 0, 1) := by decide +kernel
theorem dq_51_117 : decode (qx_code 51) 117 = .ok (.iload_n 3, 1) := by decide +kernel
theorem dq_51_118 : decode (qx_code 51) 118 = .ok (.iconst 1, 1) := by decide +kernel
theorem dq_51_119 : decode (qx_code 51) 119 = .ok (.iadd, 1) := by decide +kernel
theorem dq_51_120 : decode (qx_code 51) 120 = .ok (.iload_n 2, 1) := by decide +kernel
theorem dq_51_121 : decode (qx_code 51) 121 = .ok (.invokestatic 13, 3) := by decide +kernel
theorem dq_51_124 : decode (qx_code 51) 124 = .ok (.iload_n 2, 1) := by decide +kernel
theorem dq_51_125 : decode (qx_code 51) 125 = .ok (.if_icmp .ne 7, 3) := by decide +kernel
theorem dq_51_128 : decode (qx_code 51) 128 = .ok (.iconst 1, 1) := by decide +kernel
theorem dq_51_129 : decode (qx_code 51) 129 = .ok (.goto 4, 3) := by decide +kernel
theorem dq_51_132 : decode (qx_code 51) 132 = .ok (.iconst 0, 1) := by decide +kernel
theorem dq_51_133 : decode (qx_code 51) 133 = .ok (.ireturn, 1) := by decide +kernel
theorem mt_51_17 : qx_mth 51 17 = some (27, 1) := by decide +kernel
theorem mt_51_13 : qx_mth 51 13 = some (50, 3) := by decide +kernel
theorem dq_50_0 : decode (qx_code 50) 0 = .ok (.iload_n 1, 1) := by decide +kernel
theorem dq_50_1 : decode (qx_code 50) 1 = .ok (.istore_n 3, 1) := by decide +kernel
theorem dq_50_2 : decode (qx_code 50) 2 = .ok (.iload_n 3, 1) := by decide +kernel
theorem dq_50_3 : decode (qx_code 50) 3 = .ok (.iload_n 2, 1) := by decide +kernel
theorem dq_50_4 : decode (qx_code 50) 4 = .ok (.if_icmp .ge 19, 3) := by decide +kernel
theorem dq_50_7 : decode (qx_code 50) 7 = .ok (.aload_n 0, 1) := by decide +kernel
theorem dq_50_8 : decode (qx_code 50) 8 = .ok (.iload_n 3, 1) := by decide +kernel
theorem dq_50_9 : decode (qx_code 50) 9 = .ok (.invokevirtual 17, 3) := by decide +kernel
theorem dq_50_12 : decode (qx_code 50) 12 = .ok (.bipush 91, 2) := by decide +kernel
theorem dq_50_14 : decode (qx_code 50) 14 = .ok (.if_icmp .ne 9, 3) := by decide +kernel
theorem dq_50_17 : decode (qx_code 50) 17 = .ok (.iinc 3 1, 3) := by decide +kernel
theorem dq_50_20 : decode (qx_code 50) 20 = .ok (.goto (-18), 3) := by decide +kernel
theorem dq_50_23 : decode (qx_code 50) 23 = .ok (.iload_n 3, 1) := by decide +kernel
theorem dq_50_24 : decode (qx_code 50) 24 = .ok (.iload_n 2, 1) := by decide +kernel
theorem dq_50_25 : decode (qx_code 50) 25 = .ok (.if_icmp .ge 12, 3) := by decide +kernel
theorem dq_50_28 : decode (qx_code 50) 28 = .ok (.iload_n 3, 1) := by decide +kernel
theorem dq_50_29 : decode (qx_code 50) 29 = .ok (.iload_n 1, 1) := by decide +kernel
theorem dq_50_30 : decode (qx_code 50) 30 = .ok (.isub, 1) := by decide +kernel
theorem dq_50_31 : decode (qx_code 50) 31 = .ok (.sipush 255, 3) := by decide +kernel
theorem dq_50_34 : decode (qx_code 50) 34 = .ok (.if_icmp .le 5, 3) := by decide +kernel
theorem dq_50_37 : decode (qx_code 50) 37 = .ok (.iconst (-1), 1) := by decide +kernel
theorem dq_50_38 : decode (qx_code 50) 38 = .ok (.ireturn, 1) := by decide +kernel
theorem dq_50_39 : decode (qx_code 50) 39 = .ok (.aload_n 0, 1) := by decide +kernel
theorem dq_50_40 : decode (qx_code 50) 40 = .ok (.iload_n 3, 1) := by decide +kernel
theorem dq_50_41 : decode (qx_code 50) 41 = .ok (.invokevirtual 17, 3) := by decide +kernel
theorem dq_50_44 : decode (qx_code 50) 44 = .ok (.bipush 76, 2) := by decide +kernel
theorem dq_50_46 : decode (qx_code 50) 46 = .ok (.if_icmp .eq 25, 3) := by decide +kernel
theorem dq_50_49 : decode (qx_code 50) 49 = .ok (.ldc 38, 2) := by decide +kernel
theorem dq_50_51 : decode (qx_code 50) 51 = .ok (.aload_n 0, 1) := by decide +kernel
theorem dq_50_52 : decode (qx_code 50) 52 = .ok (.iload_n 3, 1) := by decide +kernel
theorem dq_50_53 : decode (qx_code 50) 53 = .ok (.invokevirtual 17, 3) := by decide +kernel
theorem dq_50_56 : decode (qx_code 50) 56 = .ok (.i2c, 1) := by decide +kernel
theorem dq_50_57 : decode (qx_code 50) 57 = .ok (.invokevirtual 31, 3) := by decide +kernel
theorem dq_50_60 : decode (qx_code 50) 60 = .ok (.ifCond .lt 9, 3) := by decide +kernel
theorem dq_50_63 : decode (qx_code 50) 63 = .ok (.iload_n 3, 1) := by decide +kernel
theorem dq_50_64 : decode (qx_code 50) 64 = .ok (.iconst 1, 1) := by decide +kernel
theorem dq_50_65 : decode (qx_code 50) 65 = .ok (.iadd, 1) := by decide +kernel
theorem dq_50_66 : decode (qx_code 50) 66 = .ok (.goto 4, 3) := by decide +kernel
theorem dq_50_69 : decode (qx_code 50) 69 = .ok (.iconst (-1), 1) := by decide +kernel
theorem dq_50_70 : decode (qx_code 50) 70 = .ok (.ireturn, 1) := by decide +kernel
theorem dq_50_71 : decode (qx_code 50) 71 = .ok (.iload_n 3, 1) := by decide +kernel
theorem dq_50_72 : decode (qx_code 50) 72 = .ok (.iconst 1, 1) := by decide +kernel
theorem dq_50_73 : decode (qx_code 50) 73 = .ok (.iadd, 1) := by decide +kernel
theorem dq_50_74 : decode (qx_code 50) 74 = .ok (.istore 4, 2) := by decide +kernel
theorem dq_50_76 : decode (qx_code 50) 76 = .ok (.iload 4, 2) := by decide +kernel
theorem dq_50_78 : decode (qx_code 50) 78 = .ok (.iload_n 2, 1) := by decide +kernel
theorem dq_50_79 : decode (qx_code 50) 79 = .ok (.if_icmp .ge 20, 3) := by decide +kernel
theorem dq_50_82 : decode (qx_code 50) 82 = .ok (.aload_n 0, 1) := by decide +kernel
theorem dq_50_83 : decode (qx_code 50) 83 = .ok (.iload 4, 2) := by decide +kernel
theorem dq_50_85 : decode (qx_code 50) 85 = .ok (.invokevirtual 17, 3) := by decide +kernel
theorem dq_50_88 : decode (qx_code 50) 88 = .ok (.bipush 59, 2) := by decide +kernel
theorem dq_50_90 : decode (qx_code 50) 90 = .ok (.if_icmp .eq 9, 3) := by decide +kernel
theorem dq_50_93 : decode (qx_code 50) 93 = .ok (.iinc 4 1, 3) := by decide +kernel
theorem dq_50_96 : decode (qx_code 50) 96 = .ok (.goto (-20), 3) := by decide +kernel
theorem dq_50_99 : decode (qx_code 50) 99 = .ok (.iload 4, 2) := by decide +kernel
theorem dq_50_101 : decode (qx_code 50) 101 = .ok (.iload_n 2, 1) := by decide +kernel
theorem dq_50_102 : decode (qx_code 50) 102 = .ok (.if_icmp .ge 22, 3) := by decide +kernel
theorem dq_50_105 : decode (qx_code 50) 105 = .ok (.aload_n 0, 1) := by decide +kernel
theorem dq_50_106 : decode (qx_code 50) 106 = .ok (.iload_n 3, 1) := by decide +kernel
theorem dq_50_107 : decode (qx_code 50) 107 = .ok (.iconst 1, 1) := by decide +kernel
theorem dq_50_108 : decode (qx_code 50) 108 = .ok (.iadd, 1) := by decide +kernel
theorem dq_50_109 : decode (qx_code 50) 109 = .ok (.iload 4, 2) := by decide +kernel
theorem dq_50_111 : decode (qx_code 50) 111 = .ok (.invokestatic 7, 3) := by decide +kernel
theorem dq_50_114 : decode (qx_code 50) 114 = .ok (.ifCond .eq 10, 3) := by decide +kernel
theorem dq_50_117 : decode (qx_code 50) 117 = .ok (.iload 4, 2) := by decide +kernel
theorem dq_50_119 : decode (qx_code 50) 119 = .ok (.iconst 1, 1) := by decide +kernel
theorem dq_50_120 : decode (qx_code 50) 120 = .ok (.iadd, 1) := by decide +kernel
theorem dq_50_121 : decode (qx_code 50) 121 = .ok (.goto 4, 3) := by decide +kernel
theorem dq_50_124 : decode (qx_code 50) 124 = .ok (.iconst (-1), 1) := by decide +kernel
theorem dq_50_125 : decode (qx_code 50) 125 = .ok (.ireturn, 1) := by decide +kernel
theorem mt_50_17 : qx_mth 50 17 = some (27, 1) := by decide +kernel
theorem mt_50_31 : qx_mth 50 31 = some (28, 1) := by decide +kernel
theorem mt_50_7 : qx_mth 50 7 = some (26, 3) := by decide +kernel
