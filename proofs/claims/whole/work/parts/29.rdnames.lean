theorem dq_22_0 : decode (qx_code 22) 0 = .ok (.aload_n 0, 1) := by decide +kernel
theorem dq_22_1 : decode (qx_code 22) 1 = .ok (.getfield 12, 3) := by decide +kernel
theorem dq_22_4 : decode (qx_code 22) 4 = .ok (.invokevirtual 71, 3) := by decide +kernel
theorem dq_22_7 : decode (qx_code 22) 7 = .ok (.istore_n 2, 1) := by decide +kernel
theorem dq_22_8 : decode (qx_code 22) 8 = .ok (.aload_n 0, 1) := by decide +kernel
theorem dq_22_9 : decode (qx_code 22) 9 = .ok (.getfield 25, 3) := by decide +kernel
theorem dq_22_12 : decode (qx_code 22) 12 = .ok (.iload_n 1, 1) := by decide +kernel
theorem dq_22_13 : decode (qx_code 22) 13 = .ok (.iload_n 2, 1) := by decide +kernel
theorem dq_22_14 : decode (qx_code 22) 14 = .ok (.iastore, 1) := by decide +kernel
theorem dq_22_15 : decode (qx_code 22) 15 = .ok (.iconst 0, 1) := by decide +kernel
theorem dq_22_16 : decode (qx_code 22) 16 = .ok (.istore_n 3, 1) := by decide +kernel
theorem dq_22_17 : decode (qx_code 22) 17 = .ok (.iload_n 3, 1) := by decide +kernel
theorem dq_22_18 : decode (qx_code 22) 18 = .ok (.iload_n 2, 1) := by decide +kernel
theorem dq_22_19 : decode (qx_code 22) 19 = .ok (.if_icmp .ge 69, 3) := by decide +kernel
theorem dq_22_22 : decode (qx_code 22) 22 = .ok (.aload_n 0, 1) := by decide +kernel
theorem dq_22_23 : decode (qx_code 22) 23 = .ok (.getfield 12, 3) := by decide +kernel
theorem dq_22_26 : decode (qx_code 22) 26 = .ok (.invokevirtual 37, 3) := by decide +kernel
theorem dq_22_29 : decode (qx_code 22) 29 = .ok (.ifCond .eq 59, 3) := by decide +kernel
theorem dq_22_32 : decode (qx_code 22) 32 = .ok (.aload_n 0, 1) := by decide +kernel
theorem dq_22_33 : decode (qx_code 22) 33 = .ok (.getfield 12, 3) := by decide +kernel
theorem dq_22_36 : decode (qx_code 22) 36 = .ok (.getfield 41, 3) := by decide +kernel
theorem dq_22_39 : decode (qx_code 22) 39 = .ok (.istore 4, 2) := by decide +kernel
theorem dq_22_41 : decode (qx_code 22) 41 = .ok (.aload_n 0, 1) := by decide +kernel
theorem dq_22_42 : decode (qx_code 22) 42 = .ok (.getfield 12, 3) := by decide +kernel
theorem dq_22_45 : decode (qx_code 22) 45 = .ok (.iconst 1, 1) := by decide +kernel
theorem dq_22_46 : decode (qx_code 22) 46 = .ok (.invokevirtual 45, 3) := by decide +kernel
theorem dq_22_49 : decode (qx_code 22) 49 = .ok (.lstore 5, 2) := by decide +kernel
theorem dq_22_51 : decode (qx_code 22) 51 = .ok (.aload_n 0, 1) := by decide +kernel
theorem dq_22_52 : decode (qx_code 22) 52 = .ok (.getfield 12, 3) := by decide +kernel
theorem dq_22_55 : decode (qx_code 22) 55 = .ok (.lload 5, 2) := by decide +kernel
theorem dq_22_57 : decode (qx_code 22) 57 = .ok (.lconst 1, 1) := by decide +kernel
theorem dq_22_58 : decode (qx_code 22) 58 = .ok (.lcmp, 1) := by decide +kernel
theorem dq_22_59 : decode (qx_code 22) 59 = .ok (.ifCond .lt 16, 3) := by decide +kernel
theorem dq_22_62 : decode (qx_code 22) 62 = .ok (.lload 5, 2) := by decide +kernel
theorem dq_22_64 : decode (qx_code 22) 64 = .ok (.ldc2_w 75, 3) := by decide +kernel
theorem dq_22_67 : decode (qx_code 22) 67 = .ok (.lcmp, 1) := by decide +kernel
theorem dq_22_68 : decode (qx_code 22) 68 = .ok (.ifCond .gt 7, 3) := by decide +kernel
theorem dq_22_71 : decode (qx_code 22) 71 = .ok (.iconst 1, 1) := by decide +kernel
theorem dq_22_72 : decode (qx_code 22) 72 = .ok (.goto 4, 3) := by decide +kernel
theorem dq_22_75 : decode (qx_code 22) 75 = .ok (.iconst 0, 1) := by decide +kernel
theorem dq_22_76 : decode (qx_code 22) 76 = .ok (.iconst 4, 1) := by decide +kernel
theorem dq_22_77 : decode (qx_code 22) 77 = .ok (.iload 4, 2) := by decide +kernel
theorem dq_22_79 : decode (qx_code 22) 79 = .ok (.invokevirtual 65, 3) := by decide +kernel
theorem dq_22_82 : decode (qx_code 22) 82 = .ok (.iinc 3 1, 3) := by decide +kernel
theorem dq_22_85 : decode (qx_code 22) 85 = .ok (.goto (-68), 3) := by decide +kernel
theorem dq_22_88 : decode (qx_code 22) 88 = .ok (.return_, 1) := by decide +kernel
theorem fl_22_12 : qx_fld 22 12 = some (2, 0) := by decide +kernel
theorem mt_22_71 : qx_mth 22 71 = some (17, 0) := by decide +kernel
theorem fl_22_25 : qx_fld 22 25 = some (2, 3) := by decide +kernel
theorem mt_22_37 : qx_mth 22 37 = some (20, 0) := by decide +kernel
theorem fl_22_41 : qx_fld 22 41 = some (3, 2) := by decide +kernel
theorem mt_22_45 : qx_mth 22 45 = some (14, 1) := by decide +kernel
theorem mt_22_65 : qx_mth 22 65 = some (15, 3) := by decide +kernel
theorem dq_21_0 : decode (qx_code 21) 0 = .ok (.aload_n 0, 1) := by decide +kernel
theorem dq_21_1 : decode (qx_code 21) 1 = .ok (.getfield 18, 3) := by decide +kernel
theorem dq_21_4 : decode (qx_code 21) 4 = .ok (.iload_n 1, 1) := by decide +kernel
theorem dq_21_5 : decode (qx_code 21) 5 = .ok (.iaload, 1) := by decide +kernel
theorem dq_21_6 : decode (qx_code 21) 6 = .ok (.tableswitch 135 1 12 #[62, 135, 83, 83, 96, 96, 70, 70, 83, 83, 83, 83], 62) := by decide +kernel
theorem dq_21_68 : decode (qx_code 21) 68 = .ok (.aload_n 0, 1) := by decide +kernel
theorem dq_21_69 : decode (qx_code 21) 69 = .ok (.iload_n 1, 1) := by decide +kernel
theorem dq_21_70 : decode (qx_code 21) 70 = .ok (.invokevirtual 53, 3) := by decide +kernel
theorem dq_21_73 : decode (qx_code 21) 73 = .ok (.goto 83, 3) := by decide +kernel
theorem dq_21_76 : decode (qx_code 21) 76 = .ok (.aload_n 0, 1) := by decide +kernel
theorem dq_21_77 : decode (qx_code 21) 77 = .ok (.getfield 12, 3) := by decide +kernel
theorem dq_21_80 : decode (qx_code 21) 80 = .ok (.ldc2_w 57, 3) := by decide +kernel
theorem dq_21_83 : decode (qx_code 21) 83 = .ok (.invokevirtual 59, 3) := by decide +kernel
theorem dq_21_86 : decode (qx_code 21) 86 = .ok (.goto 70, 3) := by decide +kernel
theorem dq_21_89 : decode (qx_code 21) 89 = .ok (.aload_n 0, 1) := by decide +kernel
theorem dq_21_90 : decode (qx_code 21) 90 = .ok (.getfield 12, 3) := by decide +kernel
theorem dq_21_93 : decode (qx_code 21) 93 = .ok (.ldc2_w 63, 3) := by decide +kernel
theorem dq_21_96 : decode (qx_code 21) 96 = .ok (.invokevirtual 59, 3) := by decide +kernel
theorem dq_21_99 : decode (qx_code 21) 99 = .ok (.goto 57, 3) := by decide +kernel
theorem dq_21_102 : decode (qx_code 21) 102 = .ok (.aload_n 0, 1) := by decide +kernel
theorem dq_21_103 : decode (qx_code 21) 103 = .ok (.getfield 12, 3) := by decide +kernel
theorem dq_21_106 : decode (qx_code 21) 106 = .ok (.iload_n 1, 1) := by decide +kernel
theorem dq_21_107 : decode (qx_code 21) 107 = .ok (.iconst 1, 1) := by decide +kernel
theorem dq_21_108 : decode (qx_code 21) 108 = .ok (.iadd, 1) := by decide +kernel
theorem dq_21_109 : decode (qx_code 21) 109 = .ok (.iload_n 2, 1) := by decide +kernel
theorem dq_21_110 : decode (qx_code 21) 110 = .ok (.if_icmp .ge 7, 3) := by decide +kernel
theorem dq_21_113 : decode (qx_code 21) 113 = .ok (.iconst 1, 1) := by decide +kernel
theorem dq_21_114 : decode (qx_code 21) 114 = .ok (.goto 4, 3) := by decide +kernel
theorem dq_21_117 : decode (qx_code 21) 117 = .ok (.iconst 0, 1) := by decide +kernel
theorem dq_21_118 : decode (qx_code 21) 118 = .ok (.iconst 4, 1) := by decide +kernel
theorem dq_21_119 : decode (qx_code 21) 119 = .ok (.aload_n 0, 1) := by decide +kernel
theorem dq_21_120 : decode (qx_code 21) 120 = .ok (.getfield 22, 3) := by decide +kernel
theorem dq_21_123 : decode (qx_code 21) 123 = .ok (.iload_n 1, 1) := by decide +kernel
theorem dq_21_124 : decode (qx_code 21) 124 = .ok (.iaload, 1) := by decide +kernel
theorem dq_21_125 : decode (qx_code 21) 125 = .ok (.invokevirtual 65, 3) := by decide +kernel
theorem dq_21_128 : decode (qx_code 21) 128 = .ok (.aload_n 0, 1) := by decide +kernel
theorem dq_21_129 : decode (qx_code 21) 129 = .ok (.getfield 12, 3) := by decide +kernel
theorem dq_21_132 : decode (qx_code 21) 132 = .ok (.ldc2_w 69, 3) := by decide +kernel
theorem dq_21_135 : decode (qx_code 21) 135 = .ok (.invokevirtual 59, 3) := by decide +kernel
theorem dq_21_138 : decode (qx_code 21) 138 = .ok (.goto 18, 3) := by decide +kernel
theorem dq_21_141 : decode (qx_code 21) 141 = .ok (.aload_n 0, 1) := by decide +kernel
theorem dq_21_142 : decode (qx_code 21) 142 = .ok (.getfield 12, 3) := by decide +kernel
theorem dq_21_145 : decode (qx_code 21) 145 = .ok (.iconst 0, 1) := by decide +kernel
theorem dq_21_146 : decode (qx_code 21) 146 = .ok (.iconst 4, 1) := by decide +kernel
theorem dq_21_147 : decode (qx_code 21) 147 = .ok (.aload_n 0, 1) := by decide +kernel
theorem dq_21_148 : decode (qx_code 21) 148 = .ok (.getfield 22, 3) := by decide +kernel
theorem dq_21_151 : decode (qx_code 21) 151 = .ok (.iload_n 1, 1) := by decide +kernel
theorem dq_21_152 : decode (qx_code 21) 152 = .ok (.iaload, 1) := by decide +kernel
theorem dq_21_153 : decode (qx_code 21) 153 = .ok (.invokevirtual 65, 3) := by decide +kernel
theorem dq_21_156 : decode (qx_code 21) 156 = .ok (.return_, 1) := by decide +kernel
theorem fl_21_18 : qx_fld 21 18 = some (2, 1) := by decide +kernel
theorem mt_21_53 : qx_mth 21 53 = some (22, 1) := by decide +kernel
theorem fl_21_12 : qx_fld 21 12 = some (2, 0) := by decide +kernel
theorem mt_21_59 : qx_mth 21 59 = some (23, 1) := by decide +kernel
theorem fl_21_22 : qx_fld 21 22 = some (2, 2) := by decide +kernel
theorem mt_21_65 : qx_mth 21 65 = some (15, 3) := by decide +kernel
theorem dq_19_0 : decode (qx_code 19) 0 = .ok (.iconst 1, 1) := by decide +kernel
theorem dq_19_1 : decode (qx_code 19) 1 = .ok (.istore_n 2, 1) := by decide +kernel
theorem dq_19_2 : decode (qx_code 19) 2 = .ok (.iload_n 2, 1) := by decide +kernel
theorem dq_19_3 : decode (qx_code 19) 3 = .ok (.iload_n 1, 1) := by decide +kernel
theorem dq_19_4 : decode (qx_code 19) 4 = .ok (.if_icmp .ge 83, 3) := by decide +kernel
theorem dq_19_7 : decode (qx_code 19) 7 = .ok (.iload_n 2, 1) := by decide +kernel
theorem dq_19_8 : decode (qx_code 19) 8 = .ok (.bipush 64, 2) := by decide +kernel
theorem dq_19_10 : decode (qx_code 19) 10 = .ok (.if_icmp .ge 77, 3) := by decide +kernel
theorem dq_19_13 : decode (qx_code 19) 13 = .ok (.aload_n 0, 1) := by decide +kernel
theorem dq_19_14 : decode (qx_code 19) 14 = .ok (.getfield 12, 3) := by decide +kernel
theorem dq_19_17 : decode (qx_code 19) 17 = .ok (.invokevirtual 37, 3) := by decide +kernel
theorem dq_19_20 : decode (qx_code 19) 20 = .ok (.ifCond .eq 67, 3) := by decide +kernel
theorem dq_19_23 : decode (qx_code 19) 23 = .ok (.aload_n 0, 1) := by decide +kernel
theorem dq_19_24 : decode (qx_code 19) 24 = .ok (.getfield 22, 3) := by decide +kernel
theorem dq_19_27 : decode (qx_code 19) 27 = .ok (.iload_n 2, 1) := by decide +kernel
theorem dq_19_28 : decode (qx_code 19) 28 = .ok (.aload_n 0, 1) := by decide +kernel
theorem dq_19_29 : decode (qx_code 19) 29 = .ok (.getfield 12, 3) := by decide +kernel
theorem dq_19_32 : decode (qx_code 19) 32 = .ok (.getfield 41, 3) := by decide +kernel
theorem dq_19_35 : decode (qx_code 19) 35 = .ok (.iastore, 1) := by decide +kernel
theorem dq_19_36 : decode (qx_code 19) 36 = .ok (.aload_n 0, 1) := by decide +kernel
theorem dq_19_37 : decode (qx_code 19) 37 = .ok (.getfield 18, 3) := by decide +kernel
theorem dq_19_40 : decode (qx_code 19) 40 = .ok (.iload_n 2, 1) := by decide +kernel
theorem dq_19_41 : decode (qx_code 19) 41 = .ok (.aload_n 0, 1) := by decide +kernel
theorem dq_19_42 : decode (qx_code 19) 42 = .ok (.getfield 12, 3) := by decide +kernel
theorem dq_19_45 : decode (qx_code 19) 45 = .ok (.iconst 1, 1) := by decide +kernel
theorem dq_19_46 : decode (qx_code 19) 46 = .ok (.invokevirtual 45, 3) := by decide +kernel
theorem dq_19_49 : decode (qx_code 19) 49 = .ok (.l2i, 1) := by decide +kernel
theorem dq_19_50 : decode (qx_code 19) 50 = .ok (.iastore, 1) := by decide +kernel
theorem dq_19_51 : decode (qx_code 19) 51 = .ok (.aload_n 0, 1) := by decide +kernel
theorem dq_19_52 : decode (qx_code 19) 52 = .ok (.iload_n 2, 1) := by decide +kernel
theorem dq_19_53 : decode (qx_code 19) 53 = .ok (.iload_n 1, 1) := by decide +kernel
theorem dq_19_54 : decode (qx_code 19) 54 = .ok (.invokevirtual 49, 3) := by decide +kernel
theorem dq_19_57 : decode (qx_code 19) 57 = .ok (.aload_n 0, 1) := by decide +kernel
theorem dq_19_58 : decode (qx_code 19) 58 = .ok (.getfield 18, 3) := by decide +kernel
theorem dq_19_61 : decode (qx_code 19) 61 = .ok (.iload_n 2, 1) := by decide +kernel
theorem dq_19_62 : decode (qx_code 19) 62 = .ok (.iaload, 1) := by decide +kernel
theorem dq_19_63 : decode (qx_code 19) 63 = .ok (.iconst 5, 1) := by decide +kernel
theorem dq_19_64 : decode (qx_code 19) 64 = .ok (.if_icmp .eq 14, 3) := by decide +kernel
theorem dq_19_67 : decode (qx_code 19) 67 = .ok (.aload_n 0, 1) := by decide +kernel
theorem dq_19_68 : decode (qx_code 19) 68 = .ok (.getfield 18, 3) := by decide +kernel
theorem dq_19_71 : decode (qx_code 19) 71 = .ok (.iload_n 2, 1) := by decide +kernel
theorem dq_19_72 : decode (qx_code 19) 72 = .ok (.iaload, 1) := by decide +kernel
theorem dq_19_73 : decode (qx_code 19) 73 = .ok (.bipush 6, 2) := by decide +kernel
theorem dq_19_75 : decode (qx_code 19) 75 = .ok (.if_icmp .ne 6, 3) := by decide +kernel
theorem dq_19_78 : decode (qx_code 19) 78 = .ok (.iinc 2 1, 3) := by decide +kernel
theorem dq_19_81 : decode (qx_code 19) 81 = .ok (.iinc 2 1, 3) := by decide +kernel
theorem dq_19_84 : decode (qx_code 19) 84 = .ok (.goto (-82), 3) := by decide +kernel
theorem dq_19_87 : decode (qx_code 19) 87 = .ok (.return_, 1) := by decide +kernel
theorem fl_19_12 : qx_fld 19 12 = some (2, 0) := by decide +kernel
theorem mt_19_37 : qx_mth 19 37 = some (20, 0) := by decide +kernel
theorem fl_19_22 : qx_fld 19 22 = some (2, 2) := by decide +kernel
theorem fl_19_41 : qx_fld 19 41 = some (3, 2) := by decide +kernel
theorem fl_19_18 : qx_fld 19 18 = some (2, 1) := by decide +kernel
theorem mt_19_45 : qx_mth 19 45 = some (14, 1) := by decide +kernel
theorem mt_19_49 : qx_mth 19 49 = some (21, 2) := by decide +kernel
theorem dq_24_0 : decode (qx_code 24) 0 = .ok (.iconst 1, 1) := by decide +kernel
theorem dq_24_1 : decode (qx_code 24) 1 = .ok (.istore_n 1, 1) := by decide +kernel
theorem dq_24_2 : decode (qx_code 24) 2 = .ok (.iload_n 1, 1) := by decide +kernel
theorem dq_24_3 : decode (qx_code 24) 3 = .ok (.bipush 64, 2) := by decide +kernel
theorem dq_24_5 : decode (qx_code 24) 5 = .ok (.if_icmp .ge 60, 3) := by decide +kernel
theorem dq_24_8 : decode (qx_code 24) 8 = .ok (.aload_n 0, 1) := by decide +kernel
theorem dq_24_9 : decode (qx_code 24) 9 = .ok (.getfield 12, 3) := by decide +kernel
theorem dq_24_12 : decode (qx_code 24) 12 = .ok (.invokevirtual 37, 3) := by decide +kernel
theorem dq_24_15 : decode (qx_code 24) 15 = .ok (.ifCond .eq 50, 3) := by decide +kernel
theorem dq_24_18 : decode (qx_code 24) 18 = .ok (.aload_n 0, 1) := by decide +kernel
theorem dq_24_19 : decode (qx_code 24) 19 = .ok (.getfield 18, 3) := by decide +kernel
theorem dq_24_22 : decode (qx_code 24) 22 = .ok (.iload_n 1, 1) := by decide +kernel
theorem dq_24_23 : decode (qx_code 24) 23 = .ok (.iaload, 1) := by decide +kernel
theorem dq_24_24 : decode (qx_code 24) 24 = .ok (.iconst 1, 1) := by decide +kernel
theorem dq_24_25 : decode (qx_code 24) 25 = .ok (.if_icmp .ne 34, 3) := by decide +kernel
theorem dq_24_28 : decode (qx_code 24) 28 = .ok (.aload_n 0, 1) := by decide +kernel
theorem dq_24_29 : decode (qx_code 24) 29 = .ok (.getfield 22, 3) := by decide +kernel
theorem dq_24_32 : decode (qx_code 24) 32 = .ok (.iload_n 1, 1) := by decide +kernel
theorem dq_24_33 : decode (qx_code 24) 33 = .ok (.iaload, 1) := by decide +kernel
theorem dq_24_34 : decode (qx_code 24) 34 = .ok (.iconst 3, 1) := by decide +kernel
theorem dq_24_35 : decode (qx_code 24) 35 = .ok (.iadd, 1) := by decide +kernel
theorem dq_24_36 : decode (qx_code 24) 36 = .ok (.istore_n 2, 1) := by decide +kernel
theorem dq_24_37 : decode (qx_code 24) 37 = .ok (.aload_n 0, 1) := by decide +kernel
theorem dq_24_38 : decode (qx_code 24) 38 = .ok (.getfield 28, 3) := by decide +kernel
theorem dq_24_41 : decode (qx_code 24) 41 = .ok (.iload_n 1, 1) := by decide +kernel
theorem dq_24_42 : decode (qx_code 24) 42 = .ok (.aload_n 0, 1) := by decide +kernel
theorem dq_24_43 : decode (qx_code 24) 43 = .ok (.getfield 12, 3) := by decide +kernel
theorem dq_24_46 : decode (qx_code 24) 46 = .ok (.iload_n 2, 1) := by decide +kernel
theorem dq_24_47 : decode (qx_code 24) 47 = .ok (.iload_n 2, 1) := by decide +kernel
theorem dq_24_48 : decode (qx_code 24) 48 = .ok (.aload_n 0, 1) := by decide +kernel
theorem dq_24_49 : decode (qx_code 24) 49 = .ok (.getfield 25, 3) := by decide +kernel
theorem dq_24_52 : decode (qx_code 24) 52 = .ok (.iload_n 1, 1) := by decide +kernel
theorem dq_24_53 : decode (qx_code 24) 53 = .ok (.iaload, 1) := by decide +kernel
theorem dq_24_54 : decode (qx_code 24) 54 = .ok (.iadd, 1) := by decide +kernel
theorem dq_24_55 : decode (qx_code 24) 55 = .ok (.invokestatic 77, 3) := by decide +kernel
theorem dq_24_58 : decode (qx_code 24) 58 = .ok (.iastore, 1) := by decide +kernel
theorem dq_24_59 : decode (qx_code 24) 59 = .ok (.iinc 1 1, 3) := by decide +kernel
theorem dq_24_62 : decode (qx_code 24) 62 = .ok (.goto (-60), 3) := by decide +kernel
theorem dq_24_65 : decode (qx_code 24) 65 = .ok (.iconst 1, 1) := by decide +kernel
theorem dq_24_66 : decode (qx_code 24) 66 = .ok (.istore_n 1, 1) := by decide +kernel
theorem dq_24_67 : decode (qx_code 24) 67 = .ok (.iload_n 1, 1) := by decide +kernel
theorem dq_24_68 : decode (qx_code 24) 68 = .ok (.bipush 64, 2) := by decide +kernel
theorem dq_24_70 : decode (qx_code 24) 70 = .ok (.if_icmp .ge 24, 3) := by decide +kernel
theorem dq_24_73 : decode (qx_code 24) 73 = .ok (.aload_n 0, 1) := by decide +kernel
theorem dq_24_74 : decode (qx_code 24) 74 = .ok (.getfield 12, 3) := by decide +kernel
theorem dq_24_77 : decode (qx_code 24) 77 = .ok (.invokevirtual 37, 3) := by decide +kernel
theorem dq_24_80 : decode (qx_code 24) 80 = .ok (.ifCond .eq 14, 3) := by decide +kernel
theorem dq_24_83 : decode (qx_code 24) 83 = .ok (.aload_n 0, 1) := by decide +kernel
theorem dq_24_84 : decode (qx_code 24) 84 = .ok (.iload_n 1, 1) := by decide +kernel
theorem dq_24_85 : decode (qx_code 24) 85 = .ok (.invokevirtual 83, 3) := by decide +kernel
theorem dq_24_88 : decode (qx_code 24) 88 = .ok (.iinc 1 1, 3) := by decide +kernel
theorem dq_24_91 : decode (qx_code 24) 91 = .ok (.goto (-24), 3) := by decide +kernel
theorem dq_24_94 : decode (qx_code 24) 94 = .ok (.return_, 1) := by decide +kernel
theorem fl_24_12 : qx_fld 24 12 = some (2, 0) := by decide +kernel
theorem mt_24_37 : qx_mth 24 37 = some (20, 0) := by decide +kernel
theorem fl_24_18 : qx_fld 24 18 = some (2, 1) := by decide +kernel
theorem fl_24_22 : qx_fld 24 22 = some (2, 2) := by decide +kernel
theorem fl_24_28 : qx_fld 24 28 = some (2, 4) := by decide +kernel
theorem fl_24_25 : qx_fld 24 25 = some (2, 3) := by decide +kernel
theorem mt_24_77 : qx_mth 24 77 = some (25, 3) := by decide +kernel
theorem mt_24_83 : qx_mth 24 83 = some (53, 1) := by decide +kernel
theorem dq_53_0 : decode (qx_code 53) 0 = .ok (.aload_n 0, 1) := by decide +kernel
theorem dq_53_1 : decode (qx_code 53) 1 = .ok (.getfield 22, 3) := by decide +kernel
theorem dq_53_4 : decode (qx_code 53) 4 = .ok (.iload_n 1, 1) := by decide +kernel
theorem dq_53_5 : decode (qx_code 53) 5 = .ok (.iaload, 1) := by decide +kernel
theorem dq_53_6 : decode (qx_code 53) 6 = .ok (.istore_n 2, 1) := by decide +kernel
theorem dq_53_7 : decode (qx_code 53) 7 = .ok (.aload_n 0, 1) := by decide +kernel
theorem dq_53_8 : decode (qx_code 53) 8 = .ok (.getfield 12, 3) := by decide +kernel
theorem dq_53_11 : decode (qx_code 53) 11 = .ok (.iload_n 2, 1) := by decide +kernel
theorem dq_53_12 : decode (qx_code 53) 12 = .ok (.iconst 1, 1) := by decide +kernel
theorem dq_53_13 : decode (qx_code 53) 13 = .ok (.iadd, 1) := by decide +kernel
theorem dq_53_14 : decode (qx_code 53) 14 = .ok (.invokevirtual 86, 3) := by decide +kernel
theorem dq_53_17 : decode (qx_code 53) 17 = .ok (.istore_n 3, 1) := by decide +kernel
theorem dq_53_18 : decode (qx_code 53) 18 = .ok (.aload_n 0, 1) := by decide +kernel
theorem dq_53_19 : decode (qx_code 53) 19 = .ok (.getfield 12, 3) := by decide +kernel
theorem dq_53_22 : decode (qx_code 53) 22 = .ok (.iload_n 2, 1) := by decide +kernel
theorem dq_53_23 : decode (qx_code 53) 23 = .ok (.iconst 3, 1) := by decide +kernel
theorem dq_53_24 : decode (qx_code 53) 24 = .ok (.iadd, 1) := by decide +kernel
theorem dq_53_25 : decode (qx_code 53) 25 = .ok (.invokevirtual 86, 3) := by decide +kernel
theorem dq_53_28 : decode (qx_code 53) 28 = .ok (.istore 4, 2) := by decide +kernel
theorem dq_53_30 : decode (qx_code 53) 30 = .ok (.aload_n 0, 1) := by decide +kernel
theorem dq_53_31 : decode (qx_code 53) 31 = .ok (.getfield 18, 3) := by decide +kernel
theorem dq_53_34 : decode (qx_code 53) 34 = .ok (.iload_n 1, 1) := by decide +kernel
theorem dq_53_35 : decode (qx_code 53) 35 = .ok (.iaload, 1) := by decide +kernel
theorem dq_53_36 : decode (qx_code 53) 36 = .ok (.tableswitch 219 7 12 #[40, 74, 92, 92, 92, 130], 40) := by decide +kernel
theorem dq_53_76 : decode (qx_code 53) 76 = .ok (.aload_n 0, 1) := by decide +kernel
theorem dq_53_77 : decode (qx_code 53) 77 = .ok (.getfield 12, 3) := by decide +kernel
theorem dq_53_80 : decode (qx_code 53) 80 = .ok (.aload_n 0, 1) := by decide +kernel
theorem dq_53_81 : decode (qx_code 53) 81 = .ok (.iload_n 3, 1) := by decide +kernel
theorem dq_53_82 : decode (qx_code 53) 82 = .ok (.iconst 1, 1) := by decide +kernel
theorem dq_53_83 : decode (qx_code 53) 83 = .ok (.invokevirtual 90, 3) := by decide +kernel
theorem dq_53_86 : decode (qx_code 53) 86 = .ok (.iconst 5, 1) := by decide +kernel
theorem dq_53_87 : decode (qx_code 53) 87 = .ok (.iload_n 2, 1) := by decide +kernel
theorem dq_53_88 : decode (qx_code 53) 88 = .ok (.invokevirtual 65, 3) := by decide +kernel
theorem dq_53_91 : decode (qx_code 53) 91 = .ok (.aload_n 0, 1) := by decide +kernel
theorem dq_53_92 : decode (qx_code 53) 92 = .ok (.getfield 12, 3) := by decide +kernel
theorem dq_53_95 : decode (qx_code 53) 95 = .ok (.aload_n 0, 1) := by decide +kernel
theorem dq_53_96 : decode (qx_code 53) 96 = .ok (.iload_n 3, 1) := by decide +kernel
theorem dq_53_97 : decode (qx_code 53) 97 = .ok (.iconst 3, 1) := by decide +kernel
theorem dq_53_98 : decode (qx_code 53) 98 = .ok (.invokevirtual 94, 3) := by decide +kernel
theorem dq_53_101 : decode (qx_code 53) 101 = .ok (.bipush 7, 2) := by decide +kernel
theorem dq_53_103 : decode (qx_code 53) 103 = .ok (.iload_n 2, 1) := by decide +kernel
theorem dq_53_104 : decode (qx_code 53) 104 = .ok (.invokevirtual 65, 3) := by decide +kernel
theorem dq_53_107 : decode (qx_code 53) 107 = .ok (.goto 148, 3) := by decide +kernel
theorem dq_53_110 : decode (qx_code 53) 110 = .ok (.aload_n 0, 1) := by decide +kernel
theorem dq_53_111 : decode (qx_code 53) 111 = .ok (.getfield 12, 3) := by decide +kernel
theorem dq_53_114 : decode (qx_code 53) 114 = .ok (.aload_n 0, 1) := by decide +kernel
theorem dq_53_115 : decode (qx_code 53) 115 = .ok (.iload_n 3, 1) := by decide +kernel
theorem dq_53_116 : decode (qx_code 53) 116 = .ok (.iconst 1, 1) := by decide +kernel
theorem dq_53_117 : decode (qx_code 53) 117 = .ok (.invokevirtual 90, 3) := by decide +kernel
theorem dq_53_120 : decode (qx_code 53) 120 = .ok (.iconst 5, 1) := by decide +kernel
theorem dq_53_121 : decode (qx_code 53) 121 = .ok (.iload_n 2, 1) := by decide +kernel
theorem dq_53_122 : decode (qx_code 53) 122 = .ok (.invokevirtual 65, 3) := by decide +kernel
theorem dq_53_125 : decode (qx_code 53) 125 = .ok (.goto 130, 3) := by decide +kernel
theorem dq_53_128 : decode (qx_code 53) 128 = .ok (.aload_n 0, 1) := by decide +kernel
theorem dq_53_129 : decode (qx_code 53) 129 = .ok (.getfield 12, 3) := by decide +kernel
theorem dq_53_132 : decode (qx_code 53) 132 = .ok (.aload_n 0, 1) := by decide +kernel
theorem dq_53_133 : decode (qx_code 53) 133 = .ok (.iload_n 3, 1) := by decide +kernel
theorem dq_53_134 : decode (qx_code 53) 134 = .ok (.bipush 7, 2) := by decide +kernel
theorem dq_53_136 : decode (qx_code 53) 136 = .ok (.invokevirtual 90, 3) := by decide +kernel
theorem dq_53_139 : decode (qx_code 53) 139 = .ok (.ifCond .eq 18, 3) := by decide +kernel
theorem dq_53_142 : decode (qx_code 53) 142 = .ok (.aload_n 0, 1) := by decide +kernel
theorem dq_53_143 : decode (qx_code 53) 143 = .ok (.iload 4, 2) := by decide +kernel
theorem dq_53_145 : decode (qx_code 53) 145 = .ok (.bipush 12, 2) := by decide +kernel
theorem dq_53_147 : decode (qx_code 53) 147 = .ok (.invokevirtual 90, 3) := by decide +kernel
theorem dq_53_150 : decode (qx_code 53) 150 = .ok (.ifCond .eq 7, 3) := by decide +kernel
theorem dq_53_153 : decode (qx_code 53) 153 = .ok (.iconst 1, 1) := by decide +kernel
theorem dq_53_154 : decode (qx_code 53) 154 = .ok (.goto 4, 3) := by decide +kernel
theorem dq_53_157 : decode (qx_code 53) 157 = .ok (.iconst 0, 1) := by decide +kernel
theorem dq_53_158 : decode (qx_code 53) 158 = .ok (.iconst 5, 1) := by decide +kernel
theorem dq_53_159 : decode (qx_code 53) 159 = .ok (.iload_n 2, 1) := by decide +kernel
theorem dq_53_160 : decode (qx_code 53) 160 = .ok (.invokevirtual 65, 3) := by decide +kernel
theorem dq_53_163 : decode (qx_code 53) 163 = .ok (.goto 92, 3) := by decide +kernel
theorem dq_53_166 : decode (qx_code 53) 166 = .ok (.aload_n 0, 1) := by decide +kernel
theorem dq_53_167 : decode (qx_code 53) 167 = .ok (.getfield 12, 3) := by decide +kernel
theorem dq_53_170 : decode (qx_code 53) 170 = .ok (.aload_n 0, 1) := by decide +kernel
theorem dq_53_171 : decode (qx_code 53) 171 = .ok (.iload_n 3, 1) := by decide +kernel
theorem dq_53_172 : decode (qx_code 53) 172 = .ok (.iconst 1, 1) := by decide +kernel
theorem dq_53_173 : decode (qx_code 53) 173 = .ok (.invokevirtual 90, 3) := by decide +kernel
theorem dq_53_176 : decode (qx_code 53) 176 = .ok (.ifCond .eq 17, 3) := by decide +kernel
theorem dq_53_179 : decode (qx_code 53) 179 = .ok (.aload_n 0, 1) := by decide +kernel
theorem dq_53_180 : decode (qx_code 53) 180 = .ok (.iload 4, 2) := by decide +kernel
theorem dq_53_182 : decode (qx_code 53) 182 = .ok (.iconst 1, 1) := by decide +kernel
theorem dq_53_183 : decode (qx_code 53) 183 = .ok (.invokevirtual 90, 3) := by decide +kernel
theorem dq_53_186 : decode (qx_code 53) 186 = .ok (.ifCond .eq 7, 3) := by decide +kernel
theorem dq_53_189 : decode (qx_code 53) 189 = .ok (.iconst 1, 1) := by decide +kernel
theorem dq_53_190 : decode (qx_code 53) 190 = .ok (.goto 4, 3) := by decide +kernel
theorem dq_53_193 : decode (qx_code 53) 193 = .ok (.iconst 0, 1) := by decide +kernel
theorem dq_53_194 : decode (qx_code 53) 194 = .ok (.iconst 5, 1) := by decide +kernel
theorem dq_53_195 : decode (qx_code 53) 195 = .ok (.iload_n 2, 1) := by decide +kernel
theorem dq_53_196 : decode (qx_code 53) 196 = .ok (.invokevirtual 65, 3) := by decide +kernel
theorem dq_53_199 : decode (qx_code 53) 199 = .ok (.aload_n 0, 1) := by decide +kernel
theorem dq_53_200 : decode (qx_code 53) 200 = .ok (.getfield 12, 3) := by decide +kernel
theorem dq_53_203 : decode (qx_code 53) 203 = .ok (.aload_n 0, 1) := by decide +kernel
theorem dq_53_204 : decode (qx_code 53) 204 = .ok (.iload_n 3, 1) := by decide +kernel
theorem dq_53_205 : decode (qx_code 53) 205 = .ok (.bipush 16, 2) := by decide +kernel
theorem dq_53_207 : decode (qx_code 53) 207 = .ok (.invokevirtual 94, 3) := by decide +kernel
theorem dq_53_210 : decode (qx_code 53) 210 = .ok (.ifCond .ne 13, 3) := by decide +kernel
theorem dq_53_213 : decode (qx_code 53) 213 = .ok (.aload_n 0, 1) := by decide +kernel
theorem dq_53_214 : decode (qx_code 53) 214 = .ok (.iload_n 3, 1) := by decide +kernel
theorem dq_53_215 : decode (qx_code 53) 215 = .ok (.ldc 97, 2) := by decide +kernel
theorem dq_53_217 : decode (qx_code 53) 217 = .ok (.invokevirtual 98, 3) := by decide +kernel
theorem dq_53_220 : decode (qx_code 53) 220 = .ok (.ifCond .eq 7, 3) := by decide +kernel
theorem dq_53_223 : decode (qx_code 53) 223 = .ok (.iconst 1, 1) := by decide +kernel
theorem dq_53_224 : decode (qx_code 53) 224 = .ok (.goto 4, 3) := by decide +kernel
theorem dq_53_227 : decode (qx_code 53) 227 = .ok (.iconst 0, 1) := by decide +kernel
theorem dq_53_228 : decode (qx_code 53) 228 = .ok (.bipush 7, 2) := by decide +kernel
theorem dq_53_230 : decode (qx_code 53) 230 = .ok (.iload_n 2, 1) := by decide +kernel
theorem dq_53_231 : decode (qx_code 53) 231 = .ok (.invokevirtual 65, 3) := by decide +kernel
theorem dq_53_234 : decode (qx_code 53) 234 = .ok (.aload_n 0, 1) := by decide +kernel
theorem dq_53_235 : decode (qx_code 53) 235 = .ok (.getfield 12, 3) := by decide +kernel
theorem dq_53_238 : decode (qx_code 53) 238 = .ok (.aload_n 0, 1) := by decide +kernel
theorem dq_53_239 : decode (qx_code 53) 239 = .ok (.iload 4, 2) := by decide +kernel
theorem dq_53_241 : decode (qx_code 53) 241 = .ok (.bipush 12, 2) := by decide +kernel
theorem dq_53_243 : decode (qx_code 53) 243 = .ok (.invokevirtual 94, 3) := by decide +kernel
theorem dq_53_246 : decode (qx_code 53) 246 = .ok (.bipush 8, 2) := by decide +kernel
theorem dq_53_248 : decode (qx_code 53) 248 = .ok (.iload_n 2, 1) := by decide +kernel
theorem dq_53_249 : decode (qx_code 53) 249 = .ok (.invokevirtual 65, 3) := by decide +kernel
theorem dq_53_252 : decode (qx_code 53) 252 = .ok (.goto 3, 3) := by decide +kernel
theorem dq_53_255 : decode (qx_code 53) 255 = .ok (.return_, 1) := by decide +kernel
theorem fl_53_22 : qx_fld 53 22 = some (2, 2) := by decide +kernel
theorem fl_53_12 : qx_fld 53 12 = some (2, 0) := by decide +kernel
theorem mt_53_86 : qx_mth 53 86 = some (54, 1) := by decide +kernel
theorem fl_53_18 : qx_fld 53 18 = some (2, 1) := by decide +kernel
theorem mt_53_90 : qx_mth 53 90 = some (55, 2) := by decide +kernel
theorem mt_53_65 : qx_mth 53 65 = some (15, 3) := by decide +kernel
theorem mt_53_94 : qx_mth 53 94 = some (56, 2) := by decide +kernel
theorem mt_53_98 : qx_mth 53 98 = some (57, 2) := by decide +kernel
theorem dq_12_0 : decode (qx_code 12) 0 = .ok (.iconst 0, 1) := by decide +kernel
theorem dq_12_1 : decode (qx_code 12) 1 = .ok (.istore_n 2, 1) := by decide +kernel
theorem dq_12_2 : decode (qx_code 12) 2 = .ok (.aload_n 0, 1) := by decide +kernel
theorem dq_12_3 : decode (qx_code 12) 3 = .ok (.arraylength, 1) := by decide +kernel
theorem dq_12_4 : decode (qx_code 12) 4 = .ok (.istore_n 3, 1) := by decide +kernel
theorem dq_12_5 : decode (qx_code 12) 5 = .ok (.iload_n 2, 1) := by decide +kernel
theorem dq_12_6 : decode (qx_code 12) 6 = .ok (.iload_n 3, 1) := by decide +kernel
theorem dq_12_7 : decode (qx_code 12) 7 = .ok (.if_icmp .ge 13, 3) := by decide +kernel
theorem dq_12_10 : decode (qx_code 12) 10 = .ok (.aload_n 0, 1) := by decide +kernel
theorem dq_12_11 : decode (qx_code 12) 11 = .ok (.iload_n 2, 1) := by decide +kernel
theorem dq_12_12 : decode (qx_code 12) 12 = .ok (.iload_n 1, 1) := by decide +kernel
theorem dq_12_13 : decode (qx_code 12) 13 = .ok (.iastore, 1) := by decide +kernel
theorem dq_12_14 : decode (qx_code 12) 14 = .ok (.iinc 2 1, 3) := by decide +kernel
theorem dq_12_17 : decode (qx_code 12) 17 = .ok (.goto (-12), 3) := by decide +kernel
theorem dq_12_20 : decode (qx_code 12) 20 = .ok (.return_, 1) := by decide +kernel
theorem dq_11_0 : decode (qx_code 11) 0 = .ok (.aload_n 0, 1) := by decide +kernel
theorem dq_11_1 : decode (qx_code 11) 1 = .ok (.getfield 18, 3) := by decide +kernel
theorem dq_11_4 : decode (qx_code 11) 4 = .ok (.iconst 0, 1) := by decide +kernel
theorem dq_11_5 : decode (qx_code 11) 5 = .ok (.invokestatic 31, 3) := by decide +kernel
theorem dq_11_8 : decode (qx_code 11) 8 = .ok (.return_, 1) := by decide +kernel
theorem fl_11_18 : qx_fld 11 18 = some (2, 1) := by decide +kernel
theorem mt_11_31 : qx_mth 11 31 = some (12, 2) := by decide +kernel
theorem dq_10_0 : decode (qx_code 10) 0 = .ok (.aload_n 0, 1) := by decide +kernel
theorem dq_10_1 : decode (qx_code 10) 1 = .ok (.getfield 14, 3) := by decide +kernel
theorem dq_10_4 : decode (qx_code 10) 4 = .ok (.invokevirtual 39, 3) := by decide +kernel
theorem dq_10_7 : decode (qx_code 10) 7 = .ok (.aload_n 0, 1) := by decide +kernel
theorem dq_10_8 : decode (qx_code 10) 8 = .ok (.iconst 0, 1) := by decide +kernel
theorem dq_10_9 : decode (qx_code 10) 9 = .ok (.putfield 23, 3) := by decide +kernel
theorem dq_10_12 : decode (qx_code 10) 12 = .ok (.aload_n 0, 1) := by decide +kernel
theorem dq_10_13 : decode (qx_code 10) 13 = .ok (.getfield 27, 3) := by decide +kernel
theorem dq_10_16 : decode (qx_code 10) 16 = .ok (.iconst 0, 1) := by decide +kernel
theorem dq_10_17 : decode (qx_code 10) 17 = .ok (.invokestatic 42, 3) := by decide +kernel
theorem dq_10_20 : decode (qx_code 10) 20 = .ok (.aload_n 0, 1) := by decide +kernel
theorem dq_10_21 : decode (qx_code 10) 21 = .ok (.getfield 27, 3) := by decide +kernel
theorem dq_10_24 : decode (qx_code 10) 24 = .ok (.iconst 3, 1) := by decide +kernel
theorem dq_10_25 : decode (qx_code 10) 25 = .ok (.iconst 1, 1) := by decide +kernel
theorem dq_10_26 : decode (qx_code 10) 26 = .ok (.iastore, 1) := by decide +kernel
theorem dq_10_27 : decode (qx_code 10) 27 = .ok (.aload_n 0, 1) := by decide +kernel
theorem dq_10_28 : decode (qx_code 10) 28 = .ok (.getfield 36, 3) := by decide +kernel
theorem dq_10_31 : decode (qx_code 10) 31 = .ok (.iconst 0, 1) := by decide +kernel
theorem dq_10_32 : decode (qx_code 10) 32 = .ok (.invokestatic 42, 3) := by decide +kernel
theorem dq_10_35 : decode (qx_code 10) 35 = .ok (.return_, 1) := by decide +kernel
theorem fl_10_14 : qx_fld 10 14 = some (1, 0) := by decide +kernel
theorem mt_10_39 : qx_mth 10 39 = some (11, 0) := by decide +kernel
theorem fl_10_23 : qx_fld 10 23 = some (1, 2) := by decide +kernel
theorem fp_10_23 : qx_fld 10 23 = some (1, 2) ∧ qx_pok 10 23 = true := by decide +kernel
theorem fl_10_27 : qx_fld 10 27 = some (1, 3) := by decide +kernel
theorem mt_10_42 : qx_mth 10 42 = some (12, 2) := by decide +kernel
theorem fl_10_36 : qx_fld 10 36 = some (1, 5) := by decide +kernel
theorem dq_80_0 : decode (qx_code 80) 0 = .ok (.iload_n 1, 1) := by decide +kernel
theorem dq_80_1 : decode (qx_code 80) 1 = .ok (.ifCond .lt 18, 3) := by decide +kernel
theorem dq_80_4 : decode (qx_code 80) 4 = .ok (.iload_n 1, 1) := by decide +kernel
theorem dq_80_5 : decode (qx_code 80) 5 = .ok (.iconst 2, 1) := by decide +kernel
theorem dq_80_6 : decode (qx_code 80) 6 = .ok (.if_icmp .gt 13, 3) := by decide +kernel
theorem dq_80_9 : decode (qx_code 80) 9 = .ok (.iload_n 2, 1) := by decide +kernel
theorem dq_80_10 : decode (qx_code 80) 10 = .ok (.ifCond .lt 9, 3) := by decide +kernel
theorem dq_80_13 : decode (qx_code 80) 13 = .ok (.iload_n 2, 1) := by decide +kernel
theorem dq_80_14 : decode (qx_code 80) 14 = .ok (.bipush 16, 2) := by decide +kernel
theorem dq_80_16 : decode (qx_code 80) 16 = .ok (.if_icmp .lt 4, 3) := by decide +kernel
theorem dq_80_19 : decode (qx_code 80) 19 = .ok (.return_, 1) := by decide +kernel
theorem dq_80_20 : decode (qx_code 80) 20 = .ok (.aload_n 0, 1) := by decide +kernel
theorem dq_80_21 : decode (qx_code 80) 21 = .ok (.getfield 27, 3) := by decide +kernel
theorem dq_80_24 : decode (qx_code 80) 24 = .ok (.iload_n 1, 1) := by decide +kernel
theorem dq_80_25 : decode (qx_code 80) 25 = .ok (.iload_n 2, 1) := by decide +kernel
theorem dq_80_26 : decode (qx_code 80) 26 = .ok (.iconst 1, 1) := by decide +kernel
theorem dq_80_27 : decode (qx_code 80) 27 = .ok (.iadd, 1) := by decide +kernel
theorem dq_80_28 : decode (qx_code 80) 28 = .ok (.iastore, 1) := by decide +kernel
theorem dq_80_29 : decode (qx_code 80) 29 = .ok (.aload_n 0, 1) := by decide +kernel
theorem dq_80_30 : decode (qx_code 80) 30 = .ok (.getfield 31, 3) := by decide +kernel
theorem dq_80_33 : decode (qx_code 80) 33 = .ok (.bipush 16, 2) := by decide +kernel
theorem dq_80_35 : decode (qx_code 80) 35 = .ok (.iload_n 1, 1) := by decide +kernel
theorem dq_80_36 : decode (qx_code 80) 36 = .ok (.imul, 1) := by decide +kernel
theorem dq_80_37 : decode (qx_code 80) 37 = .ok (.iload_n 2, 1) := by decide +kernel
theorem dq_80_38 : decode (qx_code 80) 38 = .ok (.iadd, 1) := by decide +kernel
theorem dq_80_39 : decode (qx_code 80) 39 = .ok (.iload_n 3, 1) := by decide +kernel
theorem dq_80_40 : decode (qx_code 80) 40 = .ok (.iastore, 1) := by decide +kernel
theorem dq_80_41 : decode (qx_code 80) 41 = .ok (.return_, 1) := by decide +kernel
theorem fl_80_27 : qx_fld 80 27 = some (1, 3) := by decide +kernel
theorem fl_80_31 : qx_fld 80 31 = some (1, 4) := by decide +kernel
theorem dq_95_0 : decode (qx_code 95) 0 = .ok (.aload_n 0, 1) := by decide +kernel
theorem dq_95_1 : decode (qx_code 95) 1 = .ok (.iload_n 1, 1) := by decide +kernel
theorem dq_95_2 : decode (qx_code 95) 2 = .ok (.iload_n 2, 1) := by decide +kernel
theorem dq_95_3 : decode (qx_code 95) 3 = .ok (.invokevirtual 48, 3) := by decide +kernel
theorem dq_95_6 : decode (qx_code 95) 6 = .ok (.ifCond .eq 16, 3) := by decide +kernel
theorem dq_95_9 : decode (qx_code 95) 9 = .ok (.aload_n 0, 1) := by decide +kernel
theorem dq_95_10 : decode (qx_code 95) 10 = .ok (.getfield 36, 3) := by decide +kernel
theorem dq_95_13 : decode (qx_code 95) 13 = .ok (.iload_n 1, 1) := by decide +kernel
theorem dq_95_14 : decode (qx_code 95) 14 = .ok (.iload_n 2, 1) := by decide +kernel
theorem dq_95_15 : decode (qx_code 95) 15 = .ok (.aload_n 3, 1) := by decide +kernel
theorem dq_95_16 : decode (qx_code 95) 16 = .ok (.invokestatic 52, 3) := by decide +kernel
theorem dq_95_19 : decode (qx_code 95) 19 = .ok (.iload 4, 2) := by decide +kernel
theorem dq_95_21 : decode (qx_code 95) 21 = .ok (.iastore, 1) := by decide +kernel
theorem dq_95_22 : decode (qx_code 95) 22 = .ok (.return_, 1) := by decide +kernel
theorem mt_95_48 : qx_mth 95 48 = some (87, 2) := by decide +kernel
theorem fl_95_36 : qx_fld 95 36 = some (1, 5) := by decide +kernel
theorem mt_95_52 : qx_mth 95 52 = some (94, 3) := by decide +kernel
