theorem dq_55_0 : decode (qx_code 55) 0 = .ok (.iload_n 1, 1) := by decide +kernel
theorem dq_55_1 : decode (qx_code 55) 1 = .ok (.iconst 1, 1) := by decide +kernel
theorem dq_55_2 : decode (qx_code 55) 2 = .ok (.if_icmp .lt 23, 3) := by decide +kernel
theorem dq_55_5 : decode (qx_code 55) 5 = .ok (.iload_n 1, 1) := by decide +kernel
theorem dq_55_6 : decode (qx_code 55) 6 = .ok (.bipush 64, 2) := by decide +kernel
theorem dq_55_8 : decode (qx_code 55) 8 = .ok (.if_icmp .ge 17, 3) := by decide +kernel
theorem dq_55_11 : decode (qx_code 55) 11 = .ok (.aload_n 0, 1) := by decide +kernel
theorem dq_55_12 : decode (qx_code 55) 12 = .ok (.getfield 18, 3) := by decide +kernel
theorem dq_55_15 : decode (qx_code 55) 15 = .ok (.iload_n 1, 1) := by decide +kernel
theorem dq_55_16 : decode (qx_code 55) 16 = .ok (.iaload, 1) := by decide +kernel
theorem dq_55_17 : decode (qx_code 55) 17 = .ok (.iload_n 2, 1) := by decide +kernel
theorem dq_55_18 : decode (qx_code 55) 18 = .ok (.if_icmp .ne 7, 3) := by decide +kernel
theorem dq_55_21 : decode (qx_code 55) 21 = .ok (.iconst 1, 1) := by decide +kernel
theorem dq_55_22 : decode (qx_code 55) 22 = .ok (.goto 4, 3) := by decide +kernel
theorem dq_55_25 : decode (qx_code 55) 25 = .ok (.iconst 0, 1) := by decide +kernel
theorem dq_55_26 : decode (qx_code 55) 26 = .ok (.ireturn, 1) := by decide +kernel
theorem fl_55_18 : qx_fld 55 18 = some (2, 1) := by decide +kernel
theorem dq_56_0 : decode (qx_code 56) 0 = .ok (.aload_n 0, 1) := by decide +kernel
theorem dq_56_1 : decode (qx_code 56) 1 = .ok (.iload_n 1, 1) := by decide +kernel
theorem dq_56_2 : decode (qx_code 56) 2 = .ok (.iconst 1, 1) := by decide +kernel
theorem dq_56_3 : decode (qx_code 56) 3 = .ok (.invokevirtual 90, 3) := by decide +kernel
theorem dq_56_6 : decode (qx_code 56) 6 = .ok (.ifCond .eq 18, 3) := by decide +kernel
theorem dq_56_9 : decode (qx_code 56) 9 = .ok (.aload_n 0, 1) := by decide +kernel
theorem dq_56_10 : decode (qx_code 56) 10 = .ok (.getfield 28, 3) := by decide +kernel
theorem dq_56_13 : decode (qx_code 56) 13 = .ok (.iload_n 1, 1) := by decide +kernel
theorem dq_56_14 : decode (qx_code 56) 14 = .ok (.iaload, 1) := by decide +kernel
theorem dq_56_15 : decode (qx_code 56) 15 = .ok (.iload_n 2, 1) := by decide +kernel
theorem dq_56_16 : decode (qx_code 56) 16 = .ok (.iand, 1) := by decide +kernel
theorem dq_56_17 : decode (qx_code 56) 17 = .ok (.ifCond .eq 7, 3) := by decide +kernel
theorem dq_56_20 : decode (qx_code 56) 20 = .ok (.iconst 1, 1) := by decide +kernel
theorem dq_56_21 : decode (qx_code 56) 21 = .ok (.goto 4, 3) := by decide +kernel
theorem dq_56_24 : decode (qx_code 56) 24 = .ok (.iconst 0, 1) := by decide +kernel
theorem dq_56_25 : decode (qx_code 56) 25 = .ok (.ireturn, 1) := by decide +kernel
theorem mt_56_90 : qx_mth 56 90 = some (55, 2) := by decide +kernel
theorem fl_56_28 : qx_fld 56 28 = some (2, 4) := by decide +kernel
theorem dq_72_0 : decode (qx_code 72) 0 = .ok (.aload_n 0, 1) := by decide +kernel
theorem dq_72_1 : decode (qx_code 72) 1 = .ok (.iload_n 1, 1) := by decide +kernel
theorem dq_72_2 : decode (qx_code 72) 2 = .ok (.bipush 7, 2) := by decide +kernel
theorem dq_72_4 : decode (qx_code 72) 4 = .ok (.invokevirtual 90, 3) := by decide +kernel
theorem dq_72_7 : decode (qx_code 72) 7 = .ok (.ifCond .eq 21, 3) := by decide +kernel
theorem dq_72_10 : decode (qx_code 72) 10 = .ok (.aload_n 0, 1) := by decide +kernel
theorem dq_72_11 : decode (qx_code 72) 11 = .ok (.getfield 12, 3) := by decide +kernel
theorem dq_72_14 : decode (qx_code 72) 14 = .ok (.aload_n 0, 1) := by decide +kernel
theorem dq_72_15 : decode (qx_code 72) 15 = .ok (.getfield 22, 3) := by decide +kernel
theorem dq_72_18 : decode (qx_code 72) 18 = .ok (.iload_n 1, 1) := by decide +kernel
theorem dq_72_19 : decode (qx_code 72) 19 = .ok (.iaload, 1) := by decide +kernel
theorem dq_72_20 : decode (qx_code 72) 20 = .ok (.iconst 1, 1) := by decide +kernel
theorem dq_72_21 : decode (qx_code 72) 21 = .ok (.iadd, 1) := by decide +kernel
theorem dq_72_22 : decode (qx_code 72) 22 = .ok (.invokevirtual 86, 3) := by decide +kernel
theorem dq_72_25 : decode (qx_code 72) 25 = .ok (.goto 4, 3) := by decide +kernel
theorem dq_72_28 : decode (qx_code 72) 28 = .ok (.iconst 0, 1) := by decide +kernel
theorem dq_72_29 : decode (qx_code 72) 29 = .ok (.ireturn, 1) := by decide +kernel
theorem mt_72_90 : qx_mth 72 90 = some (55, 2) := by decide +kernel
theorem fl_72_12 : qx_fld 72 12 = some (2, 0) := by decide +kernel
theorem fl_72_22 : qx_fld 72 22 = some (2, 2) := by decide +kernel
theorem mt_72_86 : qx_mth 72 86 = some (54, 1) := by decide +kernel
theorem dq_71_0 : decode (qx_code 71) 0 = .ok (.aload_n 0, 1) := by decide +kernel
theorem dq_71_1 : decode (qx_code 71) 1 = .ok (.aload_n 0, 1) := by decide +kernel
theorem dq_71_2 : decode (qx_code 71) 2 = .ok (.iload_n 1, 1) := by decide +kernel
theorem dq_71_3 : decode (qx_code 71) 3 = .ok (.invokevirtual 102, 3) := by decide +kernel
theorem dq_71_6 : decode (qx_code 71) 6 = .ok (.iconst 1, 1) := by decide +kernel
theorem dq_71_7 : decode (qx_code 71) 7 = .ok (.invokevirtual 94, 3) := by decide +kernel
theorem dq_71_10 : decode (qx_code 71) 10 = .ok (.ireturn, 1) := by decide +kernel
theorem mt_71_102 : qx_mth 71 102 = some (72, 1) := by decide +kernel
theorem mt_71_94 : qx_mth 71 94 = some (56, 2) := by decide +kernel
theorem dq_101_0 : decode (qx_code 101) 0 = .ok (.aload_n 0, 1) := by decide +kernel
theorem dq_101_1 : decode (qx_code 101) 1 = .ok (.iload_n 1, 1) := by decide +kernel
theorem dq_101_2 : decode (qx_code 101) 2 = .ok (.iconst 1, 1) := by decide +kernel
theorem dq_101_3 : decode (qx_code 101) 3 = .ok (.invokevirtual 90, 3) := by decide +kernel
theorem dq_101_6 : decode (qx_code 101) 6 = .ok (.ifCond .eq 17, 3) := by decide +kernel
theorem dq_101_9 : decode (qx_code 101) 9 = .ok (.iload_n 2, 1) := by decide +kernel
theorem dq_101_10 : decode (qx_code 101) 10 = .ok (.ifCond .lt 13, 3) := by decide +kernel
theorem dq_101_13 : decode (qx_code 101) 13 = .ok (.iload_n 2, 1) := by decide +kernel
theorem dq_101_14 : decode (qx_code 101) 14 = .ok (.aload_n 0, 1) := by decide +kernel
theorem dq_101_15 : decode (qx_code 101) 15 = .ok (.getfield 25, 3) := by decide +kernel
theorem dq_101_18 : decode (qx_code 101) 18 = .ok (.iload_n 1, 1) := by decide +kernel
theorem dq_101_19 : decode (qx_code 101) 19 = .ok (.iaload, 1) := by decide +kernel
theorem dq_101_20 : decode (qx_code 101) 20 = .ok (.if_icmp .lt 5, 3) := by decide +kernel
theorem dq_101_23 : decode (qx_code 101) 23 = .ok (.iconst (-1), 1) := by decide +kernel
theorem dq_101_24 : decode (qx_code 101) 24 = .ok (.ireturn, 1) := by decide +kernel
theorem dq_101_25 : decode (qx_code 101) 25 = .ok (.aload_n 0, 1) := by decide +kernel
theorem dq_101_26 : decode (qx_code 101) 26 = .ok (.getfield 12, 3) := by decide +kernel
theorem dq_101_29 : decode (qx_code 101) 29 = .ok (.aload_n 0, 1) := by decide +kernel
theorem dq_101_30 : decode (qx_code 101) 30 = .ok (.getfield 22, 3) := by decide +kernel
theorem dq_101_33 : decode (qx_code 101) 33 = .ok (.iload_n 1, 1) := by decide +kernel
theorem dq_101_34 : decode (qx_code 101) 34 = .ok (.iaload, 1) := by decide +kernel
theorem dq_101_35 : decode (qx_code 101) 35 = .ok (.iconst 3, 1) := by decide +kernel
theorem dq_101_36 : decode (qx_code 101) 36 = .ok (.iadd, 1) := by decide +kernel
theorem dq_101_37 : decode (qx_code 101) 37 = .ok (.iload_n 2, 1) := by decide +kernel
theorem dq_101_38 : decode (qx_code 101) 38 = .ok (.iadd, 1) := by decide +kernel
theorem dq_101_39 : decode (qx_code 101) 39 = .ok (.invokevirtual 110, 3) := by decide +kernel
theorem dq_101_42 : decode (qx_code 101) 42 = .ok (.ireturn, 1) := by decide +kernel
theorem mt_101_90 : qx_mth 101 90 = some (55, 2) := by decide +kernel
theorem fl_101_25 : qx_fld 101 25 = some (2, 3) := by decide +kernel
theorem fl_101_12 : qx_fld 101 12 = some (2, 0) := by decide +kernel
theorem fl_101_22 : qx_fld 101 22 = some (2, 2) := by decide +kernel
theorem mt_101_110 : qx_mth 101 110 = some (27, 1) := by decide +kernel
theorem dq_120_0 : decode (qx_code 120) 0 = .ok (.iload_n 1, 1) := by decide +kernel
theorem dq_120_1 : decode (qx_code 120) 1 = .ok (.iconst 1, 1) := by decide +kernel
theorem dq_120_2 : decode (qx_code 120) 2 = .ok (.if_icmp .lt 9, 3) := by decide +kernel
theorem dq_120_5 : decode (qx_code 120) 5 = .ok (.iload_n 1, 1) := by decide +kernel
theorem dq_120_6 : decode (qx_code 120) 6 = .ok (.bipush 64, 2) := by decide +kernel
theorem dq_120_8 : decode (qx_code 120) 8 = .ok (.if_icmp .lt 7, 3) := by decide +kernel
theorem dq_120_11 : decode (qx_code 120) 11 = .ok (.ldc2_w 117, 3) := by decide +kernel
theorem dq_120_14 : decode (qx_code 120) 14 = .ok (.lreturn, 1) := by decide +kernel
theorem dq_120_15 : decode (qx_code 120) 15 = .ok (.aload_n 0, 1) := by decide +kernel
theorem dq_120_16 : decode (qx_code 120) 16 = .ok (.getfield 18, 3) := by decide +kernel
theorem dq_120_19 : decode (qx_code 120) 19 = .ok (.iload_n 1, 1) := by decide +kernel
theorem dq_120_20 : decode (qx_code 120) 20 = .ok (.iaload, 1) := by decide +kernel
theorem dq_120_21 : decode (qx_code 120) 21 = .ok (.tableswitch 142 3 8 #[39, 39, 58, 58, 142, 100], 39) := by decide +kernel
theorem dq_120_60 : decode (qx_code 120) 60 = .ok (.aload_n 0, 1) := by decide +kernel
theorem dq_120_61 : decode (qx_code 120) 61 = .ok (.getfield 12, 3) := by decide +kernel
theorem dq_120_64 : decode (qx_code 120) 64 = .ok (.aload_n 0, 1) := by decide +kernel
theorem dq_120_65 : decode (qx_code 120) 65 = .ok (.getfield 22, 3) := by decide +kernel
theorem dq_120_68 : decode (qx_code 120) 68 = .ok (.iload_n 1, 1) := by decide +kernel
theorem dq_120_69 : decode (qx_code 120) 69 = .ok (.iaload, 1) := by decide +kernel
theorem dq_120_70 : decode (qx_code 120) 70 = .ok (.iconst 1, 1) := by decide +kernel
theorem dq_120_71 : decode (qx_code 120) 71 = .ok (.iadd, 1) := by decide +kernel
theorem dq_120_72 : decode (qx_code 120) 72 = .ok (.iconst 4, 1) := by decide +kernel
theorem dq_120_73 : decode (qx_code 120) 73 = .ok (.invokevirtual 119, 3) := by decide +kernel
theorem dq_120_76 : decode (qx_code 120) 76 = .ok (.l2i, 1) := by decide +kernel
theorem dq_120_77 : decode (qx_code 120) 77 = .ok (.i2l, 1) := by decide +kernel
theorem dq_120_78 : decode (qx_code 120) 78 = .ok (.lreturn, 1) := by decide +kernel
theorem dq_120_79 : decode (qx_code 120) 79 = .ok (.aload_n 0, 1) := by decide +kernel
theorem dq_120_80 : decode (qx_code 120) 80 = .ok (.getfield 12, 3) := by decide +kernel
theorem dq_120_83 : decode (qx_code 120) 83 = .ok (.aload_n 0, 1) := by decide +kernel
theorem dq_120_84 : decode (qx_code 120) 84 = .ok (.getfield 22, 3) := by decide +kernel
theorem dq_120_87 : decode (qx_code 120) 87 = .ok (.iload_n 1, 1) := by decide +kernel
theorem dq_120_88 : decode (qx_code 120) 88 = .ok (.iaload, 1) := by decide +kernel
theorem dq_120_89 : decode (qx_code 120) 89 = .ok (.iconst 1, 1) := by decide +kernel
theorem dq_120_90 : decode (qx_code 120) 90 = .ok (.iadd, 1) := by decide +kernel
theorem dq_120_91 : decode (qx_code 120) 91 = .ok (.bipush 8, 2) := by decide +kernel
theorem dq_120_93 : decode (qx_code 120) 93 = .ok (.invokevirtual 119, 3) := by decide +kernel
theorem dq_120_96 : decode (qx_code 120) 96 = .ok (.lstore_n 2, 1) := by decide +kernel
theorem dq_120_97 : decode (qx_code 120) 97 = .ok (.lload_n 2, 1) := by decide +kernel
theorem dq_120_98 : decode (qx_code 120) 98 = .ok (.ldc2_w 123, 3) := by decide +kernel
theorem dq_120_101 : decode (qx_code 120) 101 = .ok (.lcmp, 1) := by decide +kernel
theorem dq_120_102 : decode (qx_code 120) 102 = .ok (.ifCond .le 15, 3) := by decide +kernel
theorem dq_120_105 : decode (qx_code 120) 105 = .ok (.lload_n 2, 1) := by decide +kernel
theorem dq_120_106 : decode (qx_code 120) 106 = .ok (.ldc2_w 117, 3) := by decide +kernel
theorem dq_120_109 : decode (qx_code 120) 109 = .ok (.lcmp, 1) := by decide +kernel
theorem dq_120_110 : decode (qx_code 120) 110 = .ok (.ifCond .ge 7, 3) := by decide +kernel
theorem dq_120_113 : decode (qx_code 120) 113 = .ok (.lload_n 2, 1) := by decide +kernel
theorem dq_120_114 : decode (qx_code 120) 114 = .ok (.goto 6, 3) := by decide +kernel
theorem dq_120_117 : decode (qx_code 120) 117 = .ok (.ldc2_w 117, 3) := by decide +kernel
theorem dq_120_120 : decode (qx_code 120) 120 = .ok (.lreturn, 1) := by decide +kernel
theorem dq_120_121 : decode (qx_code 120) 121 = .ok (.aload_n 0, 1) := by decide +kernel
theorem dq_120_122 : decode (qx_code 120) 122 = .ok (.getfield 12, 3) := by decide +kernel
theorem dq_120_125 : decode (qx_code 120) 125 = .ok (.aload_n 0, 1) := by decide +kernel
theorem dq_120_126 : decode (qx_code 120) 126 = .ok (.getfield 22, 3) := by decide +kernel
theorem dq_120_129 : decode (qx_code 120) 129 = .ok (.iload_n 1, 1) := by decide +kernel
theorem dq_120_130 : decode (qx_code 120) 130 = .ok (.iaload, 1) := by decide +kernel
theorem dq_120_131 : decode (qx_code 120) 131 = .ok (.iconst 1, 1) := by decide +kernel
theorem dq_120_132 : decode (qx_code 120) 132 = .ok (.iadd, 1) := by decide +kernel
theorem dq_120_133 : decode (qx_code 120) 133 = .ok (.invokevirtual 86, 3) := by decide +kernel
theorem dq_120_136 : decode (qx_code 120) 136 = .ok (.istore 4, 2) := by decide +kernel
theorem dq_120_138 : decode (qx_code 120) 138 = .ok (.aload_n 0, 1) := by decide +kernel
theorem dq_120_139 : decode (qx_code 120) 139 = .ok (.iload 4, 2) := by decide +kernel
theorem dq_120_141 : decode (qx_code 120) 141 = .ok (.iconst 1, 1) := by decide +kernel
theorem dq_120_142 : decode (qx_code 120) 142 = .ok (.invokevirtual 90, 3) := by decide +kernel
theorem dq_120_145 : decode (qx_code 120) 145 = .ok (.ifCond .eq 14, 3) := by decide +kernel
theorem dq_120_148 : decode (qx_code 120) 148 = .ok (.aload_n 0, 1) := by decide +kernel
theorem dq_120_149 : decode (qx_code 120) 149 = .ok (.getfield 25, 3) := by decide +kernel
theorem dq_120_152 : decode (qx_code 120) 152 = .ok (.iload 4, 2) := by decide +kernel
theorem dq_120_154 : decode (qx_code 120) 154 = .ok (.iaload, 1) := by decide +kernel
theorem dq_120_155 : decode (qx_code 120) 155 = .ok (.i2l, 1) := by decide +kernel
theorem dq_120_156 : decode (qx_code 120) 156 = .ok (.goto 6, 3) := by decide +kernel
theorem dq_120_159 : decode (qx_code 120) 159 = .ok (.ldc2_w 117, 3) := by decide +kernel
theorem dq_120_162 : decode (qx_code 120) 162 = .ok (.lreturn, 1) := by decide +kernel
theorem dq_120_163 : decode (qx_code 120) 163 = .ok (.ldc2_w 117, 3) := by decide +kernel
theorem dq_120_166 : decode (qx_code 120) 166 = .ok (.lreturn, 1) := by decide +kernel
theorem fl_120_18 : qx_fld 120 18 = some (2, 1) := by decide +kernel
theorem fl_120_12 : qx_fld 120 12 = some (2, 0) := by decide +kernel
theorem fl_120_22 : qx_fld 120 22 = some (2, 2) := by decide +kernel
theorem mt_120_119 : qx_mth 120 119 = some (16, 2) := by decide +kernel
theorem mt_120_86 : qx_mth 120 86 = some (54, 1) := by decide +kernel
theorem mt_120_90 : qx_mth 120 90 = some (55, 2) := by decide +kernel
theorem fl_120_25 : qx_fld 120 25 = some (2, 3) := by decide +kernel
