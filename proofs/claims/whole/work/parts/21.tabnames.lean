theorem dq_57_0 : decode (qx_code 57) 0 = .ok (.aload_n 0, 1) := by decide +kernel
theorem dq_57_1 : decode (qx_code 57) 1 = .ok (.iload_n 1, 1) := by decide +kernel
theorem dq_57_2 : decode (qx_code 57) 2 = .ok (.iconst 1, 1) := by decide +kernel
theorem dq_57_3 : decode (qx_code 57) 3 = .ok (.invokevirtual 90, 3) := by decide +kernel
theorem dq_57_6 : decode (qx_code 57) 6 = .ok (.ifCond .eq 16, 3) := by decide +kernel
theorem dq_57_9 : decode (qx_code 57) 9 = .ok (.aload_n 0, 1) := by decide +kernel
theorem dq_57_10 : decode (qx_code 57) 10 = .ok (.getfield 25, 3) := by decide +kernel
theorem dq_57_13 : decode (qx_code 57) 13 = .ok (.iload_n 1, 1) := by decide +kernel
theorem dq_57_14 : decode (qx_code 57) 14 = .ok (.iaload, 1) := by decide +kernel
theorem dq_57_15 : decode (qx_code 57) 15 = .ok (.aload_n 2, 1) := by decide +kernel
theorem dq_57_16 : decode (qx_code 57) 16 = .ok (.invokevirtual 105, 3) := by decide +kernel
theorem dq_57_19 : decode (qx_code 57) 19 = .ok (.if_icmp .eq 5, 3) := by decide +kernel
theorem dq_57_22 : decode (qx_code 57) 22 = .ok (.iconst 0, 1) := by decide +kernel
theorem dq_57_23 : decode (qx_code 57) 23 = .ok (.ireturn, 1) := by decide +kernel
theorem dq_57_24 : decode (qx_code 57) 24 = .ok (.aload_n 0, 1) := by decide +kernel
theorem dq_57_25 : decode (qx_code 57) 25 = .ok (.getfield 22, 3) := by decide +kernel
theorem dq_57_28 : decode (qx_code 57) 28 = .ok (.iload_n 1, 1) := by decide +kernel
theorem dq_57_29 : decode (qx_code 57) 29 = .ok (.iaload, 1) := by decide +kernel
theorem dq_57_30 : decode (qx_code 57) 30 = .ok (.iconst 3, 1) := by decide +kernel
theorem dq_57_31 : decode (qx_code 57) 31 = .ok (.iadd, 1) := by decide +kernel
theorem dq_57_32 : decode (qx_code 57) 32 = .ok (.istore_n 3, 1) := by decide +kernel
theorem dq_57_33 : decode (qx_code 57) 33 = .ok (.iconst 0, 1) := by decide +kernel
theorem dq_57_34 : decode (qx_code 57) 34 = .ok (.istore 4, 2) := by decide +kernel
theorem dq_57_36 : decode (qx_code 57) 36 = .ok (.iload 4, 2) := by decide +kernel
theorem dq_57_38 : decode (qx_code 57) 38 = .ok (.aload_n 2, 1) := by decide +kernel
theorem dq_57_39 : decode (qx_code 57) 39 = .ok (.invokevirtual 105, 3) := by decide +kernel
theorem dq_57_42 : decode (qx_code 57) 42 = .ok (.if_icmp .ge 31, 3) := by decide +kernel
theorem dq_57_45 : decode (qx_code 57) 45 = .ok (.aload_n 0, 1) := by decide +kernel
theorem dq_57_46 : decode (qx_code 57) 46 = .ok (.getfield 12, 3) := by decide +kernel
theorem dq_57_49 : decode (qx_code 57) 49 = .ok (.iload_n 3, 1) := by decide +kernel
theorem dq_57_50 : decode (qx_code 57) 50 = .ok (.iload 4, 2) := by decide +kernel
theorem dq_57_52 : decode (qx_code 57) 52 = .ok (.iadd, 1) := by decide +kernel
theorem dq_57_53 : decode (qx_code 57) 53 = .ok (.invokevirtual 110, 3) := by decide +kernel
theorem dq_57_56 : decode (qx_code 57) 56 = .ok (.aload_n 2, 1) := by decide +kernel
theorem dq_57_57 : decode (qx_code 57) 57 = .ok (.iload 4, 2) := by decide +kernel
theorem dq_57_59 : decode (qx_code 57) 59 = .ok (.invokevirtual 113, 3) := by decide +kernel
theorem dq_57_62 : decode (qx_code 57) 62 = .ok (.if_icmp .eq 5, 3) := by decide +kernel
theorem dq_57_65 : decode (qx_code 57) 65 = .ok (.iconst 0, 1) := by decide +kernel
theorem dq_57_66 : decode (qx_code 57) 66 = .ok (.ireturn, 1) := by decide +kernel
theorem dq_57_67 : decode (qx_code 57) 67 = .ok (.iinc 4 1, 3) := by decide +kernel
theorem dq_57_70 : decode (qx_code 57) 70 = .ok (.goto (-34), 3) := by decide +kernel
theorem dq_57_73 : decode (qx_code 57) 73 = .ok (.iconst 1, 1) := by decide +kernel
theorem dq_57_74 : decode (qx_code 57) 74 = .ok (.ireturn, 1) := by decide +kernel
theorem mt_57_90 : qx_mth 57 90 = some (55, 2) := by decide +kernel
theorem fl_57_25 : qx_fld 57 25 = some (2, 3) := by decide +kernel
theorem mt_57_105 : qx_mth 57 105 = some (31, 0) := by decide +kernel
theorem fl_57_22 : qx_fld 57 22 = some (2, 2) := by decide +kernel
theorem fl_57_12 : qx_fld 57 12 = some (2, 0) := by decide +kernel
theorem mt_57_110 : qx_mth 57 110 = some (27, 1) := by decide +kernel
theorem mt_57_113 : qx_mth 57 113 = some (58, 1) := by decide +kernel
theorem dq_76_0 : decode (qx_code 76) 0 = .ok (.aload_n 0, 1) := by decide +kernel
theorem dq_76_1 : decode (qx_code 76) 1 = .ok (.iload_n 1, 1) := by decide +kernel
theorem dq_76_2 : decode (qx_code 76) 2 = .ok (.iconst 1, 1) := by decide +kernel
theorem dq_76_3 : decode (qx_code 76) 3 = .ok (.invokevirtual 90, 3) := by decide +kernel
theorem dq_76_6 : decode (qx_code 76) 6 = .ok (.ifCond .eq 27, 3) := by decide +kernel
theorem dq_76_9 : decode (qx_code 76) 9 = .ok (.aload_n 0, 1) := by decide +kernel
theorem dq_76_10 : decode (qx_code 76) 10 = .ok (.iload_n 2, 1) := by decide +kernel
theorem dq_76_11 : decode (qx_code 76) 11 = .ok (.iconst 1, 1) := by decide +kernel
theorem dq_76_12 : decode (qx_code 76) 12 = .ok (.invokevirtual 90, 3) := by decide +kernel
theorem dq_76_15 : decode (qx_code 76) 15 = .ok (.ifCond .eq 18, 3) := by decide +kernel
theorem dq_76_18 : decode (qx_code 76) 18 = .ok (.aload_n 0, 1) := by decide +kernel
theorem dq_76_19 : decode (qx_code 76) 19 = .ok (.getfield 25, 3) := by decide +kernel
theorem dq_76_22 : decode (qx_code 76) 22 = .ok (.iload_n 1, 1) := by decide +kernel
theorem dq_76_23 : decode (qx_code 76) 23 = .ok (.iaload, 1) := by decide +kernel
theorem dq_76_24 : decode (qx_code 76) 24 = .ok (.aload_n 0, 1) := by decide +kernel
theorem dq_76_25 : decode (qx_code 76) 25 = .ok (.getfield 25, 3) := by decide +kernel
theorem dq_76_28 : decode (qx_code 76) 28 = .ok (.iload_n 2, 1) := by decide +kernel
theorem dq_76_29 : decode (qx_code 76) 29 = .ok (.iaload, 1) := by decide +kernel
theorem dq_76_30 : decode (qx_code 76) 30 = .ok (.if_icmp .eq 5, 3) := by decide +kernel
theorem dq_76_33 : decode (qx_code 76) 33 = .ok (.iconst 0, 1) := by decide +kernel
theorem dq_76_34 : decode (qx_code 76) 34 = .ok (.ireturn, 1) := by decide +kernel
theorem dq_76_35 : decode (qx_code 76) 35 = .ok (.aload_n 0, 1) := by decide +kernel
theorem dq_76_36 : decode (qx_code 76) 36 = .ok (.getfield 22, 3) := by decide +kernel
theorem dq_76_39 : decode (qx_code 76) 39 = .ok (.iload_n 1, 1) := by decide +kernel
theorem dq_76_40 : decode (qx_code 76) 40 = .ok (.iaload, 1) := by decide +kernel
theorem dq_76_41 : decode (qx_code 76) 41 = .ok (.iconst 3, 1) := by decide +kernel
theorem dq_76_42 : decode (qx_code 76) 42 = .ok (.iadd, 1) := by decide +kernel
theorem dq_76_43 : decode (qx_code 76) 43 = .ok (.istore_n 3, 1) := by decide +kernel
theorem dq_76_44 : decode (qx_code 76) 44 = .ok (.aload_n 0, 1) := by decide +kernel
theorem dq_76_45 : decode (qx_code 76) 45 = .ok (.getfield 22, 3) := by decide +kernel
theorem dq_76_48 : decode (qx_code 76) 48 = .ok (.iload_n 2, 1) := by decide +kernel
theorem dq_76_49 : decode (qx_code 76) 49 = .ok (.iaload, 1) := by decide +kernel
theorem dq_76_50 : decode (qx_code 76) 50 = .ok (.iconst 3, 1) := by decide +kernel
theorem dq_76_51 : decode (qx_code 76) 51 = .ok (.iadd, 1) := by decide +kernel
theorem dq_76_52 : decode (qx_code 76) 52 = .ok (.istore 4, 2) := by decide +kernel
theorem dq_76_54 : decode (qx_code 76) 54 = .ok (.iconst 0, 1) := by decide +kernel
theorem dq_76_55 : decode (qx_code 76) 55 = .ok (.istore 5, 2) := by decide +kernel
theorem dq_76_57 : decode (qx_code 76) 57 = .ok (.iload 5, 2) := by decide +kernel
theorem dq_76_59 : decode (qx_code 76) 59 = .ok (.aload_n 0, 1) := by decide +kernel
theorem dq_76_60 : decode (qx_code 76) 60 = .ok (.getfield 25, 3) := by decide +kernel
theorem dq_76_63 : decode (qx_code 76) 63 = .ok (.iload_n 1, 1) := by decide +kernel
theorem dq_76_64 : decode (qx_code 76) 64 = .ok (.iaload, 1) := by decide +kernel
theorem dq_76_65 : decode (qx_code 76) 65 = .ok (.if_icmp .ge 37, 3) := by decide +kernel
theorem dq_76_68 : decode (qx_code 76) 68 = .ok (.aload_n 0, 1) := by decide +kernel
theorem dq_76_69 : decode (qx_code 76) 69 = .ok (.getfield 12, 3) := by decide +kernel
theorem dq_76_72 : decode (qx_code 76) 72 = .ok (.iload_n 3, 1) := by decide +kernel
theorem dq_76_73 : decode (qx_code 76) 73 = .ok (.iload 5, 2) := by decide +kernel
theorem dq_76_75 : decode (qx_code 76) 75 = .ok (.iadd, 1) := by decide +kernel
theorem dq_76_76 : decode (qx_code 76) 76 = .ok (.invokevirtual 110, 3) := by decide +kernel
theorem dq_76_79 : decode (qx_code 76) 79 = .ok (.aload_n 0, 1) := by decide +kernel
theorem dq_76_80 : decode (qx_code 76) 80 = .ok (.getfield 12, 3) := by decide +kernel
theorem dq_76_83 : decode (qx_code 76) 83 = .ok (.iload 4, 2) := by decide +kernel
theorem dq_76_85 : decode (qx_code 76) 85 = .ok (.iload 5, 2) := by decide +kernel
theorem dq_76_87 : decode (qx_code 76) 87 = .ok (.iadd, 1) := by decide +kernel
theorem dq_76_88 : decode (qx_code 76) 88 = .ok (.invokevirtual 110, 3) := by decide +kernel
theorem dq_76_91 : decode (qx_code 76) 91 = .ok (.if_icmp .eq 5, 3) := by decide +kernel
theorem dq_76_94 : decode (qx_code 76) 94 = .ok (.iconst 0, 1) := by decide +kernel
theorem dq_76_95 : decode (qx_code 76) 95 = .ok (.ireturn, 1) := by decide +kernel
theorem dq_76_96 : decode (qx_code 76) 96 = .ok (.iinc 5 1, 3) := by decide +kernel
theorem dq_76_99 : decode (qx_code 76) 99 = .ok (.goto (-42), 3) := by decide +kernel
theorem dq_76_102 : decode (qx_code 76) 102 = .ok (.iconst 1, 1) := by decide +kernel
theorem dq_76_103 : decode (qx_code 76) 103 = .ok (.ireturn, 1) := by decide +kernel
theorem mt_76_90 : qx_mth 76 90 = some (55, 2) := by decide +kernel
theorem fl_76_25 : qx_fld 76 25 = some (2, 3) := by decide +kernel
theorem fl_76_22 : qx_fld 76 22 = some (2, 2) := by decide +kernel
theorem fl_76_12 : qx_fld 76 12 = some (2, 0) := by decide +kernel
theorem mt_76_110 : qx_mth 76 110 = some (27, 1) := by decide +kernel
theorem dq_100_0 : decode (qx_code 100) 0 = .ok (.aload_n 0, 1) := by decide +kernel
theorem dq_100_1 : decode (qx_code 100) 1 = .ok (.iload_n 1, 1) := by decide +kernel
theorem dq_100_2 : decode (qx_code 100) 2 = .ok (.ldc 125, 2) := by decide +kernel
theorem dq_100_4 : decode (qx_code 100) 4 = .ok (.invokevirtual 98, 3) := by decide +kernel
theorem dq_100_7 : decode (qx_code 100) 7 = .ok (.ifCond .eq 6, 3) := by decide +kernel
theorem dq_100_10 : decode (qx_code 100) 10 = .ok (.bipush 8, 2) := by decide +kernel
theorem dq_100_12 : decode (qx_code 100) 12 = .ok (.ireturn, 1) := by decide +kernel
theorem dq_100_13 : decode (qx_code 100) 13 = .ok (.aload_n 0, 1) := by decide +kernel
theorem dq_100_14 : decode (qx_code 100) 14 = .ok (.iload_n 1, 1) := by decide +kernel
theorem dq_100_15 : decode (qx_code 100) 15 = .ok (.iconst 1, 1) := by decide +kernel
theorem dq_100_16 : decode (qx_code 100) 16 = .ok (.invokevirtual 90, 3) := by decide +kernel
theorem dq_100_19 : decode (qx_code 100) 19 = .ok (.ifCond .eq 13, 3) := by decide +kernel
theorem dq_100_22 : decode (qx_code 100) 22 = .ok (.aload_n 0, 1) := by decide +kernel
theorem dq_100_23 : decode (qx_code 100) 23 = .ok (.getfield 25, 3) := by decide +kernel
theorem dq_100_26 : decode (qx_code 100) 26 = .ok (.iload_n 1, 1) := by decide +kernel
theorem dq_100_27 : decode (qx_code 100) 27 = .ok (.iaload, 1) := by decide +kernel
theorem dq_100_28 : decode (qx_code 100) 28 = .ok (.iconst 1, 1) := by decide +kernel
theorem dq_100_29 : decode (qx_code 100) 29 = .ok (.if_icmp .eq 5, 3) := by decide +kernel
theorem dq_100_32 : decode (qx_code 100) 32 = .ok (.iconst (-1), 1) := by decide +kernel
theorem dq_100_33 : decode (qx_code 100) 33 = .ok (.ireturn, 1) := by decide +kernel
theorem dq_100_34 : decode (qx_code 100) 34 = .ok (.aload_n 0, 1) := by decide +kernel
theorem dq_100_35 : decode (qx_code 100) 35 = .ok (.iload_n 1, 1) := by decide +kernel
theorem dq_100_36 : decode (qx_code 100) 36 = .ok (.iconst 0, 1) := by decide +kernel
theorem dq_100_37 : decode (qx_code 100) 37 = .ok (.invokevirtual 127, 3) := by decide +kernel
theorem dq_100_40 : decode (qx_code 100) 40 = .ok (.tableswitch 125 66 90 #[116, 116, 122, 125, 118, 125, 125, 116, 120, 125, 125, 125, 125, 125, 125, 125, 125, 116, 125, 125, 125, 125, 125, 125, 116], 116) := by decide +kernel
theorem dq_100_156 : decode (qx_code 100) 156 = .ok (.iconst 3, 1) := by decide +kernel
theorem dq_100_157 : decode (qx_code 100) 157 = .ok (.ireturn, 1) := by decide +kernel
theorem dq_100_158 : decode (qx_code 100) 158 = .ok (.iconst 4, 1) := by decide +kernel
theorem dq_100_159 : decode (qx_code 100) 159 = .ok (.ireturn, 1) := by decide +kernel
theorem dq_100_160 : decode (qx_code 100) 160 = .ok (.iconst 5, 1) := by decide +kernel
theorem dq_100_161 : decode (qx_code 100) 161 = .ok (.ireturn, 1) := by decide +kernel
theorem dq_100_162 : decode (qx_code 100) 162 = .ok (.bipush 6, 2) := by decide +kernel
theorem dq_100_164 : decode (qx_code 100) 164 = .ok (.ireturn, 1) := by decide +kernel
theorem dq_100_165 : decode (qx_code 100) 165 = .ok (.iconst (-1), 1) := by decide +kernel
theorem dq_100_166 : decode (qx_code 100) 166 = .ok (.ireturn, 1) := by decide +kernel
theorem mt_100_98 : qx_mth 100 98 = some (57, 2) := by decide +kernel
theorem mt_100_90 : qx_mth 100 90 = some (55, 2) := by decide +kernel
theorem fl_100_25 : qx_fld 100 25 = some (2, 3) := by decide +kernel
theorem mt_100_127 : qx_mth 100 127 = some (101, 2) := by decide +kernel
theorem dq_96_0 : decode (qx_code 96) 0 = .ok (.aload_n 0, 1) := by decide +kernel
theorem dq_96_1 : decode (qx_code 96) 1 = .ok (.getfield 64, 3) := by decide +kernel
theorem dq_96_4 : decode (qx_code 96) 4 = .ok (.ifCond .eq 7, 3) := by decide +kernel
theorem dq_96_7 : decode (qx_code 96) 7 = .ok (.iconst 1, 1) := by decide +kernel
theorem dq_96_8 : decode (qx_code 96) 8 = .ok (.goto 4, 3) := by decide +kernel
theorem dq_96_11 : decode (qx_code 96) 11 = .ok (.iconst 0, 1) := by decide +kernel
theorem dq_96_12 : decode (qx_code 96) 12 = .ok (.ireturn, 1) := by decide +kernel
theorem fl_96_64 : qx_fld 96 64 = some (6, 4) := by decide +kernel
theorem dq_92_0 : decode (qx_code 92) 0 = .ok (.iconst 0, 1) := by decide +kernel
theorem dq_92_1 : decode (qx_code 92) 1 = .ok (.istore_n 3, 1) := by decide +kernel
theorem dq_92_2 : decode (qx_code 92) 2 = .ok (.iload_n 3, 1) := by decide +kernel
theorem dq_92_3 : decode (qx_code 92) 3 = .ok (.getstatic 67, 3) := by decide +kernel
theorem dq_92_6 : decode (qx_code 92) 6 = .ok (.arraylength, 1) := by decide +kernel
theorem dq_92_7 : decode (qx_code 92) 7 = .ok (.if_icmp .ge 46, 3) := by decide +kernel
theorem dq_92_10 : decode (qx_code 92) 10 = .ok (.getstatic 67, 3) := by decide +kernel
theorem dq_92_13 : decode (qx_code 92) 13 = .ok (.iload_n 3, 1) := by decide +kernel
theorem dq_92_14 : decode (qx_code 92) 14 = .ok (.aaload, 1) := by decide +kernel
theorem dq_92_15 : decode (qx_code 92) 15 = .ok (.getfield 58, 3) := by decide +kernel
theorem dq_92_18 : decode (qx_code 92) 18 = .ok (.iload_n 2, 1) := by decide +kernel
theorem dq_92_19 : decode (qx_code 92) 19 = .ok (.ishr, 1) := by decide +kernel
theorem dq_92_20 : decode (qx_code 92) 20 = .ok (.iconst 1, 1) := by decide +kernel
theorem dq_92_21 : decode (qx_code 92) 21 = .ok (.iand, 1) := by decide +kernel
theorem dq_92_22 : decode (qx_code 92) 22 = .ok (.ifCond .eq 25, 3) := by decide +kernel
theorem dq_92_25 : decode (qx_code 92) 25 = .ok (.aload_n 0, 1) := by decide +kernel
theorem dq_92_26 : decode (qx_code 92) 26 = .ok (.iload_n 1, 1) := by decide +kernel
theorem dq_92_27 : decode (qx_code 92) 27 = .ok (.getstatic 67, 3) := by decide +kernel
theorem dq_92_30 : decode (qx_code 92) 30 = .ok (.iload_n 3, 1) := by decide +kernel
theorem dq_92_31 : decode (qx_code 92) 31 = .ok (.aaload, 1) := by decide +kernel
theorem dq_92_32 : decode (qx_code 92) 32 = .ok (.getfield 50, 3) := by decide +kernel
theorem dq_92_35 : decode (qx_code 92) 35 = .ok (.invokevirtual 70, 3) := by decide +kernel
theorem dq_92_38 : decode (qx_code 92) 38 = .ok (.ifCond .eq 9, 3) := by decide +kernel
theorem dq_92_41 : decode (qx_code 92) 41 = .ok (.getstatic 67, 3) := by decide +kernel
theorem dq_92_44 : decode (qx_code 92) 44 = .ok (.iload_n 3, 1) := by decide +kernel
theorem dq_92_45 : decode (qx_code 92) 45 = .ok (.aaload, 1) := by decide +kernel
theorem dq_92_46 : decode (qx_code 92) 46 = .ok (.areturn, 1) := by decide +kernel
theorem dq_92_47 : decode (qx_code 92) 47 = .ok (.iinc 3 1, 3) := by decide +kernel
theorem dq_92_50 : decode (qx_code 92) 50 = .ok (.goto (-48), 3) := by decide +kernel
theorem dq_92_53 : decode (qx_code 92) 53 = .ok (.aconst_null, 1) := by decide +kernel
theorem dq_92_54 : decode (qx_code 92) 54 = .ok (.areturn, 1) := by decide +kernel
theorem fl_92_58 : qx_fld 92 58 = some (6, 2) := by decide +kernel
theorem fl_92_50 : qx_fld 92 50 = some (6, 0) := by decide +kernel
theorem mt_92_70 : qx_mth 92 70 = some (57, 2) := by decide +kernel
theorem dq_87_0 : decode (qx_code 87) 0 = .ok (.iload_n 1, 1) := by decide +kernel
theorem dq_87_1 : decode (qx_code 87) 1 = .ok (.ifCond .lt 26, 3) := by decide +kernel
theorem dq_87_4 : decode (qx_code 87) 4 = .ok (.iload_n 1, 1) := by decide +kernel
theorem dq_87_5 : decode (qx_code 87) 5 = .ok (.iconst 3, 1) := by decide +kernel
theorem dq_87_6 : decode (qx_code 87) 6 = .ok (.if_icmp .gt 21, 3) := by decide +kernel
theorem dq_87_9 : decode (qx_code 87) 9 = .ok (.iload_n 2, 1) := by decide +kernel
theorem dq_87_10 : decode (qx_code 87) 10 = .ok (.ifCond .lt 17, 3) := by decide +kernel
theorem dq_87_13 : decode (qx_code 87) 13 = .ok (.iload_n 2, 1) := by decide +kernel
theorem dq_87_14 : decode (qx_code 87) 14 = .ok (.aload_n 0, 1) := by decide +kernel
theorem dq_87_15 : decode (qx_code 87) 15 = .ok (.getfield 27, 3) := by decide +kernel
theorem dq_87_18 : decode (qx_code 87) 18 = .ok (.iload_n 1, 1) := by decide +kernel
theorem dq_87_19 : decode (qx_code 87) 19 = .ok (.iaload, 1) := by decide +kernel
theorem dq_87_20 : decode (qx_code 87) 20 = .ok (.if_icmp .ge 7, 3) := by decide +kernel
theorem dq_87_23 : decode (qx_code 87) 23 = .ok (.iconst 1, 1) := by decide +kernel
theorem dq_87_24 : decode (qx_code 87) 24 = .ok (.goto 4, 3) := by decide +kernel
theorem dq_87_27 : decode (qx_code 87) 27 = .ok (.iconst 0, 1) := by decide +kernel
theorem dq_87_28 : decode (qx_code 87) 28 = .ok (.ireturn, 1) := by decide +kernel
theorem fl_87_27 : qx_fld 87 27 = some (1, 3) := by decide +kernel
theorem dq_94_0 : decode (qx_code 94) 0 = .ok (.bipush 16, 2) := by decide +kernel
theorem dq_94_2 : decode (qx_code 94) 2 = .ok (.iload_n 0, 1) := by decide +kernel
theorem dq_94_3 : decode (qx_code 94) 3 = .ok (.imul, 1) := by decide +kernel
theorem dq_94_4 : decode (qx_code 94) 4 = .ok (.iload_n 1, 1) := by decide +kernel
theorem dq_94_5 : decode (qx_code 94) 5 = .ok (.iadd, 1) := by decide +kernel
theorem dq_94_6 : decode (qx_code 94) 6 = .ok (.bipush 9, 2) := by decide +kernel
theorem dq_94_8 : decode (qx_code 94) 8 = .ok (.imul, 1) := by decide +kernel
theorem dq_94_9 : decode (qx_code 94) 9 = .ok (.aload_n 2, 1) := by decide +kernel
theorem dq_94_10 : decode (qx_code 94) 10 = .ok (.getfield 56, 3) := by decide +kernel
theorem dq_94_13 : decode (qx_code 94) 13 = .ok (.iadd, 1) := by decide +kernel
theorem dq_94_14 : decode (qx_code 94) 14 = .ok (.ireturn, 1) := by decide +kernel
theorem fl_94_56 : qx_fld 94 56 = some (6, 1) := by decide +kernel
theorem dq_93_0 : decode (qx_code 93) 0 = .ok (.aload_n 0, 1) := by decide +kernel
theorem dq_93_1 : decode (qx_code 93) 1 = .ok (.iload_n 1, 1) := by decide +kernel
theorem dq_93_2 : decode (qx_code 93) 2 = .ok (.iload_n 2, 1) := by decide +kernel
theorem dq_93_3 : decode (qx_code 93) 3 = .ok (.invokevirtual 48, 3) := by decide +kernel
theorem dq_93_6 : decode (qx_code 93) 6 = .ok (.ifCond .eq 17, 3) := by decide +kernel
theorem dq_93_9 : decode (qx_code 93) 9 = .ok (.aload_n 0, 1) := by decide +kernel
theorem dq_93_10 : decode (qx_code 93) 10 = .ok (.getfield 36, 3) := by decide +kernel
theorem dq_93_13 : decode (qx_code 93) 13 = .ok (.iload_n 1, 1) := by decide +kernel
theorem dq_93_14 : decode (qx_code 93) 14 = .ok (.iload_n 2, 1) := by decide +kernel
theorem dq_93_15 : decode (qx_code 93) 15 = .ok (.aload_n 3, 1) := by decide +kernel
theorem dq_93_16 : decode (qx_code 93) 16 = .ok (.invokestatic 52, 3) := by decide +kernel
theorem dq_93_19 : decode (qx_code 93) 19 = .ok (.iaload, 1) := by decide +kernel
theorem dq_93_20 : decode (qx_code 93) 20 = .ok (.goto 4, 3) := by decide +kernel
theorem dq_93_23 : decode (qx_code 93) 23 = .ok (.iconst 0, 1) := by decide +kernel
theorem dq_93_24 : decode (qx_code 93) 24 = .ok (.ireturn, 1) := by decide +kernel
theorem mt_93_48 : qx_mth 93 48 = some (87, 2) := by decide +kernel
theorem fl_93_36 : qx_fld 93 36 = some (1, 5) := by decide +kernel
theorem mt_93_52 : qx_mth 93 52 = some (94, 3) := by decide +kernel
theorem dq_110_0 : decode (qx_code 110) 0 = .ok (.aload_n 0, 1) := by decide +kernel
theorem dq_110_1 : decode (qx_code 110) 1 = .ok (.iload_n 1, 1) := by decide +kernel
theorem dq_110_2 : decode (qx_code 110) 2 = .ok (.iload_n 2, 1) := by decide +kernel
theorem dq_110_3 : decode (qx_code 110) 3 = .ok (.aload_n 3, 1) := by decide +kernel
theorem dq_110_4 : decode (qx_code 110) 4 = .ok (.invokevirtual 59, 3) := by decide +kernel
theorem dq_110_7 : decode (qx_code 110) 7 = .ok (.istore 4, 2) := by decide +kernel
theorem dq_110_9 : decode (qx_code 110) 9 = .ok (.iload 4, 2) := by decide +kernel
theorem dq_110_11 : decode (qx_code 110) 11 = .ok (.ifCond .ne 7, 3) := by decide +kernel
theorem dq_110_14 : decode (qx_code 110) 14 = .ok (.iconst 0, 1) := by decide +kernel
theorem dq_110_15 : decode (qx_code 110) 15 = .ok (.goto 12, 3) := by decide +kernel
theorem dq_110_18 : decode (qx_code 110) 18 = .ok (.aload_n 0, 1) := by decide +kernel
theorem dq_110_19 : decode (qx_code 110) 19 = .ok (.getfield 22, 3) := by decide +kernel
theorem dq_110_22 : decode (qx_code 110) 22 = .ok (.iload 4, 2) := by decide +kernel
theorem dq_110_24 : decode (qx_code 110) 24 = .ok (.invokevirtual 62, 3) := by decide +kernel
theorem dq_110_27 : decode (qx_code 110) 27 = .ok (.ireturn, 1) := by decide +kernel
theorem mt_110_59 : qx_mth 110 59 = some (93, 3) := by decide +kernel
theorem fl_110_22 : qx_fld 110 22 = some (1, 1) := by decide +kernel
theorem mt_110_62 : qx_mth 110 62 = some (54, 1) := by decide +kernel
theorem dq_109_0 : decode (qx_code 109) 0 = .ok (.aload_n 0, 1) := by decide +kernel
theorem dq_109_1 : decode (qx_code 109) 1 = .ok (.iload_n 1, 1) := by decide +kernel
theorem dq_109_2 : decode (qx_code 109) 2 = .ok (.iload_n 2, 1) := by decide +kernel
theorem dq_109_3 : decode (qx_code 109) 3 = .ok (.aload_n 3, 1) := by decide +kernel
theorem dq_109_4 : decode (qx_code 109) 4 = .ok (.invokevirtual 68, 3) := by decide +kernel
theorem dq_109_7 : decode (qx_code 109) 7 = .ok (.ireturn, 1) := by decide +kernel
theorem mt_109_68 : qx_mth 109 68 = some (110, 3) := by decide +kernel
theorem dq_113_0 : decode (qx_code 113) 0 = .ok (.iload 4, 2) := by decide +kernel
theorem dq_113_2 : decode (qx_code 113) 2 = .ok (.ifCond .lt 15, 3) := by decide +kernel
theorem dq_113_5 : decode (qx_code 113) 5 = .ok (.iload 4, 2) := by decide +kernel
theorem dq_113_7 : decode (qx_code 113) 7 = .ok (.aload_n 0, 1) := by decide +kernel
theorem dq_113_8 : decode (qx_code 113) 8 = .ok (.iload_n 1, 1) := by decide +kernel
theorem dq_113_9 : decode (qx_code 113) 9 = .ok (.iload_n 2, 1) := by decide +kernel
theorem dq_113_10 : decode (qx_code 113) 10 = .ok (.aload_n 3, 1) := by decide +kernel
theorem dq_113_11 : decode (qx_code 113) 11 = .ok (.invokevirtual 71, 3) := by decide +kernel
theorem dq_113_14 : decode (qx_code 113) 14 = .ok (.if_icmp .lt 5, 3) := by decide +kernel
theorem dq_113_17 : decode (qx_code 113) 17 = .ok (.iconst 0, 1) := by decide +kernel
theorem dq_113_18 : decode (qx_code 113) 18 = .ok (.ireturn, 1) := by decide +kernel
theorem dq_113_19 : decode (qx_code 113) 19 = .ok (.aload_n 0, 1) := by decide +kernel
theorem dq_113_20 : decode (qx_code 113) 20 = .ok (.getfield 22, 3) := by decide +kernel
theorem dq_113_23 : decode (qx_code 113) 23 = .ok (.aload_n 0, 1) := by decide +kernel
theorem dq_113_24 : decode (qx_code 113) 24 = .ok (.iload_n 1, 1) := by decide +kernel
theorem dq_113_25 : decode (qx_code 113) 25 = .ok (.iload_n 2, 1) := by decide +kernel
theorem dq_113_26 : decode (qx_code 113) 26 = .ok (.aload_n 3, 1) := by decide +kernel
theorem dq_113_27 : decode (qx_code 113) 27 = .ok (.invokevirtual 59, 3) := by decide +kernel
theorem dq_113_30 : decode (qx_code 113) 30 = .ok (.iconst 2, 1) := by decide +kernel
theorem dq_113_31 : decode (qx_code 113) 31 = .ok (.iadd, 1) := by decide +kernel
theorem dq_113_32 : decode (qx_code 113) 32 = .ok (.aload_n 3, 1) := by decide +kernel
theorem dq_113_33 : decode (qx_code 113) 33 = .ok (.getfield 74, 3) := by decide +kernel
theorem dq_113_36 : decode (qx_code 113) 36 = .ok (.iload 4, 2) := by decide +kernel
theorem dq_113_38 : decode (qx_code 113) 38 = .ok (.imul, 1) := by decide +kernel
theorem dq_113_39 : decode (qx_code 113) 39 = .ok (.iadd, 1) := by decide +kernel
theorem dq_113_40 : decode (qx_code 113) 40 = .ok (.iload 5, 2) := by decide +kernel
theorem dq_113_42 : decode (qx_code 113) 42 = .ok (.iadd, 1) := by decide +kernel
theorem dq_113_43 : decode (qx_code 113) 43 = .ok (.invokevirtual 62, 3) := by decide +kernel
theorem dq_113_46 : decode (qx_code 113) 46 = .ok (.ireturn, 1) := by decide +kernel
theorem mt_113_71 : qx_mth 113 71 = some (109, 3) := by decide +kernel
theorem fl_113_22 : qx_fld 113 22 = some (1, 1) := by decide +kernel
theorem mt_113_59 : qx_mth 113 59 = some (93, 3) := by decide +kernel
theorem fl_113_74 : qx_fld 113 74 = some (6, 4) := by decide +kernel
theorem mt_113_62 : qx_mth 113 62 = some (54, 1) := by decide +kernel
theorem dq_86_0 : decode (qx_code 86) 0 = .ok (.aload_n 0, 1) := by decide +kernel
theorem dq_86_1 : decode (qx_code 86) 1 = .ok (.iload_n 1, 1) := by decide +kernel
theorem dq_86_2 : decode (qx_code 86) 2 = .ok (.iload_n 2, 1) := by decide +kernel
theorem dq_86_3 : decode (qx_code 86) 3 = .ok (.invokevirtual 48, 3) := by decide +kernel
theorem dq_86_6 : decode (qx_code 86) 6 = .ok (.ifCond .eq 24, 3) := by decide +kernel
theorem dq_86_9 : decode (qx_code 86) 9 = .ok (.aload_n 0, 1) := by decide +kernel
theorem dq_86_10 : decode (qx_code 86) 10 = .ok (.getfield 22, 3) := by decide +kernel
theorem dq_86_13 : decode (qx_code 86) 13 = .ok (.aload_n 0, 1) := by decide +kernel
theorem dq_86_14 : decode (qx_code 86) 14 = .ok (.getfield 31, 3) := by decide +kernel
theorem dq_86_17 : decode (qx_code 86) 17 = .ok (.bipush 16, 2) := by decide +kernel
theorem dq_86_19 : decode (qx_code 86) 19 = .ok (.iload_n 1, 1) := by decide +kernel
theorem dq_86_20 : decode (qx_code 86) 20 = .ok (.imul, 1) := by decide +kernel
theorem dq_86_21 : decode (qx_code 86) 21 = .ok (.iload_n 2, 1) := by decide +kernel
theorem dq_86_22 : decode (qx_code 86) 22 = .ok (.iadd, 1) := by decide +kernel
theorem dq_86_23 : decode (qx_code 86) 23 = .ok (.iaload, 1) := by decide +kernel
theorem dq_86_24 : decode (qx_code 86) 24 = .ok (.invokevirtual 62, 3) := by decide +kernel
theorem dq_86_27 : decode (qx_code 86) 27 = .ok (.goto 4, 3) := by decide +kernel
theorem dq_86_30 : decode (qx_code 86) 30 = .ok (.iconst 0, 1) := by decide +kernel
theorem dq_86_31 : decode (qx_code 86) 31 = .ok (.ireturn, 1) := by decide +kernel
theorem mt_86_48 : qx_mth 86 48 = some (87, 2) := by decide +kernel
theorem fl_86_22 : qx_fld 86 22 = some (1, 1) := by decide +kernel
theorem fl_86_31 : qx_fld 86 31 = some (1, 4) := by decide +kernel
theorem mt_86_62 : qx_mth 86 62 = some (54, 1) := by decide +kernel
theorem dq_89_0 : decode (qx_code 89) 0 = .ok (.aload_n 0, 1) := by decide +kernel
theorem dq_89_1 : decode (qx_code 89) 1 = .ok (.iload_n 1, 1) := by decide +kernel
theorem dq_89_2 : decode (qx_code 89) 2 = .ok (.iload_n 2, 1) := by decide +kernel
theorem dq_89_3 : decode (qx_code 89) 3 = .ok (.invokevirtual 48, 3) := by decide +kernel
theorem dq_89_6 : decode (qx_code 89) 6 = .ok (.ifCond .eq 26, 3) := by decide +kernel
theorem dq_89_9 : decode (qx_code 89) 9 = .ok (.aload_n 0, 1) := by decide +kernel
theorem dq_89_10 : decode (qx_code 89) 10 = .ok (.getfield 22, 3) := by decide +kernel
theorem dq_89_13 : decode (qx_code 89) 13 = .ok (.aload_n 0, 1) := by decide +kernel
theorem dq_89_14 : decode (qx_code 89) 14 = .ok (.getfield 31, 3) := by decide +kernel
theorem dq_89_17 : decode (qx_code 89) 17 = .ok (.bipush 16, 2) := by decide +kernel
theorem dq_89_19 : decode (qx_code 89) 19 = .ok (.iload_n 1, 1) := by decide +kernel
theorem dq_89_20 : decode (qx_code 89) 20 = .ok (.imul, 1) := by decide +kernel
theorem dq_89_21 : decode (qx_code 89) 21 = .ok (.iload_n 2, 1) := by decide +kernel
theorem dq_89_22 : decode (qx_code 89) 22 = .ok (.iadd, 1) := by decide +kernel
theorem dq_89_23 : decode (qx_code 89) 23 = .ok (.iaload, 1) := by decide +kernel
theorem dq_89_24 : decode (qx_code 89) 24 = .ok (.iconst 2, 1) := by decide +kernel
theorem dq_89_25 : decode (qx_code 89) 25 = .ok (.iadd, 1) := by decide +kernel
theorem dq_89_26 : decode (qx_code 89) 26 = .ok (.invokevirtual 62, 3) := by decide +kernel
theorem dq_89_29 : decode (qx_code 89) 29 = .ok (.goto 4, 3) := by decide +kernel
theorem dq_89_32 : decode (qx_code 89) 32 = .ok (.iconst 0, 1) := by decide +kernel
theorem dq_89_33 : decode (qx_code 89) 33 = .ok (.ireturn, 1) := by decide +kernel
theorem mt_89_48 : qx_mth 89 48 = some (87, 2) := by decide +kernel
theorem fl_89_22 : qx_fld 89 22 = some (1, 1) := by decide +kernel
theorem fl_89_31 : qx_fld 89 31 = some (1, 4) := by decide +kernel
theorem mt_89_62 : qx_mth 89 62 = some (54, 1) := by decide +kernel
theorem dq_82_0 : decode (qx_code 82) 0 = .ok (.aload_n 0, 1) := by decide +kernel
theorem dq_82_1 : decode (qx_code 82) 1 = .ok (.getfield 22, 3) := by decide +kernel
theorem dq_82_4 : decode (qx_code 82) 4 = .ok (.aload_n 0, 1) := by decide +kernel
theorem dq_82_5 : decode (qx_code 82) 5 = .ok (.getfield 23, 3) := by decide +kernel
theorem dq_82_8 : decode (qx_code 82) 8 = .ok (.invokevirtual 62, 3) := by decide +kernel
theorem dq_82_11 : decode (qx_code 82) 11 = .ok (.ireturn, 1) := by decide +kernel
theorem fl_82_22 : qx_fld 82 22 = some (1, 1) := by decide +kernel
theorem fl_82_23 : qx_fld 82 23 = some (1, 2) := by decide +kernel
theorem mt_82_62 : qx_mth 82 62 = some (54, 1) := by decide +kernel
theorem dq_75_0 : decode (qx_code 75) 0 = .ok (.aload_n 0, 1) := by decide +kernel
theorem dq_75_1 : decode (qx_code 75) 1 = .ok (.getfield 22, 3) := by decide +kernel
theorem dq_75_4 : decode (qx_code 75) 4 = .ok (.aload_n 0, 1) := by decide +kernel
theorem dq_75_5 : decode (qx_code 75) 5 = .ok (.getfield 23, 3) := by decide +kernel
theorem dq_75_8 : decode (qx_code 75) 8 = .ok (.bipush 6, 2) := by decide +kernel
theorem dq_75_10 : decode (qx_code 75) 10 = .ok (.iadd, 1) := by decide +kernel
theorem dq_75_11 : decode (qx_code 75) 11 = .ok (.invokevirtual 62, 3) := by decide +kernel
theorem dq_75_14 : decode (qx_code 75) 14 = .ok (.ireturn, 1) := by decide +kernel
theorem fl_75_22 : qx_fld 75 22 = some (1, 1) := by decide +kernel
theorem fl_75_23 : qx_fld 75 23 = some (1, 2) := by decide +kernel
theorem mt_75_62 : qx_mth 75 62 = some (54, 1) := by decide +kernel
theorem dq_74_0 : decode (qx_code 74) 0 = .ok (.iload_n 1, 1) := by decide +kernel
theorem dq_74_1 : decode (qx_code 74) 1 = .ok (.ifCond .lt 39, 3) := by decide +kernel
theorem dq_74_4 : decode (qx_code 74) 4 = .ok (.iload_n 1, 1) := by decide +kernel
theorem dq_74_5 : decode (qx_code 74) 5 = .ok (.aload_n 0, 1) := by decide +kernel
theorem dq_74_6 : decode (qx_code 74) 6 = .ok (.invokevirtual 77, 3) := by decide +kernel
theorem dq_74_9 : decode (qx_code 74) 9 = .ok (.if_icmp .ge 31, 3) := by decide +kernel
theorem dq_74_12 : decode (qx_code 74) 12 = .ok (.aload_n 0, 1) := by decide +kernel
theorem dq_74_13 : decode (qx_code 74) 13 = .ok (.getfield 14, 3) := by decide +kernel
theorem dq_74_16 : decode (qx_code 74) 16 = .ok (.aload_n 0, 1) := by decide +kernel
theorem dq_74_17 : decode (qx_code 74) 17 = .ok (.getfield 22, 3) := by decide +kernel
theorem dq_74_20 : decode (qx_code 74) 20 = .ok (.aload_n 0, 1) := by decide +kernel
theorem dq_74_21 : decode (qx_code 74) 21 = .ok (.getfield 23, 3) := by decide +kernel
theorem dq_74_24 : decode (qx_code 74) 24 = .ok (.bipush 8, 2) := by decide +kernel
theorem dq_74_26 : decode (qx_code 74) 26 = .ok (.iadd, 1) := by decide +kernel
theorem dq_74_27 : decode (qx_code 74) 27 = .ok (.iconst 2, 1) := by decide +kernel
theorem dq_74_28 : decode (qx_code 74) 28 = .ok (.iload_n 1, 1) := by decide +kernel
theorem dq_74_29 : decode (qx_code 74) 29 = .ok (.imul, 1) := by decide +kernel
theorem dq_74_30 : decode (qx_code 74) 30 = .ok (.iadd, 1) := by decide +kernel
theorem dq_74_31 : decode (qx_code 74) 31 = .ok (.invokevirtual 62, 3) := by decide +kernel
theorem dq_74_34 : decode (qx_code 74) 34 = .ok (.invokevirtual 81, 3) := by decide +kernel
theorem dq_74_37 : decode (qx_code 74) 37 = .ok (.goto 4, 3) := by decide +kernel
theorem dq_74_40 : decode (qx_code 74) 40 = .ok (.iconst 0, 1) := by decide +kernel
theorem dq_74_41 : decode (qx_code 74) 41 = .ok (.ireturn, 1) := by decide +kernel
theorem mt_74_77 : qx_mth 74 77 = some (75, 0) := by decide +kernel
theorem fl_74_14 : qx_fld 74 14 = some (1, 0) := by decide +kernel
theorem fl_74_22 : qx_fld 74 22 = some (1, 1) := by decide +kernel
theorem fl_74_23 : qx_fld 74 23 = some (1, 2) := by decide +kernel
theorem mt_74_62 : qx_mth 74 62 = some (54, 1) := by decide +kernel
theorem mt_74_81 : qx_mth 74 81 = some (72, 1) := by decide +kernel
theorem dq_108_0 : decode (qx_code 108) 0 = .ok (.iload_n 1, 1) := by decide +kernel
theorem dq_108_1 : decode (qx_code 108) 1 = .ok (.tableswitch 180 0 11 #[63, 73, 78, 88, 93, 100, 107, 117, 127, 137, 144, 162], 63) := by decide +kernel
theorem dq_108_64 : decode (qx_code 108) 64 = .ok (.aload_n 0, 1) := by decide +kernel
theorem dq_108_65 : decode (qx_code 108) 65 = .ok (.getfield 22, 3) := by decide +kernel
theorem dq_108_68 : decode (qx_code 108) 68 = .ok (.bipush 6, 2) := by decide +kernel
theorem dq_108_70 : decode (qx_code 108) 70 = .ok (.invokevirtual 62, 3) := by decide +kernel
theorem dq_108_73 : decode (qx_code 108) 73 = .ok (.ireturn, 1) := by decide +kernel
theorem dq_108_74 : decode (qx_code 108) 74 = .ok (.aload_n 0, 1) := by decide +kernel
theorem dq_108_75 : decode (qx_code 108) 75 = .ok (.invokevirtual 84, 3) := by decide +kernel
theorem dq_108_78 : decode (qx_code 108) 78 = .ok (.ireturn, 1) := by decide +kernel
theorem dq_108_79 : decode (qx_code 108) 79 = .ok (.aload_n 0, 1) := by decide +kernel
theorem dq_108_80 : decode (qx_code 108) 80 = .ok (.getfield 22, 3) := by decide +kernel
theorem dq_108_83 : decode (qx_code 108) 83 = .ok (.bipush 8, 2) := by decide +kernel
theorem dq_108_85 : decode (qx_code 108) 85 = .ok (.invokevirtual 62, 3) := by decide +kernel
theorem dq_108_88 : decode (qx_code 108) 88 = .ok (.ireturn, 1) := by decide +kernel
theorem dq_108_89 : decode (qx_code 108) 89 = .ok (.aload_n 0, 1) := by decide +kernel
theorem dq_108_90 : decode (qx_code 108) 90 = .ok (.invokevirtual 77, 3) := by decide +kernel
theorem dq_108_93 : decode (qx_code 108) 93 = .ok (.ireturn, 1) := by decide +kernel
theorem dq_108_94 : decode (qx_code 108) 94 = .ok (.aload_n 0, 1) := by decide +kernel
theorem dq_108_95 : decode (qx_code 108) 95 = .ok (.getfield 27, 3) := by decide +kernel
theorem dq_108_98 : decode (qx_code 108) 98 = .ok (.iconst 0, 1) := by decide +kernel
theorem dq_108_99 : decode (qx_code 108) 99 = .ok (.iaload, 1) := by decide +kernel
theorem dq_108_100 : decode (qx_code 108) 100 = .ok (.ireturn, 1) := by decide +kernel
theorem dq_108_101 : decode (qx_code 108) 101 = .ok (.aload_n 0, 1) := by decide +kernel
theorem dq_108_102 : decode (qx_code 108) 102 = .ok (.getfield 27, 3) := by decide +kernel
theorem dq_108_105 : decode (qx_code 108) 105 = .ok (.iconst 1, 1) := by decide +kernel
theorem dq_108_106 : decode (qx_code 108) 106 = .ok (.iaload, 1) := by decide +kernel
theorem dq_108_107 : decode (qx_code 108) 107 = .ok (.ireturn, 1) := by decide +kernel
theorem dq_108_108 : decode (qx_code 108) 108 = .ok (.aload_n 0, 1) := by decide +kernel
theorem dq_108_109 : decode (qx_code 108) 109 = .ok (.iconst 3, 1) := by decide +kernel
theorem dq_108_110 : decode (qx_code 108) 110 = .ok (.iconst 0, 1) := by decide +kernel
theorem dq_108_111 : decode (qx_code 108) 111 = .ok (.getstatic 87, 3) := by decide +kernel
theorem dq_108_114 : decode (qx_code 108) 114 = .ok (.invokevirtual 71, 3) := by decide +kernel
theorem dq_108_117 : decode (qx_code 108) 117 = .ok (.ireturn, 1) := by decide +kernel
theorem dq_108_118 : decode (qx_code 108) 118 = .ok (.aload_n 0, 1) := by decide +kernel
theorem dq_108_119 : decode (qx_code 108) 119 = .ok (.iconst 3, 1) := by decide +kernel
theorem dq_108_120 : decode (qx_code 108) 120 = .ok (.iconst 0, 1) := by decide +kernel
theorem dq_108_121 : decode (qx_code 108) 121 = .ok (.getstatic 91, 3) := by decide +kernel
theorem dq_108_124 : decode (qx_code 108) 124 = .ok (.invokevirtual 71, 3) := by decide +kernel
theorem dq_108_127 : decode (qx_code 108) 127 = .ok (.ireturn, 1) := by decide +kernel
theorem dq_108_128 : decode (qx_code 108) 128 = .ok (.aload_n 0, 1) := by decide +kernel
theorem dq_108_129 : decode (qx_code 108) 129 = .ok (.iconst 3, 1) := by decide +kernel
theorem dq_108_130 : decode (qx_code 108) 130 = .ok (.iconst 0, 1) := by decide +kernel
theorem dq_108_131 : decode (qx_code 108) 131 = .ok (.getstatic 94, 3) := by decide +kernel
theorem dq_108_134 : decode (qx_code 108) 134 = .ok (.invokevirtual 71, 3) := by decide +kernel
theorem dq_108_137 : decode (qx_code 108) 137 = .ok (.ireturn, 1) := by decide +kernel
theorem dq_108_138 : decode (qx_code 108) 138 = .ok (.aload_n 0, 1) := by decide +kernel
theorem dq_108_139 : decode (qx_code 108) 139 = .ok (.getfield 27, 3) := by decide +kernel
theorem dq_108_142 : decode (qx_code 108) 142 = .ok (.iconst 2, 1) := by decide +kernel
theorem dq_108_143 : decode (qx_code 108) 143 = .ok (.iaload, 1) := by decide +kernel
theorem dq_108_144 : decode (qx_code 108) 144 = .ok (.ireturn, 1) := by decide +kernel
theorem dq_108_145 : decode (qx_code 108) 145 = .ok (.aload_n 0, 1) := by decide +kernel
theorem dq_108_146 : decode (qx_code 108) 146 = .ok (.iconst 3, 1) := by decide +kernel
theorem dq_108_147 : decode (qx_code 108) 147 = .ok (.iconst 0, 1) := by decide +kernel
theorem dq_108_148 : decode (qx_code 108) 148 = .ok (.getstatic 97, 3) := by decide +kernel
theorem dq_108_151 : decode (qx_code 108) 151 = .ok (.invokevirtual 59, 3) := by decide +kernel
theorem dq_108_154 : decode (qx_code 108) 154 = .ok (.ifCond .ne 7, 3) := by decide +kernel
theorem dq_108_157 : decode (qx_code 108) 157 = .ok (.iconst 0, 1) := by decide +kernel
theorem dq_108_158 : decode (qx_code 108) 158 = .ok (.goto 4, 3) := by decide +kernel
theorem dq_108_161 : decode (qx_code 108) 161 = .ok (.iconst 1, 1) := by decide +kernel
theorem dq_108_162 : decode (qx_code 108) 162 = .ok (.ireturn, 1) := by decide +kernel
theorem dq_108_163 : decode (qx_code 108) 163 = .ok (.aload_n 0, 1) := by decide +kernel
theorem dq_108_164 : decode (qx_code 108) 164 = .ok (.iconst 3, 1) := by decide +kernel
theorem dq_108_165 : decode (qx_code 108) 165 = .ok (.iconst 0, 1) := by decide +kernel
theorem dq_108_166 : decode (qx_code 108) 166 = .ok (.getstatic 100, 3) := by decide +kernel
theorem dq_108_169 : decode (qx_code 108) 169 = .ok (.invokevirtual 59, 3) := by decide +kernel
theorem dq_108_172 : decode (qx_code 108) 172 = .ok (.ifCond .ne 7, 3) := by decide +kernel
theorem dq_108_175 : decode (qx_code 108) 175 = .ok (.iconst 0, 1) := by decide +kernel
theorem dq_108_176 : decode (qx_code 108) 176 = .ok (.goto 4, 3) := by decide +kernel
theorem dq_108_179 : decode (qx_code 108) 179 = .ok (.iconst 1, 1) := by decide +kernel
theorem dq_108_180 : decode (qx_code 108) 180 = .ok (.ireturn, 1) := by decide +kernel
theorem dq_108_181 : decode (qx_code 108) 181 = .ok (.iconst (-1), 1) := by decide +kernel
theorem dq_108_182 : decode (qx_code 108) 182 = .ok (.ireturn, 1) := by decide +kernel
theorem fl_108_22 : qx_fld 108 22 = some (1, 1) := by decide +kernel
theorem mt_108_62 : qx_mth 108 62 = some (54, 1) := by decide +kernel
theorem mt_108_84 : qx_mth 108 84 = some (82, 0) := by decide +kernel
theorem mt_108_77 : qx_mth 108 77 = some (75, 0) := by decide +kernel
theorem fl_108_27 : qx_fld 108 27 = some (1, 3) := by decide +kernel
theorem mt_108_71 : qx_mth 108 71 = some (109, 3) := by decide +kernel
theorem mt_108_59 : qx_mth 108 59 = some (93, 3) := by decide +kernel
theorem dq_112_0 : decode (qx_code 112) 0 = .ok (.iload_n 1, 1) := by decide +kernel
theorem dq_112_1 : decode (qx_code 112) 1 = .ok (.ifCond .eq 8, 3) := by decide +kernel
theorem dq_112_4 : decode (qx_code 112) 4 = .ok (.iload_n 1, 1) := by decide +kernel
theorem dq_112_5 : decode (qx_code 112) 5 = .ok (.iconst 1, 1) := by decide +kernel
theorem dq_112_6 : decode (qx_code 112) 6 = .ok (.if_icmp .ne 37, 3) := by decide +kernel
theorem dq_112_9 : decode (qx_code 112) 9 = .ok (.aload_n 0, 1) := by decide +kernel
theorem dq_112_10 : decode (qx_code 112) 10 = .ok (.iload_n 1, 1) := by decide +kernel
theorem dq_112_11 : decode (qx_code 112) 11 = .ok (.iload_n 2, 1) := by decide +kernel
theorem dq_112_12 : decode (qx_code 112) 12 = .ok (.invokevirtual 48, 3) := by decide +kernel
theorem dq_112_15 : decode (qx_code 112) 15 = .ok (.ifCond .eq 26, 3) := by decide +kernel
theorem dq_112_18 : decode (qx_code 112) 18 = .ok (.aload_n 0, 1) := by decide +kernel
theorem dq_112_19 : decode (qx_code 112) 19 = .ok (.getfield 22, 3) := by decide +kernel
theorem dq_112_22 : decode (qx_code 112) 22 = .ok (.aload_n 0, 1) := by decide +kernel
theorem dq_112_23 : decode (qx_code 112) 23 = .ok (.getfield 31, 3) := by decide +kernel
theorem dq_112_26 : decode (qx_code 112) 26 = .ok (.bipush 16, 2) := by decide +kernel
theorem dq_112_28 : decode (qx_code 112) 28 = .ok (.iload_n 1, 1) := by decide +kernel
theorem dq_112_29 : decode (qx_code 112) 29 = .ok (.imul, 1) := by decide +kernel
theorem dq_112_30 : decode (qx_code 112) 30 = .ok (.iload_n 2, 1) := by decide +kernel
theorem dq_112_31 : decode (qx_code 112) 31 = .ok (.iadd, 1) := by decide +kernel
theorem dq_112_32 : decode (qx_code 112) 32 = .ok (.iaload, 1) := by decide +kernel
theorem dq_112_33 : decode (qx_code 112) 33 = .ok (.iconst 2, 1) := by decide +kernel
theorem dq_112_34 : decode (qx_code 112) 34 = .ok (.isub, 1) := by decide +kernel
theorem dq_112_35 : decode (qx_code 112) 35 = .ok (.invokevirtual 62, 3) := by decide +kernel
theorem dq_112_38 : decode (qx_code 112) 38 = .ok (.goto 4, 3) := by decide +kernel
theorem dq_112_41 : decode (qx_code 112) 41 = .ok (.iconst (-1), 1) := by decide +kernel
theorem dq_112_42 : decode (qx_code 112) 42 = .ok (.ireturn, 1) := by decide +kernel
theorem dq_112_43 : decode (qx_code 112) 43 = .ok (.iload_n 1, 1) := by decide +kernel
theorem dq_112_44 : decode (qx_code 112) 44 = .ok (.iconst 2, 1) := by decide +kernel
theorem dq_112_45 : decode (qx_code 112) 45 = .ok (.if_icmp .ne 20, 3) := by decide +kernel
theorem dq_112_48 : decode (qx_code 112) 48 = .ok (.iload_n 2, 1) := by decide +kernel
theorem dq_112_49 : decode (qx_code 112) 49 = .ok (.ifCond .lt 16, 3) := by decide +kernel
theorem dq_112_52 : decode (qx_code 112) 52 = .ok (.iload_n 2, 1) := by decide +kernel
theorem dq_112_53 : decode (qx_code 112) 53 = .ok (.aload_n 0, 1) := by decide +kernel
theorem dq_112_54 : decode (qx_code 112) 54 = .ok (.iconst 3, 1) := by decide +kernel
theorem dq_112_55 : decode (qx_code 112) 55 = .ok (.iconst 0, 1) := by decide +kernel
theorem dq_112_56 : decode (qx_code 112) 56 = .ok (.getstatic 87, 3) := by decide +kernel
theorem dq_112_59 : decode (qx_code 112) 59 = .ok (.invokevirtual 71, 3) := by decide +kernel
theorem dq_112_62 : decode (qx_code 112) 62 = .ok (.if_icmp .lt 5, 3) := by decide +kernel
theorem dq_112_65 : decode (qx_code 112) 65 = .ok (.iconst (-1), 1) := by decide +kernel
theorem dq_112_66 : decode (qx_code 112) 66 = .ok (.ireturn, 1) := by decide +kernel
theorem dq_112_67 : decode (qx_code 112) 67 = .ok (.aload_n 0, 1) := by decide +kernel
theorem dq_112_68 : decode (qx_code 112) 68 = .ok (.iconst 3, 1) := by decide +kernel
theorem dq_112_69 : decode (qx_code 112) 69 = .ok (.iconst 0, 1) := by decide +kernel
theorem dq_112_70 : decode (qx_code 112) 70 = .ok (.getstatic 87, 3) := by decide +kernel
theorem dq_112_73 : decode (qx_code 112) 73 = .ok (.iload_n 2, 1) := by decide +kernel
theorem dq_112_74 : decode (qx_code 112) 74 = .ok (.bipush 6, 2) := by decide +kernel
theorem dq_112_76 : decode (qx_code 112) 76 = .ok (.invokevirtual 103, 3) := by decide +kernel
theorem dq_112_79 : decode (qx_code 112) 79 = .ok (.ireturn, 1) := by decide +kernel
theorem mt_112_48 : qx_mth 112 48 = some (87, 2) := by decide +kernel
theorem fl_112_22 : qx_fld 112 22 = some (1, 1) := by decide +kernel
theorem fl_112_31 : qx_fld 112 31 = some (1, 4) := by decide +kernel
theorem mt_112_62 : qx_mth 112 62 = some (54, 1) := by decide +kernel
theorem mt_112_71 : qx_mth 112 71 = some (109, 3) := by decide +kernel
theorem mt_112_103 : qx_mth 112 103 = some (113, 5) := by decide +kernel
theorem dq_115_0 : decode (qx_code 115) 0 = .ok (.iload_n 1, 1) := by decide +kernel
theorem dq_115_1 : decode (qx_code 115) 1 = .ok (.tableswitch 197 0 12 #[67, 88, 109, 115, 122, 129, 136, 143, 153, 163, 173, 180, 187], 67) := by decide +kernel
theorem dq_115_68 : decode (qx_code 115) 68 = .ok (.aload_n 0, 1) := by decide +kernel
theorem dq_115_69 : decode (qx_code 115) 69 = .ok (.getfield 14, 3) := by decide +kernel
theorem dq_115_72 : decode (qx_code 115) 72 = .ok (.aload_n 0, 1) := by decide +kernel
theorem dq_115_73 : decode (qx_code 115) 73 = .ok (.getfield 22, 3) := by decide +kernel
theorem dq_115_76 : decode (qx_code 115) 76 = .ok (.aload_n 0, 1) := by decide +kernel
theorem dq_115_77 : decode (qx_code 115) 77 = .ok (.getfield 23, 3) := by decide +kernel
theorem dq_115_80 : decode (qx_code 115) 80 = .ok (.iconst 2, 1) := by decide +kernel
theorem dq_115_81 : decode (qx_code 115) 81 = .ok (.iadd, 1) := by decide +kernel
theorem dq_115_82 : decode (qx_code 115) 82 = .ok (.invokevirtual 62, 3) := by decide +kernel
theorem dq_115_85 : decode (qx_code 115) 85 = .ok (.invokevirtual 81, 3) := by decide +kernel
theorem dq_115_88 : decode (qx_code 115) 88 = .ok (.ireturn, 1) := by decide +kernel
theorem dq_115_89 : decode (qx_code 115) 89 = .ok (.aload_n 0, 1) := by decide +kernel
theorem dq_115_90 : decode (qx_code 115) 90 = .ok (.getfield 14, 3) := by decide +kernel
theorem dq_115_93 : decode (qx_code 115) 93 = .ok (.aload_n 0, 1) := by decide +kernel
theorem dq_115_94 : decode (qx_code 115) 94 = .ok (.getfield 22, 3) := by decide +kernel
theorem dq_115_97 : decode (qx_code 115) 97 = .ok (.aload_n 0, 1) := by decide +kernel
theorem dq_115_98 : decode (qx_code 115) 98 = .ok (.getfield 23, 3) := by decide +kernel
theorem dq_115_101 : decode (qx_code 115) 101 = .ok (.iconst 4, 1) := by decide +kernel
theorem dq_115_102 : decode (qx_code 115) 102 = .ok (.iadd, 1) := by decide +kernel
theorem dq_115_103 : decode (qx_code 115) 103 = .ok (.invokevirtual 62, 3) := by decide +kernel
theorem dq_115_106 : decode (qx_code 115) 106 = .ok (.invokevirtual 81, 3) := by decide +kernel
theorem dq_115_109 : decode (qx_code 115) 109 = .ok (.ireturn, 1) := by decide +kernel
theorem dq_115_110 : decode (qx_code 115) 110 = .ok (.aload_n 0, 1) := by decide +kernel
theorem dq_115_111 : decode (qx_code 115) 111 = .ok (.iload_n 2, 1) := by decide +kernel
theorem dq_115_112 : decode (qx_code 115) 112 = .ok (.invokevirtual 107, 3) := by decide +kernel
theorem dq_115_115 : decode (qx_code 115) 115 = .ok (.ireturn, 1) := by decide +kernel
theorem dq_115_116 : decode (qx_code 115) 116 = .ok (.aload_n 0, 1) := by decide +kernel
theorem dq_115_117 : decode (qx_code 115) 117 = .ok (.iconst 0, 1) := by decide +kernel
theorem dq_115_118 : decode (qx_code 115) 118 = .ok (.iload_n 2, 1) := by decide +kernel
theorem dq_115_119 : decode (qx_code 115) 119 = .ok (.invokevirtual 110, 3) := by decide +kernel
theorem dq_115_122 : decode (qx_code 115) 122 = .ok (.ireturn, 1) := by decide +kernel
theorem dq_115_123 : decode (qx_code 115) 123 = .ok (.aload_n 0, 1) := by decide +kernel
theorem dq_115_124 : decode (qx_code 115) 124 = .ok (.iconst 0, 1) := by decide +kernel
theorem dq_115_125 : decode (qx_code 115) 125 = .ok (.iload_n 2, 1) := by decide +kernel
theorem dq_115_126 : decode (qx_code 115) 126 = .ok (.invokevirtual 114, 3) := by decide +kernel
theorem dq_115_129 : decode (qx_code 115) 129 = .ok (.ireturn, 1) := by decide +kernel
theorem dq_115_130 : decode (qx_code 115) 130 = .ok (.aload_n 0, 1) := by decide +kernel
theorem dq_115_131 : decode (qx_code 115) 131 = .ok (.iconst 1, 1) := by decide +kernel
theorem dq_115_132 : decode (qx_code 115) 132 = .ok (.iload_n 2, 1) := by decide +kernel
theorem dq_115_133 : decode (qx_code 115) 133 = .ok (.invokevirtual 110, 3) := by decide +kernel
theorem dq_115_136 : decode (qx_code 115) 136 = .ok (.ireturn, 1) := by decide +kernel
theorem dq_115_137 : decode (qx_code 115) 137 = .ok (.aload_n 0, 1) := by decide +kernel
theorem dq_115_138 : decode (qx_code 115) 138 = .ok (.iconst 1, 1) := by decide +kernel
theorem dq_115_139 : decode (qx_code 115) 139 = .ok (.iload_n 2, 1) := by decide +kernel
theorem dq_115_140 : decode (qx_code 115) 140 = .ok (.invokevirtual 114, 3) := by decide +kernel
theorem dq_115_143 : decode (qx_code 115) 143 = .ok (.ireturn, 1) := by decide +kernel
theorem dq_115_144 : decode (qx_code 115) 144 = .ok (.aload_n 0, 1) := by decide +kernel
theorem dq_115_145 : decode (qx_code 115) 145 = .ok (.iconst 0, 1) := by decide +kernel
theorem dq_115_146 : decode (qx_code 115) 146 = .ok (.iload_n 2, 1) := by decide +kernel
theorem dq_115_147 : decode (qx_code 115) 147 = .ok (.getstatic 117, 3) := by decide +kernel
theorem dq_115_150 : decode (qx_code 115) 150 = .ok (.invokevirtual 68, 3) := by decide +kernel
theorem dq_115_153 : decode (qx_code 115) 153 = .ok (.ireturn, 1) := by decide +kernel
theorem dq_115_154 : decode (qx_code 115) 154 = .ok (.aload_n 0, 1) := by decide +kernel
theorem dq_115_155 : decode (qx_code 115) 155 = .ok (.iconst 1, 1) := by decide +kernel
theorem dq_115_156 : decode (qx_code 115) 156 = .ok (.iload_n 2, 1) := by decide +kernel
theorem dq_115_157 : decode (qx_code 115) 157 = .ok (.getstatic 117, 3) := by decide +kernel
theorem dq_115_160 : decode (qx_code 115) 160 = .ok (.invokevirtual 68, 3) := by decide +kernel
theorem dq_115_163 : decode (qx_code 115) 163 = .ok (.ireturn, 1) := by decide +kernel
theorem dq_115_164 : decode (qx_code 115) 164 = .ok (.aload_n 0, 1) := by decide +kernel
theorem dq_115_165 : decode (qx_code 115) 165 = .ok (.iconst 3, 1) := by decide +kernel
theorem dq_115_166 : decode (qx_code 115) 166 = .ok (.iconst 0, 1) := by decide +kernel
theorem dq_115_167 : decode (qx_code 115) 167 = .ok (.getstatic 117, 3) := by decide +kernel
theorem dq_115_170 : decode (qx_code 115) 170 = .ok (.invokevirtual 68, 3) := by decide +kernel
theorem dq_115_173 : decode (qx_code 115) 173 = .ok (.ireturn, 1) := by decide +kernel
theorem dq_115_174 : decode (qx_code 115) 174 = .ok (.aload_n 0, 1) := by decide +kernel
theorem dq_115_175 : decode (qx_code 115) 175 = .ok (.iconst 2, 1) := by decide +kernel
theorem dq_115_176 : decode (qx_code 115) 176 = .ok (.iload_n 2, 1) := by decide +kernel
theorem dq_115_177 : decode (qx_code 115) 177 = .ok (.invokevirtual 110, 3) := by decide +kernel
theorem dq_115_180 : decode (qx_code 115) 180 = .ok (.ireturn, 1) := by decide +kernel
theorem dq_115_181 : decode (qx_code 115) 181 = .ok (.aload_n 0, 1) := by decide +kernel
theorem dq_115_182 : decode (qx_code 115) 182 = .ok (.iconst 2, 1) := by decide +kernel
theorem dq_115_183 : decode (qx_code 115) 183 = .ok (.iload_n 2, 1) := by decide +kernel
theorem dq_115_184 : decode (qx_code 115) 184 = .ok (.invokevirtual 114, 3) := by decide +kernel
theorem dq_115_187 : decode (qx_code 115) 187 = .ok (.ireturn, 1) := by decide +kernel
theorem dq_115_188 : decode (qx_code 115) 188 = .ok (.aload_n 0, 1) := by decide +kernel
theorem dq_115_189 : decode (qx_code 115) 189 = .ok (.iconst 2, 1) := by decide +kernel
theorem dq_115_190 : decode (qx_code 115) 190 = .ok (.iload_n 2, 1) := by decide +kernel
theorem dq_115_191 : decode (qx_code 115) 191 = .ok (.getstatic 117, 3) := by decide +kernel
theorem dq_115_194 : decode (qx_code 115) 194 = .ok (.invokevirtual 68, 3) := by decide +kernel
theorem dq_115_197 : decode (qx_code 115) 197 = .ok (.ireturn, 1) := by decide +kernel
theorem dq_115_198 : decode (qx_code 115) 198 = .ok (.aload_n 0, 1) := by decide +kernel
theorem dq_115_199 : decode (qx_code 115) 199 = .ok (.iload_n 1, 1) := by decide +kernel
theorem dq_115_200 : decode (qx_code 115) 200 = .ok (.iload_n 2, 1) := by decide +kernel
theorem dq_115_201 : decode (qx_code 115) 201 = .ok (.invokevirtual 120, 3) := by decide +kernel
theorem dq_115_204 : decode (qx_code 115) 204 = .ok (.ireturn, 1) := by decide +kernel
theorem fl_115_14 : qx_fld 115 14 = some (1, 0) := by decide +kernel
theorem fl_115_22 : qx_fld 115 22 = some (1, 1) := by decide +kernel
theorem fl_115_23 : qx_fld 115 23 = some (1, 2) := by decide +kernel
theorem mt_115_62 : qx_mth 115 62 = some (54, 1) := by decide +kernel
theorem mt_115_81 : qx_mth 115 81 = some (72, 1) := by decide +kernel
theorem mt_115_107 : qx_mth 115 107 = some (74, 1) := by decide +kernel
theorem mt_115_110 : qx_mth 115 110 = some (86, 2) := by decide +kernel
theorem mt_115_114 : qx_mth 115 114 = some (89, 2) := by decide +kernel
theorem mt_115_68 : qx_mth 115 68 = some (110, 3) := by decide +kernel
theorem mt_115_120 : qx_mth 115 120 = some (116, 2) := by decide +kernel
theorem dq_116_0 : decode (qx_code 116) 0 = .ok (.iload_n 1, 1) := by decide +kernel
theorem dq_116_1 : decode (qx_code 116) 1 = .ok (.tableswitch 144 13 18 #[39, 58, 77, 89, 106, 125], 39) := by decide +kernel
theorem dq_116_40 : decode (qx_code 116) 40 = .ok (.aload_n 0, 1) := by decide +kernel
theorem dq_116_41 : decode (qx_code 116) 41 = .ok (.getfield 14, 3) := by decide +kernel
theorem dq_116_44 : decode (qx_code 116) 44 = .ok (.aload_n 0, 1) := by decide +kernel
theorem dq_116_45 : decode (qx_code 116) 45 = .ok (.iconst 3, 1) := by decide +kernel
theorem dq_116_46 : decode (qx_code 116) 46 = .ok (.iconst 0, 1) := by decide +kernel
theorem dq_116_47 : decode (qx_code 116) 47 = .ok (.getstatic 87, 3) := by decide +kernel
theorem dq_116_50 : decode (qx_code 116) 50 = .ok (.iload_n 2, 1) := by decide +kernel
theorem dq_116_51 : decode (qx_code 116) 51 = .ok (.iconst 0, 1) := by decide +kernel
theorem dq_116_52 : decode (qx_code 116) 52 = .ok (.invokevirtual 103, 3) := by decide +kernel
theorem dq_116_55 : decode (qx_code 116) 55 = .ok (.invokevirtual 81, 3) := by decide +kernel
theorem dq_116_58 : decode (qx_code 116) 58 = .ok (.ireturn, 1) := by decide +kernel
theorem dq_116_59 : decode (qx_code 116) 59 = .ok (.aload_n 0, 1) := by decide +kernel
theorem dq_116_60 : decode (qx_code 116) 60 = .ok (.getfield 14, 3) := by decide +kernel
theorem dq_116_63 : decode (qx_code 116) 63 = .ok (.aload_n 0, 1) := by decide +kernel
theorem dq_116_64 : decode (qx_code 116) 64 = .ok (.iconst 3, 1) := by decide +kernel
theorem dq_116_65 : decode (qx_code 116) 65 = .ok (.iconst 0, 1) := by decide +kernel
theorem dq_116_66 : decode (qx_code 116) 66 = .ok (.getstatic 87, 3) := by decide +kernel
theorem dq_116_69 : decode (qx_code 116) 69 = .ok (.iload_n 2, 1) := by decide +kernel
theorem dq_116_70 : decode (qx_code 116) 70 = .ok (.iconst 2, 1) := by decide +kernel
theorem dq_116_71 : decode (qx_code 116) 71 = .ok (.invokevirtual 103, 3) := by decide +kernel
theorem dq_116_74 : decode (qx_code 116) 74 = .ok (.invokevirtual 81, 3) := by decide +kernel
theorem dq_116_77 : decode (qx_code 116) 77 = .ok (.ireturn, 1) := by decide +kernel
theorem dq_116_78 : decode (qx_code 116) 78 = .ok (.aload_n 0, 1) := by decide +kernel
theorem dq_116_79 : decode (qx_code 116) 79 = .ok (.iconst 3, 1) := by decide +kernel
theorem dq_116_80 : decode (qx_code 116) 80 = .ok (.iconst 0, 1) := by decide +kernel
theorem dq_116_81 : decode (qx_code 116) 81 = .ok (.getstatic 87, 3) := by decide +kernel
theorem dq_116_84 : decode (qx_code 116) 84 = .ok (.iload_n 2, 1) := by decide +kernel
theorem dq_116_85 : decode (qx_code 116) 85 = .ok (.iconst 4, 1) := by decide +kernel
theorem dq_116_86 : decode (qx_code 116) 86 = .ok (.invokevirtual 103, 3) := by decide +kernel
theorem dq_116_89 : decode (qx_code 116) 89 = .ok (.ireturn, 1) := by decide +kernel
theorem dq_116_90 : decode (qx_code 116) 90 = .ok (.aload_n 0, 1) := by decide +kernel
theorem dq_116_91 : decode (qx_code 116) 91 = .ok (.getfield 14, 3) := by decide +kernel
theorem dq_116_94 : decode (qx_code 116) 94 = .ok (.aload_n 0, 1) := by decide +kernel
theorem dq_116_95 : decode (qx_code 116) 95 = .ok (.iconst 3, 1) := by decide +kernel
theorem dq_116_96 : decode (qx_code 116) 96 = .ok (.iconst 0, 1) := by decide +kernel
theorem dq_116_97 : decode (qx_code 116) 97 = .ok (.getstatic 123, 3) := by decide +kernel
theorem dq_116_100 : decode (qx_code 116) 100 = .ok (.invokevirtual 68, 3) := by decide +kernel
theorem dq_116_103 : decode (qx_code 116) 103 = .ok (.invokevirtual 81, 3) := by decide +kernel
theorem dq_116_106 : decode (qx_code 116) 106 = .ok (.ireturn, 1) := by decide +kernel
theorem dq_116_107 : decode (qx_code 116) 107 = .ok (.aload_n 0, 1) := by decide +kernel
theorem dq_116_108 : decode (qx_code 116) 108 = .ok (.getfield 14, 3) := by decide +kernel
theorem dq_116_111 : decode (qx_code 116) 111 = .ok (.aload_n 0, 1) := by decide +kernel
theorem dq_116_112 : decode (qx_code 116) 112 = .ok (.iconst 3, 1) := by decide +kernel
theorem dq_116_113 : decode (qx_code 116) 113 = .ok (.iconst 0, 1) := by decide +kernel
theorem dq_116_114 : decode (qx_code 116) 114 = .ok (.getstatic 91, 3) := by decide +kernel
theorem dq_116_117 : decode (qx_code 116) 117 = .ok (.iload_n 2, 1) := by decide +kernel
theorem dq_116_118 : decode (qx_code 116) 118 = .ok (.iconst 0, 1) := by decide +kernel
theorem dq_116_119 : decode (qx_code 116) 119 = .ok (.invokevirtual 103, 3) := by decide +kernel
theorem dq_116_122 : decode (qx_code 116) 122 = .ok (.invokevirtual 81, 3) := by decide +kernel
theorem dq_116_125 : decode (qx_code 116) 125 = .ok (.ireturn, 1) := by decide +kernel
theorem dq_116_126 : decode (qx_code 116) 126 = .ok (.aload_n 0, 1) := by decide +kernel
theorem dq_116_127 : decode (qx_code 116) 127 = .ok (.getfield 14, 3) := by decide +kernel
theorem dq_116_130 : decode (qx_code 116) 130 = .ok (.aload_n 0, 1) := by decide +kernel
theorem dq_116_131 : decode (qx_code 116) 131 = .ok (.iconst 3, 1) := by decide +kernel
theorem dq_116_132 : decode (qx_code 116) 132 = .ok (.iconst 0, 1) := by decide +kernel
theorem dq_116_133 : decode (qx_code 116) 133 = .ok (.getstatic 94, 3) := by decide +kernel
theorem dq_116_136 : decode (qx_code 116) 136 = .ok (.iload_n 2, 1) := by decide +kernel
theorem dq_116_137 : decode (qx_code 116) 137 = .ok (.iconst 0, 1) := by decide +kernel
theorem dq_116_138 : decode (qx_code 116) 138 = .ok (.invokevirtual 103, 3) := by decide +kernel
theorem dq_116_141 : decode (qx_code 116) 141 = .ok (.invokevirtual 81, 3) := by decide +kernel
theorem dq_116_144 : decode (qx_code 116) 144 = .ok (.ireturn, 1) := by decide +kernel
theorem dq_116_145 : decode (qx_code 116) 145 = .ok (.iconst 0, 1) := by decide +kernel
theorem dq_116_146 : decode (qx_code 116) 146 = .ok (.ireturn, 1) := by decide +kernel
theorem fl_116_14 : qx_fld 116 14 = some (1, 0) := by decide +kernel
theorem mt_116_103 : qx_mth 116 103 = some (113, 5) := by decide +kernel
theorem mt_116_81 : qx_mth 116 81 = some (72, 1) := by decide +kernel
theorem mt_116_68 : qx_mth 116 68 = some (110, 3) := by decide +kernel
