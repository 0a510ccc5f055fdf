theorem dq_122_0 : decode (qx_code 122) 0 = .ok (.aload_n 0, 1) := by decide +kernel
theorem dq_122_1 : decode (qx_code 122) 1 = .ok (.invokespecial 1, 3) := by decide +kernel
theorem dq_122_4 : decode (qx_code 122) 4 = .ok (.aload_n 0, 1) := by decide +kernel
theorem dq_122_5 : decode (qx_code 122) 5 = .ok (.sipush 480, 3) := by decide +kernel
theorem dq_122_8 : decode (qx_code 122) 8 = .ok (.newarray .int, 2) := by decide +kernel
theorem dq_122_10 : decode (qx_code 122) 10 = .ok (.putfield 7, 3) := by decide +kernel
theorem dq_122_13 : decode (qx_code 122) 13 = .ok (.aload_n 0, 1) := by decide +kernel
theorem dq_122_14 : decode (qx_code 122) 14 = .ok (.sipush 500, 3) := by decide +kernel
theorem dq_122_17 : decode (qx_code 122) 17 = .ok (.newarray .int, 2) := by decide +kernel
theorem dq_122_19 : decode (qx_code 122) 19 = .ok (.putfield 13, 3) := by decide +kernel
theorem dq_122_22 : decode (qx_code 122) 22 = .ok (.aload_n 0, 1) := by decide +kernel
theorem dq_122_23 : decode (qx_code 122) 23 = .ok (.sipush 500, 3) := by decide +kernel
theorem dq_122_26 : decode (qx_code 122) 26 = .ok (.newarray .int, 2) := by decide +kernel
theorem dq_122_28 : decode (qx_code 122) 28 = .ok (.putfield 16, 3) := by decide +kernel
theorem dq_122_31 : decode (qx_code 122) 31 = .ok (.aload_n 0, 1) := by decide +kernel
theorem dq_122_32 : decode (qx_code 122) 32 = .ok (.sipush 480, 3) := by decide +kernel
theorem dq_122_35 : decode (qx_code 122) 35 = .ok (.newarray .int, 2) := by decide +kernel
theorem dq_122_37 : decode (qx_code 122) 37 = .ok (.putfield 19, 3) := by decide +kernel
theorem dq_122_40 : decode (qx_code 122) 40 = .ok (.aload_n 0, 1) := by decide +kernel
theorem dq_122_41 : decode (qx_code 122) 41 = .ok (.iconst (-1), 1) := by decide +kernel
theorem dq_122_42 : decode (qx_code 122) 42 = .ok (.putfield 22, 3) := by decide +kernel
theorem dq_122_45 : decode (qx_code 122) 45 = .ok (.return_, 1) := by decide +kernel
theorem fl_122_7 : qx_fld 122 7 = some (5, 0) := by decide +kernel
theorem fp_122_7 : qx_fld 122 7 = some (5, 0) ∧ qx_pok 122 7 = true := by decide +kernel
theorem fl_122_13 : qx_fld 122 13 = some (5, 2) := by decide +kernel
theorem fp_122_13 : qx_fld 122 13 = some (5, 2) ∧ qx_pok 122 13 = true := by decide +kernel
theorem fl_122_16 : qx_fld 122 16 = some (5, 3) := by decide +kernel
theorem fp_122_16 : qx_fld 122 16 = some (5, 3) ∧ qx_pok 122 16 = true := by decide +kernel
theorem fl_122_19 : qx_fld 122 19 = some (5, 4) := by decide +kernel
theorem fp_122_19 : qx_fld 122 19 = some (5, 4) ∧ qx_pok 122 19 = true := by decide +kernel
theorem fl_122_22 : qx_fld 122 22 = some (5, 9) := by decide +kernel
theorem fp_122_22 : qx_fld 122 22 = some (5, 9) ∧ qx_pok 122 22 = true := by decide +kernel
theorem dq_123_0 : decode (qx_code 123) 0 = .ok (.iload_n 3, 1) := by decide +kernel
theorem dq_123_1 : decode (qx_code 123) 1 = .ok (.iconst 1, 1) := by decide +kernel
theorem dq_123_2 : decode (qx_code 123) 2 = .ok (.if_icmp .lt 21, 3) := by decide +kernel
theorem dq_123_5 : decode (qx_code 123) 5 = .ok (.iload_n 3, 1) := by decide +kernel
theorem dq_123_6 : decode (qx_code 123) 6 = .ok (.bipush 8, 2) := by decide +kernel
theorem dq_123_8 : decode (qx_code 123) 8 = .ok (.if_icmp .gt 15, 3) := by decide +kernel
theorem dq_123_11 : decode (qx_code 123) 11 = .ok (.aload_n 0, 1) := by decide +kernel
theorem dq_123_12 : decode (qx_code 123) 12 = .ok (.getfield 26, 3) := by decide +kernel
theorem dq_123_15 : decode (qx_code 123) 15 = .ok (.iload_n 3, 1) := by decide +kernel
theorem dq_123_16 : decode (qx_code 123) 16 = .ok (.iadd, 1) := by decide +kernel
theorem dq_123_17 : decode (qx_code 123) 17 = .ok (.sipush 480, 3) := by decide +kernel
theorem dq_123_20 : decode (qx_code 123) 20 = .ok (.if_icmp .le 5, 3) := by decide +kernel
theorem dq_123_23 : decode (qx_code 123) 23 = .ok (.iconst (-1), 1) := by decide +kernel
theorem dq_123_24 : decode (qx_code 123) 24 = .ok (.ireturn, 1) := by decide +kernel
theorem dq_123_25 : decode (qx_code 123) 25 = .ok (.iload_n 3, 1) := by decide +kernel
theorem dq_123_26 : decode (qx_code 123) 26 = .ok (.iconst 1, 1) := by decide +kernel
theorem dq_123_27 : decode (qx_code 123) 27 = .ok (.isub, 1) := by decide +kernel
theorem dq_123_28 : decode (qx_code 123) 28 = .ok (.istore 4, 2) := by decide +kernel
theorem dq_123_30 : decode (qx_code 123) 30 = .ok (.iload 4, 2) := by decide +kernel
theorem dq_123_32 : decode (qx_code 123) 32 = .ok (.ifCond .lt 40, 3) := by decide +kernel
theorem dq_123_35 : decode (qx_code 123) 35 = .ok (.aload_n 0, 1) := by decide +kernel
theorem dq_123_36 : decode (qx_code 123) 36 = .ok (.getfield 7, 3) := by decide +kernel
theorem dq_123_39 : decode (qx_code 123) 39 = .ok (.aload_n 0, 1) := by decide +kernel
theorem dq_123_40 : decode (qx_code 123) 40 = .ok (.getfield 26, 3) := by decide +kernel
theorem dq_123_43 : decode (qx_code 123) 43 = .ok (.lload_n 1, 1) := by decide +kernel
theorem dq_123_44 : decode (qx_code 123) 44 = .ok (.bipush 8, 2) := by decide +kernel
theorem dq_123_46 : decode (qx_code 123) 46 = .ok (.iload 4, 2) := by decide +kernel
theorem dq_123_48 : decode (qx_code 123) 48 = .ok (.imul, 1) := by decide +kernel
theorem dq_123_49 : decode (qx_code 123) 49 = .ok (.lshr, 1) := by decide +kernel
theorem dq_123_50 : decode (qx_code 123) 50 = .ok (.ldc2_w 29, 3) := by decide +kernel
theorem dq_123_53 : decode (qx_code 123) 53 = .ok (.land, 1) := by decide +kernel
theorem dq_123_54 : decode (qx_code 123) 54 = .ok (.l2i, 1) := by decide +kernel
theorem dq_123_55 : decode (qx_code 123) 55 = .ok (.iastore, 1) := by decide +kernel
theorem dq_123_56 : decode (qx_code 123) 56 = .ok (.aload_n 0, 1) := by decide +kernel
theorem dq_123_57 : decode (qx_code 123) 57 = .ok (.dup, 1) := by decide +kernel
theorem dq_123_58 : decode (qx_code 123) 58 = .ok (.getfield 26, 3) := by decide +kernel
theorem dq_123_61 : decode (qx_code 123) 61 = .ok (.iconst 1, 1) := by decide +kernel
theorem dq_123_62 : decode (qx_code 123) 62 = .ok (.iadd, 1) := by decide +kernel
theorem dq_123_63 : decode (qx_code 123) 63 = .ok (.putfield 26, 3) := by decide +kernel
theorem dq_123_66 : decode (qx_code 123) 66 = .ok (.iinc 4 (-1), 3) := by decide +kernel
theorem dq_123_69 : decode (qx_code 123) 69 = .ok (.goto (-39), 3) := by decide +kernel
theorem dq_123_72 : decode (qx_code 123) 72 = .ok (.aload_n 0, 1) := by decide +kernel
theorem dq_123_73 : decode (qx_code 123) 73 = .ok (.getfield 26, 3) := by decide +kernel
theorem dq_123_76 : decode (qx_code 123) 76 = .ok (.ireturn, 1) := by decide +kernel
theorem fl_123_26 : qx_fld 123 26 = some (5, 1) := by decide +kernel
theorem fl_123_7 : qx_fld 123 7 = some (5, 0) := by decide +kernel
theorem fp_123_26 : qx_fld 123 26 = some (5, 1) ∧ qx_pok 123 26 = true := by decide +kernel
theorem dq_124_0 : decode (qx_code 124) 0 = .ok (.iload_n 1, 1) := by decide +kernel
theorem dq_124_1 : decode (qx_code 124) 1 = .ok (.ifCond .lt 22, 3) := by decide +kernel
theorem dq_124_4 : decode (qx_code 124) 4 = .ok (.iload_n 1, 1) := by decide +kernel
theorem dq_124_5 : decode (qx_code 124) 5 = .ok (.aload_n 0, 1) := by decide +kernel
theorem dq_124_6 : decode (qx_code 124) 6 = .ok (.getfield 26, 3) := by decide +kernel
theorem dq_124_9 : decode (qx_code 124) 9 = .ok (.if_icmp .ge 14, 3) := by decide +kernel
theorem dq_124_12 : decode (qx_code 124) 12 = .ok (.iload_n 2, 1) := by decide +kernel
theorem dq_124_13 : decode (qx_code 124) 13 = .ok (.ifCond .lt 10, 3) := by decide +kernel
theorem dq_124_16 : decode (qx_code 124) 16 = .ok (.iload_n 2, 1) := by decide +kernel
theorem dq_124_17 : decode (qx_code 124) 17 = .ok (.sipush 255, 3) := by decide +kernel
theorem dq_124_20 : decode (qx_code 124) 20 = .ok (.if_icmp .le 5, 3) := by decide +kernel
theorem dq_124_23 : decode (qx_code 124) 23 = .ok (.iconst (-1), 1) := by decide +kernel
theorem dq_124_24 : decode (qx_code 124) 24 = .ok (.ireturn, 1) := by decide +kernel
theorem dq_124_25 : decode (qx_code 124) 25 = .ok (.aload_n 0, 1) := by decide +kernel
theorem dq_124_26 : decode (qx_code 124) 26 = .ok (.getfield 7, 3) := by decide +kernel
theorem dq_124_29 : decode (qx_code 124) 29 = .ok (.iload_n 1, 1) := by decide +kernel
theorem dq_124_30 : decode (qx_code 124) 30 = .ok (.iaload, 1) := by decide +kernel
theorem dq_124_31 : decode (qx_code 124) 31 = .ok (.istore_n 3, 1) := by decide +kernel
theorem dq_124_32 : decode (qx_code 124) 32 = .ok (.aload_n 0, 1) := by decide +kernel
theorem dq_124_33 : decode (qx_code 124) 33 = .ok (.getfield 7, 3) := by decide +kernel
theorem dq_124_36 : decode (qx_code 124) 36 = .ok (.iload_n 1, 1) := by decide +kernel
theorem dq_124_37 : decode (qx_code 124) 37 = .ok (.iload_n 2, 1) := by decide +kernel
theorem dq_124_38 : decode (qx_code 124) 38 = .ok (.iastore, 1) := by decide +kernel
theorem dq_124_39 : decode (qx_code 124) 39 = .ok (.iload_n 3, 1) := by decide +kernel
theorem dq_124_40 : decode (qx_code 124) 40 = .ok (.ireturn, 1) := by decide +kernel
theorem fl_124_26 : qx_fld 124 26 = some (5, 1) := by decide +kernel
theorem fl_124_7 : qx_fld 124 7 = some (5, 0) := by decide +kernel
theorem dq_125_0 : decode (qx_code 125) 0 = .ok (.aload_n 0, 1) := by decide +kernel
theorem dq_125_1 : decode (qx_code 125) 1 = .ok (.getfield 26, 3) := by decide +kernel
theorem dq_125_4 : decode (qx_code 125) 4 = .ok (.istore_n 1, 1) := by decide +kernel
theorem dq_125_5 : decode (qx_code 125) 5 = .ok (.aload_n 0, 1) := by decide +kernel
theorem dq_125_6 : decode (qx_code 125) 6 = .ok (.iconst 0, 1) := by decide +kernel
theorem dq_125_7 : decode (qx_code 125) 7 = .ok (.putfield 26, 3) := by decide +kernel
theorem dq_125_10 : decode (qx_code 125) 10 = .ok (.iload_n 1, 1) := by decide +kernel
theorem dq_125_11 : decode (qx_code 125) 11 = .ok (.ireturn, 1) := by decide +kernel
theorem fl_125_26 : qx_fld 125 26 = some (5, 1) := by decide +kernel
theorem fp_125_26 : qx_fld 125 26 = some (5, 1) ∧ qx_pok 125 26 = true := by decide +kernel
theorem dq_126_0 : decode (qx_code 126) 0 = .ok (.aload_n 0, 1) := by decide +kernel
theorem dq_126_1 : decode (qx_code 126) 1 = .ok (.iconst 0, 1) := by decide +kernel
theorem dq_126_2 : decode (qx_code 126) 2 = .ok (.putfield 31, 3) := by decide +kernel
theorem dq_126_5 : decode (qx_code 126) 5 = .ok (.aload_n 0, 1) := by decide +kernel
theorem dq_126_6 : decode (qx_code 126) 6 = .ok (.iconst 0, 1) := by decide +kernel
theorem dq_126_7 : decode (qx_code 126) 7 = .ok (.putfield 119, 3) := by decide +kernel
theorem dq_126_10 : decode (qx_code 126) 10 = .ok (.aload_n 0, 1) := by decide +kernel
theorem dq_126_11 : decode (qx_code 126) 11 = .ok (.iconst 0, 1) := by decide +kernel
theorem dq_126_12 : decode (qx_code 126) 12 = .ok (.putfield 116, 3) := by decide +kernel
theorem dq_126_15 : decode (qx_code 126) 15 = .ok (.aload_n 0, 1) := by decide +kernel
theorem dq_126_16 : decode (qx_code 126) 16 = .ok (.iconst (-1), 1) := by decide +kernel
theorem dq_126_17 : decode (qx_code 126) 17 = .ok (.putfield 22, 3) := by decide +kernel
theorem dq_126_20 : decode (qx_code 126) 20 = .ok (.iconst 0, 1) := by decide +kernel
theorem dq_126_21 : decode (qx_code 126) 21 = .ok (.istore_n 1, 1) := by decide +kernel
theorem dq_126_22 : decode (qx_code 126) 22 = .ok (.iload_n 1, 1) := by decide +kernel
theorem dq_126_23 : decode (qx_code 126) 23 = .ok (.bipush 100, 2) := by decide +kernel
theorem dq_126_25 : decode (qx_code 126) 25 = .ok (.if_icmp .ge 16, 3) := by decide +kernel
theorem dq_126_28 : decode (qx_code 126) 28 = .ok (.aload_n 0, 1) := by decide +kernel
theorem dq_126_29 : decode (qx_code 126) 29 = .ok (.getfield 13, 3) := by decide +kernel
theorem dq_126_32 : decode (qx_code 126) 32 = .ok (.iload_n 1, 1) := by decide +kernel
theorem dq_126_33 : decode (qx_code 126) 33 = .ok (.iconst 0, 1) := by decide +kernel
theorem dq_126_34 : decode (qx_code 126) 34 = .ok (.iastore, 1) := by decide +kernel
theorem dq_126_35 : decode (qx_code 126) 35 = .ok (.iinc 1 1, 3) := by decide +kernel
theorem dq_126_38 : decode (qx_code 126) 38 = .ok (.goto (-16), 3) := by decide +kernel
theorem dq_126_41 : decode (qx_code 126) 41 = .ok (.aload_n 0, 1) := by decide +kernel
theorem dq_126_42 : decode (qx_code 126) 42 = .ok (.invokevirtual 246, 3) := by decide +kernel
theorem dq_126_45 : decode (qx_code 126) 45 = .ok (.aload_n 0, 1) := by decide +kernel
theorem dq_126_46 : decode (qx_code 126) 46 = .ok (.getfield 116, 3) := by decide +kernel
theorem dq_126_49 : decode (qx_code 126) 49 = .ok (.ifCond .eq 8, 3) := by decide +kernel
theorem dq_126_52 : decode (qx_code 126) 52 = .ok (.aload_n 0, 1) := by decide +kernel
theorem dq_126_53 : decode (qx_code 126) 53 = .ok (.getfield 116, 3) := by decide +kernel
theorem dq_126_56 : decode (qx_code 126) 56 = .ok (.ireturn, 1) := by decide +kernel
theorem dq_126_57 : decode (qx_code 126) 57 = .ok (.aload_n 0, 1) := by decide +kernel
theorem dq_126_58 : decode (qx_code 126) 58 = .ok (.iconst 1, 1) := by decide +kernel
theorem dq_126_59 : decode (qx_code 126) 59 = .ok (.putfield 249, 3) := by decide +kernel
theorem dq_126_62 : decode (qx_code 126) 62 = .ok (.iconst 0, 1) := by decide +kernel
theorem dq_126_63 : decode (qx_code 126) 63 = .ok (.istore_n 1, 1) := by decide +kernel
theorem dq_126_64 : decode (qx_code 126) 64 = .ok (.iload_n 1, 1) := by decide +kernel
theorem dq_126_65 : decode (qx_code 126) 65 = .ok (.sipush 500, 3) := by decide +kernel
theorem dq_126_68 : decode (qx_code 126) 68 = .ok (.if_icmp .ge 21, 3) := by decide +kernel
theorem dq_126_71 : decode (qx_code 126) 71 = .ok (.aload_n 0, 1) := by decide +kernel
theorem dq_126_72 : decode (qx_code 126) 72 = .ok (.getfield 16, 3) := by decide +kernel
theorem dq_126_75 : decode (qx_code 126) 75 = .ok (.iload_n 1, 1) := by decide +kernel
theorem dq_126_76 : decode (qx_code 126) 76 = .ok (.aload_n 0, 1) := by decide +kernel
theorem dq_126_77 : decode (qx_code 126) 77 = .ok (.getfield 13, 3) := by decide +kernel
theorem dq_126_80 : decode (qx_code 126) 80 = .ok (.iload_n 1, 1) := by decide +kernel
theorem dq_126_81 : decode (qx_code 126) 81 = .ok (.iaload, 1) := by decide +kernel
theorem dq_126_82 : decode (qx_code 126) 82 = .ok (.iastore, 1) := by decide +kernel
theorem dq_126_83 : decode (qx_code 126) 83 = .ok (.iinc 1 1, 3) := by decide +kernel
theorem dq_126_86 : decode (qx_code 126) 86 = .ok (.goto (-22), 3) := by decide +kernel
theorem dq_126_89 : decode (qx_code 126) 89 = .ok (.iconst 0, 1) := by decide +kernel
theorem dq_126_90 : decode (qx_code 126) 90 = .ok (.istore_n 1, 1) := by decide +kernel
theorem dq_126_91 : decode (qx_code 126) 91 = .ok (.iload_n 1, 1) := by decide +kernel
theorem dq_126_92 : decode (qx_code 126) 92 = .ok (.aload_n 0, 1) := by decide +kernel
theorem dq_126_93 : decode (qx_code 126) 93 = .ok (.getfield 26, 3) := by decide +kernel
theorem dq_126_96 : decode (qx_code 126) 96 = .ok (.if_icmp .ge 21, 3) := by decide +kernel
theorem dq_126_99 : decode (qx_code 126) 99 = .ok (.aload_n 0, 1) := by decide +kernel
theorem dq_126_100 : decode (qx_code 126) 100 = .ok (.getfield 19, 3) := by decide +kernel
theorem dq_126_103 : decode (qx_code 126) 103 = .ok (.iload_n 1, 1) := by decide +kernel
theorem dq_126_104 : decode (qx_code 126) 104 = .ok (.aload_n 0, 1) := by decide +kernel
theorem dq_126_105 : decode (qx_code 126) 105 = .ok (.getfield 7, 3) := by decide +kernel
theorem dq_126_108 : decode (qx_code 126) 108 = .ok (.iload_n 1, 1) := by decide +kernel
theorem dq_126_109 : decode (qx_code 126) 109 = .ok (.iaload, 1) := by decide +kernel
theorem dq_126_110 : decode (qx_code 126) 110 = .ok (.iastore, 1) := by decide +kernel
theorem dq_126_111 : decode (qx_code 126) 111 = .ok (.iinc 1 1, 3) := by decide +kernel
theorem dq_126_114 : decode (qx_code 126) 114 = .ok (.goto (-23), 3) := by decide +kernel
theorem dq_126_117 : decode (qx_code 126) 117 = .ok (.iconst 0, 1) := by decide +kernel
theorem dq_126_118 : decode (qx_code 126) 118 = .ok (.ireturn, 1) := by decide +kernel
theorem fl_126_31 : qx_fld 126 31 = some (5, 6) := by decide +kernel
theorem fp_126_31 : qx_fld 126 31 = some (5, 6) ∧ qx_pok 126 31 = true := by decide +kernel
theorem fl_126_119 : qx_fld 126 119 = some (5, 7) := by decide +kernel
theorem fp_126_119 : qx_fld 126 119 = some (5, 7) ∧ qx_pok 126 119 = true := by decide +kernel
theorem fl_126_116 : qx_fld 126 116 = some (5, 8) := by decide +kernel
theorem fp_126_116 : qx_fld 126 116 = some (5, 8) ∧ qx_pok 126 116 = true := by decide +kernel
theorem fl_126_22 : qx_fld 126 22 = some (5, 9) := by decide +kernel
theorem fp_126_22 : qx_fld 126 22 = some (5, 9) ∧ qx_pok 126 22 = true := by decide +kernel
theorem fl_126_13 : qx_fld 126 13 = some (5, 2) := by decide +kernel
theorem mt_126_246 : qx_mth 126 246 = some (127, 0) := by decide +kernel
theorem fl_126_249 : qx_fld 126 249 = some (5, 5) := by decide +kernel
theorem fp_126_249 : qx_fld 126 249 = some (5, 5) ∧ qx_pok 126 249 = true := by decide +kernel
theorem fl_126_16 : qx_fld 126 16 = some (5, 3) := by decide +kernel
theorem fl_126_26 : qx_fld 126 26 = some (5, 1) := by decide +kernel
theorem fl_126_19 : qx_fld 126 19 = some (5, 4) := by decide +kernel
theorem fl_126_7 : qx_fld 126 7 = some (5, 0) := by decide +kernel
theorem dq_127_0 : decode (qx_code 127) 0 = .ok (.aload_n 0, 1) := by decide +kernel
theorem dq_127_1 : decode (qx_code 127) 1 = .ok (.invokevirtual 144, 3) := by decide +kernel
theorem dq_127_4 : decode (qx_code 127) 4 = .ok (.ldc2_w 232, 3) := by decide +kernel
theorem dq_127_7 : decode (qx_code 127) 7 = .ok (.lcmp, 1) := by decide +kernel
theorem dq_127_8 : decode (qx_code 127) 8 = .ok (.ifCond .eq 9, 3) := by decide +kernel
theorem dq_127_11 : decode (qx_code 127) 11 = .ok (.aload_n 0, 1) := by decide +kernel
theorem dq_127_12 : decode (qx_code 127) 12 = .ok (.iconst 2, 1) := by decide +kernel
theorem dq_127_13 : decode (qx_code 127) 13 = .ok (.iconst 0, 1) := by decide +kernel
theorem dq_127_14 : decode (qx_code 127) 14 = .ok (.invokevirtual 122, 3) := by decide +kernel
theorem dq_127_17 : decode (qx_code 127) 17 = .ok (.aload_n 0, 1) := by decide +kernel
theorem dq_127_18 : decode (qx_code 127) 18 = .ok (.invokevirtual 134, 3) := by decide +kernel
theorem dq_127_21 : decode (qx_code 127) 21 = .ok (.istore_n 1, 1) := by decide +kernel
theorem dq_127_22 : decode (qx_code 127) 22 = .ok (.aload_n 0, 1) := by decide +kernel
theorem dq_127_23 : decode (qx_code 127) 23 = .ok (.getfield 119, 3) := by decide +kernel
theorem dq_127_26 : decode (qx_code 127) 26 = .ok (.istore_n 1, 1) := by decide +kernel
theorem dq_127_27 : decode (qx_code 127) 27 = .ok (.aload_n 0, 1) := by decide +kernel
theorem dq_127_28 : decode (qx_code 127) 28 = .ok (.getfield 13, 3) := by decide +kernel
theorem dq_127_31 : decode (qx_code 127) 31 = .ok (.iconst 0, 1) := by decide +kernel
theorem dq_127_32 : decode (qx_code 127) 32 = .ok (.aload_n 0, 1) := by decide +kernel
theorem dq_127_33 : decode (qx_code 127) 33 = .ok (.invokevirtual 134, 3) := by decide +kernel
theorem dq_127_36 : decode (qx_code 127) 36 = .ok (.iastore, 1) := by decide +kernel
theorem dq_127_37 : decode (qx_code 127) 37 = .ok (.aload_n 0, 1) := by decide +kernel
theorem dq_127_38 : decode (qx_code 127) 38 = .ok (.getfield 13, 3) := by decide +kernel
theorem dq_127_41 : decode (qx_code 127) 41 = .ok (.iconst 0, 1) := by decide +kernel
theorem dq_127_42 : decode (qx_code 127) 42 = .ok (.iaload, 1) := by decide +kernel
theorem dq_127_43 : decode (qx_code 127) 43 = .ok (.bipush 45, 2) := by decide +kernel
theorem dq_127_45 : decode (qx_code 127) 45 = .ok (.if_icmp .lt 14, 3) := by decide +kernel
theorem dq_127_48 : decode (qx_code 127) 48 = .ok (.aload_n 0, 1) := by decide +kernel
theorem dq_127_49 : decode (qx_code 127) 49 = .ok (.getfield 13, 3) := by decide +kernel
theorem dq_127_52 : decode (qx_code 127) 52 = .ok (.iconst 0, 1) := by decide +kernel
theorem dq_127_53 : decode (qx_code 127) 53 = .ok (.iaload, 1) := by decide +kernel
theorem dq_127_54 : decode (qx_code 127) 54 = .ok (.bipush 65, 2) := by decide +kernel
theorem dq_127_56 : decode (qx_code 127) 56 = .ok (.if_icmp .le 9, 3) := by decide +kernel
theorem dq_127_59 : decode (qx_code 127) 59 = .ok (.aload_n 0, 1) := by decide +kernel
theorem dq_127_60 : decode (qx_code 127) 60 = .ok (.iconst 3, 1) := by decide +kernel
theorem dq_127_61 : decode (qx_code 127) 61 = .ok (.iload_n 1, 1) := by decide +kernel
theorem dq_127_62 : decode (qx_code 127) 62 = .ok (.invokevirtual 122, 3) := by decide +kernel
theorem dq_127_65 : decode (qx_code 127) 65 = .ok (.aload_n 0, 1) := by decide +kernel
theorem dq_127_66 : decode (qx_code 127) 66 = .ok (.getfield 119, 3) := by decide +kernel
theorem dq_127_69 : decode (qx_code 127) 69 = .ok (.istore_n 1, 1) := by decide +kernel
theorem dq_127_70 : decode (qx_code 127) 70 = .ok (.aload_n 0, 1) := by decide +kernel
theorem dq_127_71 : decode (qx_code 127) 71 = .ok (.getfield 13, 3) := by decide +kernel
theorem dq_127_74 : decode (qx_code 127) 74 = .ok (.iconst 2, 1) := by decide +kernel
theorem dq_127_75 : decode (qx_code 127) 75 = .ok (.aload_n 0, 1) := by decide +kernel
theorem dq_127_76 : decode (qx_code 127) 76 = .ok (.invokevirtual 134, 3) := by decide +kernel
theorem dq_127_79 : decode (qx_code 127) 79 = .ok (.iastore, 1) := by decide +kernel
theorem dq_127_80 : decode (qx_code 127) 80 = .ok (.aload_n 0, 1) := by decide +kernel
theorem dq_127_81 : decode (qx_code 127) 81 = .ok (.getfield 13, 3) := by decide +kernel
theorem dq_127_84 : decode (qx_code 127) 84 = .ok (.iconst 2, 1) := by decide +kernel
theorem dq_127_85 : decode (qx_code 127) 85 = .ok (.iaload, 1) := by decide +kernel
theorem dq_127_86 : decode (qx_code 127) 86 = .ok (.iconst 1, 1) := by decide +kernel
theorem dq_127_87 : decode (qx_code 127) 87 = .ok (.if_icmp .lt 14, 3) := by decide +kernel
theorem dq_127_90 : decode (qx_code 127) 90 = .ok (.aload_n 0, 1) := by decide +kernel
theorem dq_127_91 : decode (qx_code 127) 91 = .ok (.getfield 13, 3) := by decide +kernel
theorem dq_127_94 : decode (qx_code 127) 94 = .ok (.iconst 2, 1) := by decide +kernel
theorem dq_127_95 : decode (qx_code 127) 95 = .ok (.iaload, 1) := by decide +kernel
theorem dq_127_96 : decode (qx_code 127) 96 = .ok (.bipush 64, 2) := by decide +kernel
theorem dq_127_98 : decode (qx_code 127) 98 = .ok (.if_icmp .le 9, 3) := by decide +kernel
theorem dq_127_101 : decode (qx_code 127) 101 = .ok (.aload_n 0, 1) := by decide +kernel
theorem dq_127_102 : decode (qx_code 127) 102 = .ok (.iconst 4, 1) := by decide +kernel
theorem dq_127_103 : decode (qx_code 127) 103 = .ok (.iload_n 1, 1) := by decide +kernel
theorem dq_127_104 : decode (qx_code 127) 104 = .ok (.invokevirtual 122, 3) := by decide +kernel
theorem dq_127_107 : decode (qx_code 127) 107 = .ok (.aload_n 0, 1) := by decide +kernel
theorem dq_127_108 : decode (qx_code 127) 108 = .ok (.getfield 116, 3) := by decide +kernel
theorem dq_127_111 : decode (qx_code 127) 111 = .ok (.ifCond .ne 7, 3) := by decide +kernel
theorem dq_127_114 : decode (qx_code 127) 114 = .ok (.aload_n 0, 1) := by decide +kernel
theorem dq_127_115 : decode (qx_code 127) 115 = .ok (.invokevirtual 234, 3) := by decide +kernel
theorem dq_127_118 : decode (qx_code 127) 118 = .ok (.aload_n 0, 1) := by decide +kernel
theorem dq_127_119 : decode (qx_code 127) 119 = .ok (.getfield 119, 3) := by decide +kernel
theorem dq_127_122 : decode (qx_code 127) 122 = .ok (.istore_n 1, 1) := by decide +kernel
theorem dq_127_123 : decode (qx_code 127) 123 = .ok (.aload_n 0, 1) := by decide +kernel
theorem dq_127_124 : decode (qx_code 127) 124 = .ok (.getfield 13, 3) := by decide +kernel
theorem dq_127_127 : decode (qx_code 127) 127 = .ok (.iconst 1, 1) := by decide +kernel
theorem dq_127_128 : decode (qx_code 127) 128 = .ok (.aload_n 0, 1) := by decide +kernel
theorem dq_127_129 : decode (qx_code 127) 129 = .ok (.invokevirtual 134, 3) := by decide +kernel
theorem dq_127_132 : decode (qx_code 127) 132 = .ok (.iastore, 1) := by decide +kernel
theorem dq_127_133 : decode (qx_code 127) 133 = .ok (.aload_n 0, 1) := by decide +kernel
theorem dq_127_134 : decode (qx_code 127) 134 = .ok (.getfield 13, 3) := by decide +kernel
theorem dq_127_137 : decode (qx_code 127) 137 = .ok (.iconst 1, 1) := by decide +kernel
theorem dq_127_138 : decode (qx_code 127) 138 = .ok (.iaload, 1) := by decide +kernel
theorem dq_127_139 : decode (qx_code 127) 139 = .ok (.invokestatic 237, 3) := by decide +kernel
theorem dq_127_142 : decode (qx_code 127) 142 = .ok (.ifCond .eq 10, 3) := by decide +kernel
theorem dq_127_145 : decode (qx_code 127) 145 = .ok (.aload_n 0, 1) := by decide +kernel
theorem dq_127_146 : decode (qx_code 127) 146 = .ok (.bipush 6, 2) := by decide +kernel
theorem dq_127_148 : decode (qx_code 127) 148 = .ok (.iload_n 1, 1) := by decide +kernel
theorem dq_127_149 : decode (qx_code 127) 149 = .ok (.invokevirtual 122, 3) := by decide +kernel
theorem dq_127_152 : decode (qx_code 127) 152 = .ok (.aload_n 0, 1) := by decide +kernel
theorem dq_127_153 : decode (qx_code 127) 153 = .ok (.getfield 13, 3) := by decide +kernel
theorem dq_127_156 : decode (qx_code 127) 156 = .ok (.iconst 3, 1) := by decide +kernel
theorem dq_127_157 : decode (qx_code 127) 157 = .ok (.aload_n 0, 1) := by decide +kernel
theorem dq_127_158 : decode (qx_code 127) 158 = .ok (.invokevirtual 177, 3) := by decide +kernel
theorem dq_127_161 : decode (qx_code 127) 161 = .ok (.iastore, 1) := by decide +kernel
theorem dq_127_162 : decode (qx_code 127) 162 = .ok (.aload_n 0, 1) := by decide +kernel
theorem dq_127_163 : decode (qx_code 127) 163 = .ok (.getfield 13, 3) := by decide +kernel
theorem dq_127_166 : decode (qx_code 127) 166 = .ok (.iconst 4, 1) := by decide +kernel
theorem dq_127_167 : decode (qx_code 127) 167 = .ok (.aload_n 0, 1) := by decide +kernel
theorem dq_127_168 : decode (qx_code 127) 168 = .ok (.iconst 1, 1) := by decide +kernel
theorem dq_127_169 : decode (qx_code 127) 169 = .ok (.invokevirtual 183, 3) := by decide +kernel
theorem dq_127_172 : decode (qx_code 127) 172 = .ok (.iastore, 1) := by decide +kernel
theorem dq_127_173 : decode (qx_code 127) 173 = .ok (.aload_n 0, 1) := by decide +kernel
theorem dq_127_174 : decode (qx_code 127) 174 = .ok (.invokevirtual 240, 3) := by decide +kernel
theorem dq_127_177 : decode (qx_code 127) 177 = .ok (.aload_n 0, 1) := by decide +kernel
theorem dq_127_178 : decode (qx_code 127) 178 = .ok (.bipush 100, 2) := by decide +kernel
theorem dq_127_180 : decode (qx_code 127) 180 = .ok (.bipush 13, 2) := by decide +kernel
theorem dq_127_182 : decode (qx_code 127) 182 = .ok (.invokevirtual 243, 3) := by decide +kernel
theorem dq_127_185 : decode (qx_code 127) 185 = .ok (.aload_n 0, 1) := by decide +kernel
theorem dq_127_186 : decode (qx_code 127) 186 = .ok (.sipush 230, 3) := by decide +kernel
theorem dq_127_189 : decode (qx_code 127) 189 = .ok (.bipush 14, 2) := by decide +kernel
theorem dq_127_191 : decode (qx_code 127) 191 = .ok (.invokevirtual 243, 3) := by decide +kernel
theorem dq_127_194 : decode (qx_code 127) 194 = .ok (.aload_n 0, 1) := by decide +kernel
theorem dq_127_195 : decode (qx_code 127) 195 = .ok (.getfield 116, 3) := by decide +kernel
theorem dq_127_198 : decode (qx_code 127) 198 = .ok (.ifCond .ne 9, 3) := by decide +kernel
theorem dq_127_201 : decode (qx_code 127) 201 = .ok (.aload_n 0, 1) := by decide +kernel
theorem dq_127_202 : decode (qx_code 127) 202 = .ok (.iconst 0, 1) := by decide +kernel
theorem dq_127_203 : decode (qx_code 127) 203 = .ok (.iconst 0, 1) := by decide +kernel
theorem dq_127_204 : decode (qx_code 127) 204 = .ok (.invokevirtual 201, 3) := by decide +kernel
theorem dq_127_207 : decode (qx_code 127) 207 = .ok (.aload_n 0, 1) := by decide +kernel
theorem dq_127_208 : decode (qx_code 127) 208 = .ok (.getfield 119, 3) := by decide +kernel
theorem dq_127_211 : decode (qx_code 127) 211 = .ok (.aload_n 0, 1) := by decide +kernel
theorem dq_127_212 : decode (qx_code 127) 212 = .ok (.getfield 26, 3) := by decide +kernel
theorem dq_127_215 : decode (qx_code 127) 215 = .ok (.if_icmp .ge 13, 3) := by decide +kernel
theorem dq_127_218 : decode (qx_code 127) 218 = .ok (.aload_n 0, 1) := by decide +kernel
theorem dq_127_219 : decode (qx_code 127) 219 = .ok (.bipush 11, 2) := by decide +kernel
theorem dq_127_221 : decode (qx_code 127) 221 = .ok (.aload_n 0, 1) := by decide +kernel
theorem dq_127_222 : decode (qx_code 127) 222 = .ok (.getfield 119, 3) := by decide +kernel
theorem dq_127_225 : decode (qx_code 127) 225 = .ok (.invokevirtual 122, 3) := by decide +kernel
theorem dq_127_228 : decode (qx_code 127) 228 = .ok (.return_, 1) := by decide +kernel
theorem mt_127_144 : qx_mth 127 144 = some (128, 0) := by decide +kernel
theorem mt_127_122 : qx_mth 127 122 = some (130, 2) := by decide +kernel
theorem mt_127_134 : qx_mth 127 134 = some (131, 0) := by decide +kernel
theorem fl_127_119 : qx_fld 127 119 = some (5, 7) := by decide +kernel
theorem fl_127_13 : qx_fld 127 13 = some (5, 2) := by decide +kernel
theorem fl_127_116 : qx_fld 127 116 = some (5, 8) := by decide +kernel
theorem mt_127_234 : qx_mth 127 234 = some (132, 0) := by decide +kernel
theorem mt_127_237 : qx_mth 127 237 = some (153, 1) := by decide +kernel
theorem mt_127_177 : qx_mth 127 177 = some (155, 0) := by decide +kernel
theorem mt_127_183 : qx_mth 127 183 = some (156, 1) := by decide +kernel
theorem mt_127_240 : qx_mth 127 240 = some (158, 0) := by decide +kernel
theorem mt_127_243 : qx_mth 127 243 = some (160, 2) := by decide +kernel
theorem mt_127_201 : qx_mth 127 201 = some (166, 2) := by decide +kernel
theorem fl_127_26 : qx_fld 127 26 = some (5, 1) := by decide +kernel
theorem dq_128_0 : decode (qx_code 128) 0 = .ok (.aload_n 0, 1) := by decide +kernel
theorem dq_128_1 : decode (qx_code 128) 1 = .ok (.ldc2_w 132, 3) := by decide +kernel
theorem dq_128_4 : decode (qx_code 128) 4 = .ok (.invokevirtual 126, 3) := by decide +kernel
theorem dq_128_7 : decode (qx_code 128) 7 = .ok (.ifCond .ne 5, 3) := by decide +kernel
theorem dq_128_10 : decode (qx_code 128) 10 = .ok (.lconst 0, 1) := by decide +kernel
theorem dq_128_11 : decode (qx_code 128) 11 = .ok (.lreturn, 1) := by decide +kernel
theorem dq_128_12 : decode (qx_code 128) 12 = .ok (.aload_n 0, 1) := by decide +kernel
theorem dq_128_13 : decode (qx_code 128) 13 = .ok (.dup, 1) := by decide +kernel
theorem dq_128_14 : decode (qx_code 128) 14 = .ok (.getfield 119, 3) := by decide +kernel
theorem dq_128_17 : decode (qx_code 128) 17 = .ok (.iconst 4, 1) := by decide +kernel
theorem dq_128_18 : decode (qx_code 128) 18 = .ok (.iadd, 1) := by decide +kernel
theorem dq_128_19 : decode (qx_code 128) 19 = .ok (.putfield 119, 3) := by decide +kernel
theorem dq_128_22 : decode (qx_code 128) 22 = .ok (.aload_n 0, 1) := by decide +kernel
theorem dq_128_23 : decode (qx_code 128) 23 = .ok (.getfield 7, 3) := by decide +kernel
theorem dq_128_26 : decode (qx_code 128) 26 = .ok (.aload_n 0, 1) := by decide +kernel
theorem dq_128_27 : decode (qx_code 128) 27 = .ok (.getfield 119, 3) := by decide +kernel
theorem dq_128_30 : decode (qx_code 128) 30 = .ok (.iconst 4, 1) := by decide +kernel
theorem dq_128_31 : decode (qx_code 128) 31 = .ok (.isub, 1) := by decide +kernel
theorem dq_128_32 : decode (qx_code 128) 32 = .ok (.iaload, 1) := by decide +kernel
theorem dq_128_33 : decode (qx_code 128) 33 = .ok (.i2l, 1) := by decide +kernel
theorem dq_128_34 : decode (qx_code 128) 34 = .ok (.bipush 24, 2) := by decide +kernel
theorem dq_128_36 : decode (qx_code 128) 36 = .ok (.lshl, 1) := by decide +kernel
theorem dq_128_37 : decode (qx_code 128) 37 = .ok (.aload_n 0, 1) := by decide +kernel
theorem dq_128_38 : decode (qx_code 128) 38 = .ok (.getfield 7, 3) := by decide +kernel
theorem dq_128_41 : decode (qx_code 128) 41 = .ok (.aload_n 0, 1) := by decide +kernel
theorem dq_128_42 : decode (qx_code 128) 42 = .ok (.getfield 119, 3) := by decide +kernel
theorem dq_128_45 : decode (qx_code 128) 45 = .ok (.iconst 3, 1) := by decide +kernel
theorem dq_128_46 : decode (qx_code 128) 46 = .ok (.isub, 1) := by decide +kernel
theorem dq_128_47 : decode (qx_code 128) 47 = .ok (.iaload, 1) := by decide +kernel
theorem dq_128_48 : decode (qx_code 128) 48 = .ok (.bipush 16, 2) := by decide +kernel
theorem dq_128_50 : decode (qx_code 128) 50 = .ok (.ishl, 1) := by decide +kernel
theorem dq_128_51 : decode (qx_code 128) 51 = .ok (.i2l, 1) := by decide +kernel
theorem dq_128_52 : decode (qx_code 128) 52 = .ok (.ladd, 1) := by decide +kernel
theorem dq_128_53 : decode (qx_code 128) 53 = .ok (.aload_n 0, 1) := by decide +kernel
theorem dq_128_54 : decode (qx_code 128) 54 = .ok (.getfield 7, 3) := by decide +kernel
theorem dq_128_57 : decode (qx_code 128) 57 = .ok (.aload_n 0, 1) := by decide +kernel
theorem dq_128_58 : decode (qx_code 128) 58 = .ok (.getfield 119, 3) := by decide +kernel
theorem dq_128_61 : decode (qx_code 128) 61 = .ok (.iconst 2, 1) := by decide +kernel
theorem dq_128_62 : decode (qx_code 128) 62 = .ok (.isub, 1) := by decide +kernel
theorem dq_128_63 : decode (qx_code 128) 63 = .ok (.iaload, 1) := by decide +kernel
theorem dq_128_64 : decode (qx_code 128) 64 = .ok (.bipush 8, 2) := by decide +kernel
theorem dq_128_66 : decode (qx_code 128) 66 = .ok (.ishl, 1) := by decide +kernel
theorem dq_128_67 : decode (qx_code 128) 67 = .ok (.i2l, 1) := by decide +kernel
theorem dq_128_68 : decode (qx_code 128) 68 = .ok (.ladd, 1) := by decide +kernel
theorem dq_128_69 : decode (qx_code 128) 69 = .ok (.aload_n 0, 1) := by decide +kernel
theorem dq_128_70 : decode (qx_code 128) 70 = .ok (.getfield 7, 3) := by decide +kernel
theorem dq_128_73 : decode (qx_code 128) 73 = .ok (.aload_n 0, 1) := by decide +kernel
theorem dq_128_74 : decode (qx_code 128) 74 = .ok (.getfield 119, 3) := by decide +kernel
theorem dq_128_77 : decode (qx_code 128) 77 = .ok (.iconst 1, 1) := by decide +kernel
theorem dq_128_78 : decode (qx_code 128) 78 = .ok (.isub, 1) := by decide +kernel
theorem dq_128_79 : decode (qx_code 128) 79 = .ok (.iaload, 1) := by decide +kernel
theorem dq_128_80 : decode (qx_code 128) 80 = .ok (.i2l, 1) := by decide +kernel
theorem dq_128_81 : decode (qx_code 128) 81 = .ok (.ladd, 1) := by decide +kernel
theorem dq_128_82 : decode (qx_code 128) 82 = .ok (.lreturn, 1) := by decide +kernel
theorem mt_128_126 : qx_mth 128 126 = some (129, 1) := by decide +kernel
theorem fl_128_119 : qx_fld 128 119 = some (5, 7) := by decide +kernel
theorem fp_128_119 : qx_fld 128 119 = some (5, 7) ∧ qx_pok 128 119 = true := by decide +kernel
theorem fl_128_7 : qx_fld 128 7 = some (5, 0) := by decide +kernel
theorem dq_129_0 : decode (qx_code 129) 0 = .ok (.aload_n 0, 1) := by decide +kernel
theorem dq_129_1 : decode (qx_code 129) 1 = .ok (.getfield 116, 3) := by decide +kernel
theorem dq_129_4 : decode (qx_code 129) 4 = .ok (.ifCond .ne 27, 3) := by decide +kernel
theorem dq_129_7 : decode (qx_code 129) 7 = .ok (.lload_n 1, 1) := by decide +kernel
theorem dq_129_8 : decode (qx_code 129) 8 = .ok (.aload_n 0, 1) := by decide +kernel
theorem dq_129_9 : decode (qx_code 129) 9 = .ok (.getfield 26, 3) := by decide +kernel
theorem dq_129_12 : decode (qx_code 129) 12 = .ok (.aload_n 0, 1) := by decide +kernel
theorem dq_129_13 : decode (qx_code 129) 13 = .ok (.getfield 119, 3) := by decide +kernel
theorem dq_129_16 : decode (qx_code 129) 16 = .ok (.isub, 1) := by decide +kernel
theorem dq_129_17 : decode (qx_code 129) 17 = .ok (.i2l, 1) := by decide +kernel
theorem dq_129_18 : decode (qx_code 129) 18 = .ok (.lcmp, 1) := by decide +kernel
theorem dq_129_19 : decode (qx_code 129) 19 = .ok (.ifCond .le 12, 3) := by decide +kernel
theorem dq_129_22 : decode (qx_code 129) 22 = .ok (.aload_n 0, 1) := by decide +kernel
theorem dq_129_23 : decode (qx_code 129) 23 = .ok (.iconst 1, 1) := by decide +kernel
theorem dq_129_24 : decode (qx_code 129) 24 = .ok (.aload_n 0, 1) := by decide +kernel
theorem dq_129_25 : decode (qx_code 129) 25 = .ok (.getfield 26, 3) := by decide +kernel
theorem dq_129_28 : decode (qx_code 129) 28 = .ok (.invokevirtual 122, 3) := by decide +kernel
theorem dq_129_31 : decode (qx_code 129) 31 = .ok (.aload_n 0, 1) := by decide +kernel
theorem dq_129_32 : decode (qx_code 129) 32 = .ok (.getfield 116, 3) := by decide +kernel
theorem dq_129_35 : decode (qx_code 129) 35 = .ok (.ifCond .ne 7, 3) := by decide +kernel
theorem dq_129_38 : decode (qx_code 129) 38 = .ok (.iconst 1, 1) := by decide +kernel
theorem dq_129_39 : decode (qx_code 129) 39 = .ok (.goto 4, 3) := by decide +kernel
theorem dq_129_42 : decode (qx_code 129) 42 = .ok (.iconst 0, 1) := by decide +kernel
theorem dq_129_43 : decode (qx_code 129) 43 = .ok (.ireturn, 1) := by decide +kernel
theorem fl_129_116 : qx_fld 129 116 = some (5, 8) := by decide +kernel
theorem fl_129_26 : qx_fld 129 26 = some (5, 1) := by decide +kernel
theorem fl_129_119 : qx_fld 129 119 = some (5, 7) := by decide +kernel
theorem mt_129_122 : qx_mth 129 122 = some (130, 2) := by decide +kernel
theorem dq_130_0 : decode (qx_code 130) 0 = .ok (.aload_n 0, 1) := by decide +kernel
theorem dq_130_1 : decode (qx_code 130) 1 = .ok (.getfield 116, 3) := by decide +kernel
theorem dq_130_4 : decode (qx_code 130) 4 = .ok (.ifCond .eq 4, 3) := by decide +kernel
theorem dq_130_7 : decode (qx_code 130) 7 = .ok (.return_, 1) := by decide +kernel
theorem dq_130_8 : decode (qx_code 130) 8 = .ok (.aload_n 0, 1) := by decide +kernel
theorem dq_130_9 : decode (qx_code 130) 9 = .ok (.iload_n 1, 1) := by decide +kernel
theorem dq_130_10 : decode (qx_code 130) 10 = .ok (.putfield 116, 3) := by decide +kernel
theorem dq_130_13 : decode (qx_code 130) 13 = .ok (.aload_n 0, 1) := by decide +kernel
theorem dq_130_14 : decode (qx_code 130) 14 = .ok (.iload_n 2, 1) := by decide +kernel
theorem dq_130_15 : decode (qx_code 130) 15 = .ok (.putfield 22, 3) := by decide +kernel
theorem dq_130_18 : decode (qx_code 130) 18 = .ok (.return_, 1) := by decide +kernel
theorem fl_130_116 : qx_fld 130 116 = some (5, 8) := by decide +kernel
theorem fp_130_116 : qx_fld 130 116 = some (5, 8) ∧ qx_pok 130 116 = true := by decide +kernel
theorem fl_130_22 : qx_fld 130 22 = some (5, 9) := by decide +kernel
theorem fp_130_22 : qx_fld 130 22 = some (5, 9) ∧ qx_pok 130 22 = true := by decide +kernel
theorem dq_131_0 : decode (qx_code 131) 0 = .ok (.aload_n 0, 1) := by decide +kernel
theorem dq_131_1 : decode (qx_code 131) 1 = .ok (.ldc2_w 130, 3) := by decide +kernel
theorem dq_131_4 : decode (qx_code 131) 4 = .ok (.invokevirtual 126, 3) := by decide +kernel
theorem dq_131_7 : decode (qx_code 131) 7 = .ok (.ifCond .ne 5, 3) := by decide +kernel
theorem dq_131_10 : decode (qx_code 131) 10 = .ok (.iconst 0, 1) := by decide +kernel
theorem dq_131_11 : decode (qx_code 131) 11 = .ok (.ireturn, 1) := by decide +kernel
theorem dq_131_12 : decode (qx_code 131) 12 = .ok (.aload_n 0, 1) := by decide +kernel
theorem dq_131_13 : decode (qx_code 131) 13 = .ok (.dup, 1) := by decide +kernel
theorem dq_131_14 : decode (qx_code 131) 14 = .ok (.getfield 119, 3) := by decide +kernel
theorem dq_131_17 : decode (qx_code 131) 17 = .ok (.iconst 2, 1) := by decide +kernel
theorem dq_131_18 : decode (qx_code 131) 18 = .ok (.iadd, 1) := by decide +kernel
theorem dq_131_19 : decode (qx_code 131) 19 = .ok (.putfield 119, 3) := by decide +kernel
theorem dq_131_22 : decode (qx_code 131) 22 = .ok (.aload_n 0, 1) := by decide +kernel
theorem dq_131_23 : decode (qx_code 131) 23 = .ok (.getfield 7, 3) := by decide +kernel
theorem dq_131_26 : decode (qx_code 131) 26 = .ok (.aload_n 0, 1) := by decide +kernel
theorem dq_131_27 : decode (qx_code 131) 27 = .ok (.getfield 119, 3) := by decide +kernel
theorem dq_131_30 : decode (qx_code 131) 30 = .ok (.iconst 2, 1) := by decide +kernel
theorem dq_131_31 : decode (qx_code 131) 31 = .ok (.isub, 1) := by decide +kernel
theorem dq_131_32 : decode (qx_code 131) 32 = .ok (.iaload, 1) := by decide +kernel
theorem dq_131_33 : decode (qx_code 131) 33 = .ok (.sipush 256, 3) := by decide +kernel
theorem dq_131_36 : decode (qx_code 131) 36 = .ok (.imul, 1) := by decide +kernel
theorem dq_131_37 : decode (qx_code 131) 37 = .ok (.aload_n 0, 1) := by decide +kernel
theorem dq_131_38 : decode (qx_code 131) 38 = .ok (.getfield 7, 3) := by decide +kernel
theorem dq_131_41 : decode (qx_code 131) 41 = .ok (.aload_n 0, 1) := by decide +kernel
theorem dq_131_42 : decode (qx_code 131) 42 = .ok (.getfield 119, 3) := by decide +kernel
theorem dq_131_45 : decode (qx_code 131) 45 = .ok (.iconst 1, 1) := by decide +kernel
theorem dq_131_46 : decode (qx_code 131) 46 = .ok (.isub, 1) := by decide +kernel
theorem dq_131_47 : decode (qx_code 131) 47 = .ok (.iaload, 1) := by decide +kernel
theorem dq_131_48 : decode (qx_code 131) 48 = .ok (.iadd, 1) := by decide +kernel
theorem dq_131_49 : decode (qx_code 131) 49 = .ok (.ireturn, 1) := by decide +kernel
theorem mt_131_126 : qx_mth 131 126 = some (129, 1) := by decide +kernel
theorem fl_131_119 : qx_fld 131 119 = some (5, 7) := by decide +kernel
theorem fp_131_119 : qx_fld 131 119 = some (5, 7) ∧ qx_pok 131 119 = true := by decide +kernel
theorem fl_131_7 : qx_fld 131 7 = some (5, 0) := by decide +kernel
theorem dq_132_0 : decode (qx_code 132) 0 = .ok (.iconst 1, 1) := by decide +kernel
theorem dq_132_1 : decode (qx_code 132) 1 = .ok (.istore_n 1, 1) := by decide +kernel
theorem dq_132_2 : decode (qx_code 132) 2 = .ok (.iload_n 1, 1) := by decide +kernel
theorem dq_132_3 : decode (qx_code 132) 3 = .ok (.aload_n 0, 1) := by decide +kernel
theorem dq_132_4 : decode (qx_code 132) 4 = .ok (.getfield 13, 3) := by decide +kernel
theorem dq_132_7 : decode (qx_code 132) 7 = .ok (.iconst 2, 1) := by decide +kernel
theorem dq_132_8 : decode (qx_code 132) 8 = .ok (.iaload, 1) := by decide +kernel
theorem dq_132_9 : decode (qx_code 132) 9 = .ok (.if_icmp .ge 19, 3) := by decide +kernel
theorem dq_132_12 : decode (qx_code 132) 12 = .ok (.aload_n 0, 1) := by decide +kernel
theorem dq_132_13 : decode (qx_code 132) 13 = .ok (.getfield 116, 3) := by decide +kernel
theorem dq_132_16 : decode (qx_code 132) 16 = .ok (.ifCond .ne 12, 3) := by decide +kernel
theorem dq_132_19 : decode (qx_code 132) 19 = .ok (.aload_n 0, 1) := by decide +kernel
theorem dq_132_20 : decode (qx_code 132) 20 = .ok (.iload_n 1, 1) := by decide +kernel
theorem dq_132_21 : decode (qx_code 132) 21 = .ok (.invokevirtual 166, 3) := by decide +kernel
theorem dq_132_24 : decode (qx_code 132) 24 = .ok (.istore_n 1, 1) := by decide +kernel
theorem dq_132_25 : decode (qx_code 132) 25 = .ok (.goto (-23), 3) := by decide +kernel
theorem dq_132_28 : decode (qx_code 132) 28 = .ok (.iconst 1, 1) := by decide +kernel
theorem dq_132_29 : decode (qx_code 132) 29 = .ok (.istore_n 2, 1) := by decide +kernel
theorem dq_132_30 : decode (qx_code 132) 30 = .ok (.iload_n 2, 1) := by decide +kernel
theorem dq_132_31 : decode (qx_code 132) 31 = .ok (.aload_n 0, 1) := by decide +kernel
theorem dq_132_32 : decode (qx_code 132) 32 = .ok (.getfield 13, 3) := by decide +kernel
theorem dq_132_35 : decode (qx_code 132) 35 = .ok (.iconst 2, 1) := by decide +kernel
theorem dq_132_36 : decode (qx_code 132) 36 = .ok (.iaload, 1) := by decide +kernel
theorem dq_132_37 : decode (qx_code 132) 37 = .ok (.if_icmp .ge 21, 3) := by decide +kernel
theorem dq_132_40 : decode (qx_code 132) 40 = .ok (.aload_n 0, 1) := by decide +kernel
theorem dq_132_41 : decode (qx_code 132) 41 = .ok (.getfield 116, 3) := by decide +kernel
theorem dq_132_44 : decode (qx_code 132) 44 = .ok (.ifCond .ne 14, 3) := by decide +kernel
theorem dq_132_47 : decode (qx_code 132) 47 = .ok (.aload_n 0, 1) := by decide +kernel
theorem dq_132_48 : decode (qx_code 132) 48 = .ok (.iload_n 2, 1) := by decide +kernel
theorem dq_132_49 : decode (qx_code 132) 49 = .ok (.invokevirtual 169, 3) := by decide +kernel
theorem dq_132_52 : decode (qx_code 132) 52 = .ok (.iinc 2 1, 3) := by decide +kernel
theorem dq_132_55 : decode (qx_code 132) 55 = .ok (.goto (-25), 3) := by decide +kernel
theorem dq_132_58 : decode (qx_code 132) 58 = .ok (.return_, 1) := by decide +kernel
theorem fl_132_13 : qx_fld 132 13 = some (5, 2) := by decide +kernel
theorem fl_132_116 : qx_fld 132 116 = some (5, 8) := by decide +kernel
theorem mt_132_166 : qx_mth 132 166 = some (133, 1) := by decide +kernel
theorem mt_132_169 : qx_mth 132 169 = some (135, 1) := by decide +kernel
theorem dq_133_0 : decode (qx_code 133) 0 = .ok (.aload_n 0, 1) := by decide +kernel
theorem dq_133_1 : decode (qx_code 133) 1 = .ok (.getfield 13, 3) := by decide +kernel
theorem dq_133_4 : decode (qx_code 133) 4 = .ok (.bipush 20, 2) := by decide +kernel
theorem dq_133_6 : decode (qx_code 133) 6 = .ok (.iload_n 1, 1) := by decide +kernel
theorem dq_133_7 : decode (qx_code 133) 7 = .ok (.iadd, 1) := by decide +kernel
theorem dq_133_8 : decode (qx_code 133) 8 = .ok (.aload_n 0, 1) := by decide +kernel
theorem dq_133_9 : decode (qx_code 133) 9 = .ok (.getfield 119, 3) := by decide +kernel
theorem dq_133_12 : decode (qx_code 133) 12 = .ok (.iastore, 1) := by decide +kernel
theorem dq_133_13 : decode (qx_code 133) 13 = .ok (.aload_n 0, 1) := by decide +kernel
theorem dq_133_14 : decode (qx_code 133) 14 = .ok (.getfield 119, 3) := by decide +kernel
theorem dq_133_17 : decode (qx_code 133) 17 = .ok (.istore_n 2, 1) := by decide +kernel
theorem dq_133_18 : decode (qx_code 133) 18 = .ok (.aload_n 0, 1) := by decide +kernel
theorem dq_133_19 : decode (qx_code 133) 19 = .ok (.invokevirtual 141, 3) := by decide +kernel
theorem dq_133_22 : decode (qx_code 133) 22 = .ok (.istore_n 3, 1) := by decide +kernel
theorem dq_133_23 : decode (qx_code 133) 23 = .ok (.iload_n 3, 1) := by decide +kernel
theorem dq_133_24 : decode (qx_code 133) 24 = .ok (.iconst 1, 1) := by decide +kernel
theorem dq_133_25 : decode (qx_code 133) 25 = .ok (.if_icmp .ne 72, 3) := by decide +kernel
theorem dq_133_28 : decode (qx_code 133) 28 = .ok (.aload_n 0, 1) := by decide +kernel
theorem dq_133_29 : decode (qx_code 133) 29 = .ok (.invokevirtual 134, 3) := by decide +kernel
theorem dq_133_32 : decode (qx_code 133) 32 = .ok (.istore 4, 2) := by decide +kernel
theorem dq_133_34 : decode (qx_code 133) 34 = .ok (.iconst 0, 1) := by decide +kernel
theorem dq_133_35 : decode (qx_code 133) 35 = .ok (.istore 5, 2) := by decide +kernel
theorem dq_133_37 : decode (qx_code 133) 37 = .ok (.iload 5, 2) := by decide +kernel
theorem dq_133_39 : decode (qx_code 133) 39 = .ok (.iload 4, 2) := by decide +kernel
theorem dq_133_41 : decode (qx_code 133) 41 = .ok (.if_icmp .ge 53, 3) := by decide +kernel
theorem dq_133_44 : decode (qx_code 133) 44 = .ok (.aload_n 0, 1) := by decide +kernel
theorem dq_133_45 : decode (qx_code 133) 45 = .ok (.getfield 116, 3) := by decide +kernel
theorem dq_133_48 : decode (qx_code 133) 48 = .ok (.ifCond .ne 46, 3) := by decide +kernel
theorem dq_133_51 : decode (qx_code 133) 51 = .ok (.aload_n 0, 1) := by decide +kernel
theorem dq_133_52 : decode (qx_code 133) 52 = .ok (.invokevirtual 141, 3) := by decide +kernel
theorem dq_133_55 : decode (qx_code 133) 55 = .ok (.istore 6, 2) := by decide +kernel
theorem dq_133_57 : decode (qx_code 133) 57 = .ok (.aload_n 0, 1) := by decide +kernel
theorem dq_133_58 : decode (qx_code 133) 58 = .ok (.getfield 116, 3) := by decide +kernel
theorem dq_133_61 : decode (qx_code 133) 61 = .ok (.ifCond .ne 27, 3) := by decide +kernel
theorem dq_133_64 : decode (qx_code 133) 64 = .ok (.iload 6, 2) := by decide +kernel
theorem dq_133_66 : decode (qx_code 133) 66 = .ok (.iconst 1, 1) := by decide +kernel
theorem dq_133_67 : decode (qx_code 133) 67 = .ok (.if_icmp .lt 10, 3) := by decide +kernel
theorem dq_133_70 : decode (qx_code 133) 70 = .ok (.iload 6, 2) := by decide +kernel
theorem dq_133_72 : decode (qx_code 133) 72 = .ok (.bipush 127, 2) := by decide +kernel
theorem dq_133_74 : decode (qx_code 133) 74 = .ok (.if_icmp .le 14, 3) := by decide +kernel
theorem dq_133_77 : decode (qx_code 133) 77 = .ok (.aload_n 0, 1) := by decide +kernel
theorem dq_133_78 : decode (qx_code 133) 78 = .ok (.iconst 4, 1) := by decide +kernel
theorem dq_133_79 : decode (qx_code 133) 79 = .ok (.aload_n 0, 1) := by decide +kernel
theorem dq_133_80 : decode (qx_code 133) 80 = .ok (.getfield 119, 3) := by decide +kernel
theorem dq_133_83 : decode (qx_code 133) 83 = .ok (.iconst 1, 1) := by decide +kernel
theorem dq_133_84 : decode (qx_code 133) 84 = .ok (.isub, 1) := by decide +kernel
theorem dq_133_85 : decode (qx_code 133) 85 = .ok (.invokevirtual 122, 3) := by decide +kernel
theorem dq_133_88 : decode (qx_code 133) 88 = .ok (.iinc 5 1, 3) := by decide +kernel
theorem dq_133_91 : decode (qx_code 133) 91 = .ok (.goto (-54), 3) := by decide +kernel
theorem dq_133_94 : decode (qx_code 133) 94 = .ok (.goto 139, 3) := by decide +kernel
theorem dq_133_97 : decode (qx_code 133) 97 = .ok (.iload_n 3, 1) := by decide +kernel
theorem dq_133_98 : decode (qx_code 133) 98 = .ok (.iconst 5, 1) := by decide +kernel
theorem dq_133_99 : decode (qx_code 133) 99 = .ok (.if_icmp .eq 9, 3) := by decide +kernel
theorem dq_133_102 : decode (qx_code 133) 102 = .ok (.iload_n 3, 1) := by decide +kernel
theorem dq_133_103 : decode (qx_code 133) 103 = .ok (.bipush 6, 2) := by decide +kernel
theorem dq_133_105 : decode (qx_code 133) 105 = .ok (.if_icmp .ne 55, 3) := by decide +kernel
theorem dq_133_108 : decode (qx_code 133) 108 = .ok (.iload_n 1, 1) := by decide +kernel
theorem dq_133_109 : decode (qx_code 133) 109 = .ok (.iconst 1, 1) := by decide +kernel
theorem dq_133_110 : decode (qx_code 133) 110 = .ok (.iadd, 1) := by decide +kernel
theorem dq_133_111 : decode (qx_code 133) 111 = .ok (.aload_n 0, 1) := by decide +kernel
theorem dq_133_112 : decode (qx_code 133) 112 = .ok (.getfield 13, 3) := by decide +kernel
theorem dq_133_115 : decode (qx_code 133) 115 = .ok (.iconst 2, 1) := by decide +kernel
theorem dq_133_116 : decode (qx_code 133) 116 = .ok (.iaload, 1) := by decide +kernel
theorem dq_133_117 : decode (qx_code 133) 117 = .ok (.if_icmp .lt 9, 3) := by decide +kernel
theorem dq_133_120 : decode (qx_code 133) 120 = .ok (.aload_n 0, 1) := by decide +kernel
theorem dq_133_121 : decode (qx_code 133) 121 = .ok (.iconst 4, 1) := by decide +kernel
theorem dq_133_122 : decode (qx_code 133) 122 = .ok (.iload_n 2, 1) := by decide +kernel
theorem dq_133_123 : decode (qx_code 133) 123 = .ok (.invokevirtual 122, 3) := by decide +kernel
theorem dq_133_126 : decode (qx_code 133) 126 = .ok (.aload_n 0, 1) := by decide +kernel
theorem dq_133_127 : decode (qx_code 133) 127 = .ok (.invokevirtual 144, 3) := by decide +kernel
theorem dq_133_130 : decode (qx_code 133) 130 = .ok (.lstore 4, 2) := by decide +kernel
theorem dq_133_132 : decode (qx_code 133) 132 = .ok (.aload_n 0, 1) := by decide +kernel
theorem dq_133_133 : decode (qx_code 133) 133 = .ok (.invokevirtual 144, 3) := by decide +kernel
theorem dq_133_136 : decode (qx_code 133) 136 = .ok (.lstore 4, 2) := by decide +kernel
theorem dq_133_138 : decode (qx_code 133) 138 = .ok (.iload_n 1, 1) := by decide +kernel
theorem dq_133_139 : decode (qx_code 133) 139 = .ok (.iconst 1, 1) := by decide +kernel
theorem dq_133_140 : decode (qx_code 133) 140 = .ok (.iadd, 1) := by decide +kernel
theorem dq_133_141 : decode (qx_code 133) 141 = .ok (.bipush 64, 2) := by decide +kernel
theorem dq_133_143 : decode (qx_code 133) 143 = .ok (.if_icmp .ge 13, 3) := by decide +kernel
theorem dq_133_146 : decode (qx_code 133) 146 = .ok (.aload_n 0, 1) := by decide +kernel
theorem dq_133_147 : decode (qx_code 133) 147 = .ok (.getfield 13, 3) := by decide +kernel
theorem dq_133_150 : decode (qx_code 133) 150 = .ok (.bipush 21, 2) := by decide +kernel
theorem dq_133_152 : decode (qx_code 133) 152 = .ok (.iload_n 1, 1) := by decide +kernel
theorem dq_133_153 : decode (qx_code 133) 153 = .ok (.iadd, 1) := by decide +kernel
theorem dq_133_154 : decode (qx_code 133) 154 = .ok (.iconst 0, 1) := by decide +kernel
theorem dq_133_155 : decode (qx_code 133) 155 = .ok (.iastore, 1) := by decide +kernel
theorem dq_133_156 : decode (qx_code 133) 156 = .ok (.iload_n 1, 1) := by decide +kernel
theorem dq_133_157 : decode (qx_code 133) 157 = .ok (.iconst 2, 1) := by decide +kernel
theorem dq_133_158 : decode (qx_code 133) 158 = .ok (.iadd, 1) := by decide +kernel
theorem dq_133_159 : decode (qx_code 133) 159 = .ok (.ireturn, 1) := by decide +kernel
theorem dq_133_160 : decode (qx_code 133) 160 = .ok (.iload_n 3, 1) := by decide +kernel
theorem dq_133_161 : decode (qx_code 133) 161 = .ok (.iconst 3, 1) := by decide +kernel
theorem dq_133_162 : decode (qx_code 133) 162 = .ok (.if_icmp .eq 8, 3) := by decide +kernel
theorem dq_133_165 : decode (qx_code 133) 165 = .ok (.iload_n 3, 1) := by decide +kernel
theorem dq_133_166 : decode (qx_code 133) 166 = .ok (.iconst 4, 1) := by decide +kernel
theorem dq_133_167 : decode (qx_code 133) 167 = .ok (.if_icmp .ne 12, 3) := by decide +kernel
theorem dq_133_170 : decode (qx_code 133) 170 = .ok (.aload_n 0, 1) := by decide +kernel
theorem dq_133_171 : decode (qx_code 133) 171 = .ok (.invokevirtual 144, 3) := by decide +kernel
theorem dq_133_174 : decode (qx_code 133) 174 = .ok (.lstore 4, 2) := by decide +kernel
theorem dq_133_176 : decode (qx_code 133) 176 = .ok (.goto 57, 3) := by decide +kernel
theorem dq_133_179 : decode (qx_code 133) 179 = .ok (.iload_n 3, 1) := by decide +kernel
theorem dq_133_180 : decode (qx_code 133) 180 = .ok (.bipush 7, 2) := by decide +kernel
theorem dq_133_182 : decode (qx_code 133) 182 = .ok (.if_icmp .eq 9, 3) := by decide +kernel
theorem dq_133_185 : decode (qx_code 133) 185 = .ok (.iload_n 3, 1) := by decide +kernel
theorem dq_133_186 : decode (qx_code 133) 186 = .ok (.bipush 8, 2) := by decide +kernel
theorem dq_133_188 : decode (qx_code 133) 188 = .ok (.if_icmp .ne 12, 3) := by decide +kernel
theorem dq_133_191 : decode (qx_code 133) 191 = .ok (.aload_n 0, 1) := by decide +kernel
theorem dq_133_192 : decode (qx_code 133) 192 = .ok (.invokevirtual 134, 3) := by decide +kernel
theorem dq_133_195 : decode (qx_code 133) 195 = .ok (.istore 4, 2) := by decide +kernel
theorem dq_133_197 : decode (qx_code 133) 197 = .ok (.goto 36, 3) := by decide +kernel
theorem dq_133_200 : decode (qx_code 133) 200 = .ok (.iload_n 3, 1) := by decide +kernel
theorem dq_133_201 : decode (qx_code 133) 201 = .ok (.bipush 9, 2) := by decide +kernel
theorem dq_133_203 : decode (qx_code 133) 203 = .ok (.if_icmp .lt 24, 3) := by decide +kernel
theorem dq_133_206 : decode (qx_code 133) 206 = .ok (.iload_n 3, 1) := by decide +kernel
theorem dq_133_207 : decode (qx_code 133) 207 = .ok (.bipush 12, 2) := by decide +kernel
theorem dq_133_209 : decode (qx_code 133) 209 = .ok (.if_icmp .gt 18, 3) := by decide +kernel
theorem dq_133_212 : decode (qx_code 133) 212 = .ok (.aload_n 0, 1) := by decide +kernel
theorem dq_133_213 : decode (qx_code 133) 213 = .ok (.invokevirtual 134, 3) := by decide +kernel
theorem dq_133_216 : decode (qx_code 133) 216 = .ok (.istore 4, 2) := by decide +kernel
theorem dq_133_218 : decode (qx_code 133) 218 = .ok (.aload_n 0, 1) := by decide +kernel
theorem dq_133_219 : decode (qx_code 133) 219 = .ok (.invokevirtual 134, 3) := by decide +kernel
theorem dq_133_222 : decode (qx_code 133) 222 = .ok (.istore 4, 2) := by decide +kernel
theorem dq_133_224 : decode (qx_code 133) 224 = .ok (.goto 9, 3) := by decide +kernel
theorem dq_133_227 : decode (qx_code 133) 227 = .ok (.aload_n 0, 1) := by decide +kernel
theorem dq_133_228 : decode (qx_code 133) 228 = .ok (.iconst 4, 1) := by decide +kernel
theorem dq_133_229 : decode (qx_code 133) 229 = .ok (.iload_n 2, 1) := by decide +kernel
theorem dq_133_230 : decode (qx_code 133) 230 = .ok (.invokevirtual 122, 3) := by decide +kernel
theorem dq_133_233 : decode (qx_code 133) 233 = .ok (.iload_n 1, 1) := by decide +kernel
theorem dq_133_234 : decode (qx_code 133) 234 = .ok (.iconst 1, 1) := by decide +kernel
theorem dq_133_235 : decode (qx_code 133) 235 = .ok (.iadd, 1) := by decide +kernel
theorem dq_133_236 : decode (qx_code 133) 236 = .ok (.ireturn, 1) := by decide +kernel
theorem fl_133_13 : qx_fld 133 13 = some (5, 2) := by decide +kernel
theorem fl_133_119 : qx_fld 133 119 = some (5, 7) := by decide +kernel
theorem mt_133_141 : qx_mth 133 141 = some (134, 0) := by decide +kernel
theorem mt_133_134 : qx_mth 133 134 = some (131, 0) := by decide +kernel
theorem fl_133_116 : qx_fld 133 116 = some (5, 8) := by decide +kernel
theorem mt_133_122 : qx_mth 133 122 = some (130, 2) := by decide +kernel
theorem mt_133_144 : qx_mth 133 144 = some (128, 0) := by decide +kernel
theorem dq_134_0 : decode (qx_code 134) 0 = .ok (.aload_n 0, 1) := by decide +kernel
theorem dq_134_1 : decode (qx_code 134) 1 = .ok (.lconst 1, 1) := by decide +kernel
theorem dq_134_2 : decode (qx_code 134) 2 = .ok (.invokevirtual 126, 3) := by decide +kernel
theorem dq_134_5 : decode (qx_code 134) 5 = .ok (.ifCond .ne 5, 3) := by decide +kernel
theorem dq_134_8 : decode (qx_code 134) 8 = .ok (.iconst 0, 1) := by decide +kernel
theorem dq_134_9 : decode (qx_code 134) 9 = .ok (.ireturn, 1) := by decide +kernel
theorem dq_134_10 : decode (qx_code 134) 10 = .ok (.aload_n 0, 1) := by decide +kernel
theorem dq_134_11 : decode (qx_code 134) 11 = .ok (.dup, 1) := by decide +kernel
theorem dq_134_12 : decode (qx_code 134) 12 = .ok (.getfield 119, 3) := by decide +kernel
theorem dq_134_15 : decode (qx_code 134) 15 = .ok (.iconst 1, 1) := by decide +kernel
theorem dq_134_16 : decode (qx_code 134) 16 = .ok (.iadd, 1) := by decide +kernel
theorem dq_134_17 : decode (qx_code 134) 17 = .ok (.putfield 119, 3) := by decide +kernel
theorem dq_134_20 : decode (qx_code 134) 20 = .ok (.aload_n 0, 1) := by decide +kernel
theorem dq_134_21 : decode (qx_code 134) 21 = .ok (.getfield 7, 3) := by decide +kernel
theorem dq_134_24 : decode (qx_code 134) 24 = .ok (.aload_n 0, 1) := by decide +kernel
theorem dq_134_25 : decode (qx_code 134) 25 = .ok (.getfield 119, 3) := by decide +kernel
theorem dq_134_28 : decode (qx_code 134) 28 = .ok (.iconst 1, 1) := by decide +kernel
theorem dq_134_29 : decode (qx_code 134) 29 = .ok (.isub, 1) := by decide +kernel
theorem dq_134_30 : decode (qx_code 134) 30 = .ok (.iaload, 1) := by decide +kernel
theorem dq_134_31 : decode (qx_code 134) 31 = .ok (.ireturn, 1) := by decide +kernel
theorem mt_134_126 : qx_mth 134 126 = some (129, 1) := by decide +kernel
theorem fl_134_119 : qx_fld 134 119 = some (5, 7) := by decide +kernel
theorem fp_134_119 : qx_fld 134 119 = some (5, 7) ∧ qx_pok 134 119 = true := by decide +kernel
theorem fl_134_7 : qx_fld 134 7 = some (5, 0) := by decide +kernel
theorem dq_135_0 : decode (qx_code 135) 0 = .ok (.aload_n 0, 1) := by decide +kernel
theorem dq_135_1 : decode (qx_code 135) 1 = .ok (.iload_n 1, 1) := by decide +kernel
theorem dq_135_2 : decode (qx_code 135) 2 = .ok (.invokevirtual 138, 3) := by decide +kernel
theorem dq_135_5 : decode (qx_code 135) 5 = .ok (.istore_n 2, 1) := by decide +kernel
theorem dq_135_6 : decode (qx_code 135) 6 = .ok (.aload_n 0, 1) := by decide +kernel
theorem dq_135_7 : decode (qx_code 135) 7 = .ok (.getfield 13, 3) := by decide +kernel
theorem dq_135_10 : decode (qx_code 135) 10 = .ok (.bipush 20, 2) := by decide +kernel
theorem dq_135_12 : decode (qx_code 135) 12 = .ok (.iload_n 1, 1) := by decide +kernel
theorem dq_135_13 : decode (qx_code 135) 13 = .ok (.iadd, 1) := by decide +kernel
theorem dq_135_14 : decode (qx_code 135) 14 = .ok (.iaload, 1) := by decide +kernel
theorem dq_135_15 : decode (qx_code 135) 15 = .ok (.istore_n 3, 1) := by decide +kernel
theorem dq_135_16 : decode (qx_code 135) 16 = .ok (.iload_n 2, 1) := by decide +kernel
theorem dq_135_17 : decode (qx_code 135) 17 = .ok (.bipush 7, 2) := by decide +kernel
theorem dq_135_19 : decode (qx_code 135) 19 = .ok (.if_icmp .lt 10, 3) := by decide +kernel
theorem dq_135_22 : decode (qx_code 135) 22 = .ok (.aload_n 0, 1) := by decide +kernel
theorem dq_135_23 : decode (qx_code 135) 23 = .ok (.getfield 116, 3) := by decide +kernel
theorem dq_135_26 : decode (qx_code 135) 26 = .ok (.ifCond .eq 4, 3) := by decide +kernel
theorem dq_135_29 : decode (qx_code 135) 29 = .ok (.return_, 1) := by decide +kernel
theorem dq_135_30 : decode (qx_code 135) 30 = .ok (.aload_n 0, 1) := by decide +kernel
theorem dq_135_31 : decode (qx_code 135) 31 = .ok (.iload_n 1, 1) := by decide +kernel
theorem dq_135_32 : decode (qx_code 135) 32 = .ok (.invokevirtual 148, 3) := by decide +kernel
theorem dq_135_35 : decode (qx_code 135) 35 = .ok (.istore 4, 2) := by decide +kernel
theorem dq_135_37 : decode (qx_code 135) 37 = .ok (.iload_n 2, 1) := by decide +kernel
theorem dq_135_38 : decode (qx_code 135) 38 = .ok (.bipush 8, 2) := by decide +kernel
theorem dq_135_40 : decode (qx_code 135) 40 = .ok (.if_icmp .le 13, 3) := by decide +kernel
theorem dq_135_43 : decode (qx_code 135) 43 = .ok (.aload_n 0, 1) := by decide +kernel
theorem dq_135_44 : decode (qx_code 135) 44 = .ok (.iload_n 3, 1) := by decide +kernel
theorem dq_135_45 : decode (qx_code 135) 45 = .ok (.iconst 3, 1) := by decide +kernel
theorem dq_135_46 : decode (qx_code 135) 46 = .ok (.iadd, 1) := by decide +kernel
theorem dq_135_47 : decode (qx_code 135) 47 = .ok (.invokevirtual 42, 3) := by decide +kernel
theorem dq_135_50 : decode (qx_code 135) 50 = .ok (.goto 4, 3) := by decide +kernel
theorem dq_135_53 : decode (qx_code 135) 53 = .ok (.iconst 0, 1) := by decide +kernel
theorem dq_135_54 : decode (qx_code 135) 54 = .ok (.istore 5, 2) := by decide +kernel
theorem dq_135_56 : decode (qx_code 135) 56 = .ok (.iload_n 2, 1) := by decide +kernel
theorem dq_135_57 : decode (qx_code 135) 57 = .ok (.bipush 9, 2) := by decide +kernel
theorem dq_135_59 : decode (qx_code 135) 59 = .ok (.if_icmp .ge 77, 3) := by decide +kernel
theorem dq_135_62 : decode (qx_code 135) 62 = .ok (.aload_n 0, 1) := by decide +kernel
theorem dq_135_63 : decode (qx_code 135) 63 = .ok (.iload 4, 2) := by decide +kernel
theorem dq_135_65 : decode (qx_code 135) 65 = .ok (.invokevirtual 138, 3) := by decide +kernel
theorem dq_135_68 : decode (qx_code 135) 68 = .ok (.iconst 1, 1) := by decide +kernel
theorem dq_135_69 : decode (qx_code 135) 69 = .ok (.if_icmp .eq 12, 3) := by decide +kernel
theorem dq_135_72 : decode (qx_code 135) 72 = .ok (.aload_n 0, 1) := by decide +kernel
theorem dq_135_73 : decode (qx_code 135) 73 = .ok (.iconst 5, 1) := by decide +kernel
theorem dq_135_74 : decode (qx_code 135) 74 = .ok (.iload_n 3, 1) := by decide +kernel
theorem dq_135_75 : decode (qx_code 135) 75 = .ok (.invokevirtual 122, 3) := by decide +kernel
theorem dq_135_78 : decode (qx_code 135) 78 = .ok (.goto 179, 3) := by decide +kernel
theorem dq_135_81 : decode (qx_code 135) 81 = .ok (.iload_n 2, 1) := by decide +kernel
theorem dq_135_82 : decode (qx_code 135) 82 = .ok (.bipush 7, 2) := by decide +kernel
theorem dq_135_84 : decode (qx_code 135) 84 = .ok (.if_icmp .ne 173, 3) := by decide +kernel
theorem dq_135_87 : decode (qx_code 135) 87 = .ok (.aload_n 0, 1) := by decide +kernel
theorem dq_135_88 : decode (qx_code 135) 88 = .ok (.iload 4, 2) := by decide +kernel
theorem dq_135_90 : decode (qx_code 135) 90 = .ok (.invokevirtual 151, 3) := by decide +kernel
theorem dq_135_93 : decode (qx_code 135) 93 = .ok (.ifCond .ne 164, 3) := by decide +kernel
theorem dq_135_96 : decode (qx_code 135) 96 = .ok (.aload_n 0, 1) := by decide +kernel
theorem dq_135_97 : decode (qx_code 135) 97 = .ok (.iload 4, 2) := by decide +kernel
theorem dq_135_99 : decode (qx_code 135) 99 = .ok (.invokevirtual 48, 3) := by decide +kernel
theorem dq_135_102 : decode (qx_code 135) 102 = .ok (.ifCond .le 24, 3) := by decide +kernel
theorem dq_135_105 : decode (qx_code 135) 105 = .ok (.aload_n 0, 1) := by decide +kernel
theorem dq_135_106 : decode (qx_code 135) 106 = .ok (.iload 4, 2) := by decide +kernel
theorem dq_135_108 : decode (qx_code 135) 108 = .ok (.iconst 0, 1) := by decide +kernel
theorem dq_135_109 : decode (qx_code 135) 109 = .ok (.invokevirtual 53, 3) := by decide +kernel
theorem dq_135_112 : decode (qx_code 135) 112 = .ok (.bipush 91, 2) := by decide +kernel
theorem dq_135_114 : decode (qx_code 135) 114 = .ok (.if_icmp .ne 12, 3) := by decide +kernel
theorem dq_135_117 : decode (qx_code 135) 117 = .ok (.aload_n 0, 1) := by decide +kernel
theorem dq_135_118 : decode (qx_code 135) 118 = .ok (.iload 4, 2) := by decide +kernel
theorem dq_135_120 : decode (qx_code 135) 120 = .ok (.invokevirtual 154, 3) := by decide +kernel
theorem dq_135_123 : decode (qx_code 135) 123 = .ok (.ifCond .ne 134, 3) := by decide +kernel
theorem dq_135_126 : decode (qx_code 135) 126 = .ok (.aload_n 0, 1) := by decide +kernel
theorem dq_135_127 : decode (qx_code 135) 127 = .ok (.bipush 7, 2) := by decide +kernel
theorem dq_135_129 : decode (qx_code 135) 129 = .ok (.iload_n 3, 1) := by decide +kernel
theorem dq_135_130 : decode (qx_code 135) 130 = .ok (.invokevirtual 122, 3) := by decide +kernel
theorem dq_135_133 : decode (qx_code 135) 133 = .ok (.goto 124, 3) := by decide +kernel
theorem dq_135_136 : decode (qx_code 135) 136 = .ok (.iload_n 2, 1) := by decide +kernel
theorem dq_135_137 : decode (qx_code 135) 137 = .ok (.bipush 12, 2) := by decide +kernel
theorem dq_135_139 : decode (qx_code 135) 139 = .ok (.if_icmp .ge 34, 3) := by decide +kernel
theorem dq_135_142 : decode (qx_code 135) 142 = .ok (.aload_n 0, 1) := by decide +kernel
theorem dq_135_143 : decode (qx_code 135) 143 = .ok (.iload 4, 2) := by decide +kernel
theorem dq_135_145 : decode (qx_code 135) 145 = .ok (.invokevirtual 138, 3) := by decide +kernel
theorem dq_135_148 : decode (qx_code 135) 148 = .ok (.bipush 7, 2) := by decide +kernel
theorem dq_135_150 : decode (qx_code 135) 150 = .ok (.if_icmp .ne 14, 3) := by decide +kernel
theorem dq_135_153 : decode (qx_code 135) 153 = .ok (.aload_n 0, 1) := by decide +kernel
theorem dq_135_154 : decode (qx_code 135) 154 = .ok (.iload 5, 2) := by decide +kernel
theorem dq_135_156 : decode (qx_code 135) 156 = .ok (.invokevirtual 138, 3) := by decide +kernel
theorem dq_135_159 : decode (qx_code 135) 159 = .ok (.bipush 12, 2) := by decide +kernel
theorem dq_135_161 : decode (qx_code 135) 161 = .ok (.if_icmp .eq 96, 3) := by decide +kernel
theorem dq_135_164 : decode (qx_code 135) 164 = .ok (.aload_n 0, 1) := by decide +kernel
theorem dq_135_165 : decode (qx_code 135) 165 = .ok (.iconst 5, 1) := by decide +kernel
theorem dq_135_166 : decode (qx_code 135) 166 = .ok (.iload_n 3, 1) := by decide +kernel
theorem dq_135_167 : decode (qx_code 135) 167 = .ok (.invokevirtual 122, 3) := by decide +kernel
theorem dq_135_170 : decode (qx_code 135) 170 = .ok (.goto 87, 3) := by decide +kernel
theorem dq_135_173 : decode (qx_code 135) 173 = .ok (.aload_n 0, 1) := by decide +kernel
theorem dq_135_174 : decode (qx_code 135) 174 = .ok (.iload 4, 2) := by decide +kernel
theorem dq_135_176 : decode (qx_code 135) 176 = .ok (.invokevirtual 138, 3) := by decide +kernel
theorem dq_135_179 : decode (qx_code 135) 179 = .ok (.iconst 1, 1) := by decide +kernel
theorem dq_135_180 : decode (qx_code 135) 180 = .ok (.if_icmp .ne 13, 3) := by decide +kernel
theorem dq_135_183 : decode (qx_code 135) 183 = .ok (.aload_n 0, 1) := by decide +kernel
theorem dq_135_184 : decode (qx_code 135) 184 = .ok (.iload 5, 2) := by decide +kernel
theorem dq_135_186 : decode (qx_code 135) 186 = .ok (.invokevirtual 138, 3) := by decide +kernel
theorem dq_135_189 : decode (qx_code 135) 189 = .ok (.iconst 1, 1) := by decide +kernel
theorem dq_135_190 : decode (qx_code 135) 190 = .ok (.if_icmp .eq 12, 3) := by decide +kernel
theorem dq_135_193 : decode (qx_code 135) 193 = .ok (.aload_n 0, 1) := by decide +kernel
theorem dq_135_194 : decode (qx_code 135) 194 = .ok (.iconst 5, 1) := by decide +kernel
theorem dq_135_195 : decode (qx_code 135) 195 = .ok (.iload_n 3, 1) := by decide +kernel
theorem dq_135_196 : decode (qx_code 135) 196 = .ok (.invokevirtual 122, 3) := by decide +kernel
theorem dq_135_199 : decode (qx_code 135) 199 = .ok (.goto 58, 3) := by decide +kernel
theorem dq_135_202 : decode (qx_code 135) 202 = .ok (.aload_n 0, 1) := by decide +kernel
theorem dq_135_203 : decode (qx_code 135) 203 = .ok (.iload 4, 2) := by decide +kernel
theorem dq_135_205 : decode (qx_code 135) 205 = .ok (.invokevirtual 157, 3) := by decide +kernel
theorem dq_135_208 : decode (qx_code 135) 208 = .ok (.ifCond .ne 24, 3) := by decide +kernel
theorem dq_135_211 : decode (qx_code 135) 211 = .ok (.aload_n 0, 1) := by decide +kernel
theorem dq_135_212 : decode (qx_code 135) 212 = .ok (.iload 4, 2) := by decide +kernel
theorem dq_135_214 : decode (qx_code 135) 214 = .ok (.invokevirtual 160, 3) := by decide +kernel
theorem dq_135_217 : decode (qx_code 135) 217 = .ok (.bipush 11, 2) := by decide +kernel
theorem dq_135_219 : decode (qx_code 135) 219 = .ok (.if_icmp .eq 13, 3) := by decide +kernel
theorem dq_135_222 : decode (qx_code 135) 222 = .ok (.aload_n 0, 1) := by decide +kernel
theorem dq_135_223 : decode (qx_code 135) 223 = .ok (.bipush 7, 2) := by decide +kernel
theorem dq_135_225 : decode (qx_code 135) 225 = .ok (.iload_n 3, 1) := by decide +kernel
theorem dq_135_226 : decode (qx_code 135) 226 = .ok (.invokevirtual 122, 3) := by decide +kernel
theorem dq_135_229 : decode (qx_code 135) 229 = .ok (.goto 28, 3) := by decide +kernel
theorem dq_135_232 : decode (qx_code 135) 232 = .ok (.aload_n 0, 1) := by decide +kernel
theorem dq_135_233 : decode (qx_code 135) 233 = .ok (.iload 5, 2) := by decide +kernel
theorem dq_135_235 : decode (qx_code 135) 235 = .ok (.invokevirtual 154, 3) := by decide +kernel
theorem dq_135_238 : decode (qx_code 135) 238 = .ok (.ifCond .ne 19, 3) := by decide +kernel
theorem dq_135_241 : decode (qx_code 135) 241 = .ok (.aload_n 0, 1) := by decide +kernel
theorem dq_135_242 : decode (qx_code 135) 242 = .ok (.iload 5, 2) := by decide +kernel
theorem dq_135_244 : decode (qx_code 135) 244 = .ok (.invokevirtual 163, 3) := by decide +kernel
theorem dq_135_247 : decode (qx_code 135) 247 = .ok (.ifCond .ne 10, 3) := by decide +kernel
theorem dq_135_250 : decode (qx_code 135) 250 = .ok (.aload_n 0, 1) := by decide +kernel
theorem dq_135_251 : decode (qx_code 135) 251 = .ok (.bipush 8, 2) := by decide +kernel
theorem dq_135_253 : decode (qx_code 135) 253 = .ok (.iload_n 3, 1) := by decide +kernel
theorem dq_135_254 : decode (qx_code 135) 254 = .ok (.invokevirtual 122, 3) := by decide +kernel
theorem dq_135_257 : decode (qx_code 135) 257 = .ok (.return_, 1) := by decide +kernel
theorem mt_135_138 : qx_mth 135 138 = some (136, 1) := by decide +kernel
theorem fl_135_13 : qx_fld 135 13 = some (5, 2) := by decide +kernel
theorem fl_135_116 : qx_fld 135 116 = some (5, 8) := by decide +kernel
theorem mt_135_148 : qx_mth 135 148 = some (139, 1) := by decide +kernel
theorem mt_135_42 : qx_mth 135 42 = some (140, 1) := by decide +kernel
theorem mt_135_122 : qx_mth 135 122 = some (130, 2) := by decide +kernel
theorem mt_135_151 : qx_mth 135 151 = some (141, 1) := by decide +kernel
theorem mt_135_48 : qx_mth 135 48 = some (143, 1) := by decide +kernel
theorem mt_135_53 : qx_mth 135 53 = some (146, 2) := by decide +kernel
theorem mt_135_154 : qx_mth 135 154 = some (147, 1) := by decide +kernel
theorem mt_135_157 : qx_mth 135 157 = some (149, 1) := by decide +kernel
theorem mt_135_160 : qx_mth 135 160 = some (150, 1) := by decide +kernel
theorem mt_135_163 : qx_mth 135 163 = some (152, 1) := by decide +kernel
theorem dq_136_0 : decode (qx_code 136) 0 = .ok (.iload_n 1, 1) := by decide +kernel
theorem dq_136_1 : decode (qx_code 136) 1 = .ok (.iconst 1, 1) := by decide +kernel
theorem dq_136_2 : decode (qx_code 136) 2 = .ok (.if_icmp .lt 23, 3) := by decide +kernel
theorem dq_136_5 : decode (qx_code 136) 5 = .ok (.iload_n 1, 1) := by decide +kernel
theorem dq_136_6 : decode (qx_code 136) 6 = .ok (.aload_n 0, 1) := by decide +kernel
theorem dq_136_7 : decode (qx_code 136) 7 = .ok (.iconst 2, 1) := by decide +kernel
theorem dq_136_8 : decode (qx_code 136) 8 = .ok (.invokevirtual 39, 3) := by decide +kernel
theorem dq_136_11 : decode (qx_code 136) 11 = .ok (.if_icmp .ge 14, 3) := by decide +kernel
theorem dq_136_14 : decode (qx_code 136) 14 = .ok (.aload_n 0, 1) := by decide +kernel
theorem dq_136_15 : decode (qx_code 136) 15 = .ok (.bipush 20, 2) := by decide +kernel
theorem dq_136_17 : decode (qx_code 136) 17 = .ok (.iload_n 1, 1) := by decide +kernel
theorem dq_136_18 : decode (qx_code 136) 18 = .ok (.iadd, 1) := by decide +kernel
theorem dq_136_19 : decode (qx_code 136) 19 = .ok (.invokevirtual 39, 3) := by decide +kernel
theorem dq_136_22 : decode (qx_code 136) 22 = .ok (.ifCond .ne 7, 3) := by decide +kernel
theorem dq_136_25 : decode (qx_code 136) 25 = .ok (.iconst 0, 1) := by decide +kernel
theorem dq_136_26 : decode (qx_code 136) 26 = .ok (.goto 15, 3) := by decide +kernel
theorem dq_136_29 : decode (qx_code 136) 29 = .ok (.aload_n 0, 1) := by decide +kernel
theorem dq_136_30 : decode (qx_code 136) 30 = .ok (.aload_n 0, 1) := by decide +kernel
theorem dq_136_31 : decode (qx_code 136) 31 = .ok (.bipush 20, 2) := by decide +kernel
theorem dq_136_33 : decode (qx_code 136) 33 = .ok (.iload_n 1, 1) := by decide +kernel
theorem dq_136_34 : decode (qx_code 136) 34 = .ok (.iadd, 1) := by decide +kernel
theorem dq_136_35 : decode (qx_code 136) 35 = .ok (.invokevirtual 39, 3) := by decide +kernel
theorem dq_136_38 : decode (qx_code 136) 38 = .ok (.invokevirtual 35, 3) := by decide +kernel
theorem dq_136_41 : decode (qx_code 136) 41 = .ok (.ireturn, 1) := by decide +kernel
theorem mt_136_39 : qx_mth 136 39 = some (137, 1) := by decide +kernel
theorem mt_136_35 : qx_mth 136 35 = some (138, 1) := by decide +kernel
theorem dq_137_0 : decode (qx_code 137) 0 = .ok (.aload_n 0, 1) := by decide +kernel
theorem dq_137_1 : decode (qx_code 137) 1 = .ok (.getfield 31, 3) := by decide +kernel
theorem dq_137_4 : decode (qx_code 137) 4 = .ok (.ifCond .eq 12, 3) := by decide +kernel
theorem dq_137_7 : decode (qx_code 137) 7 = .ok (.aload_n 0, 1) := by decide +kernel
theorem dq_137_8 : decode (qx_code 137) 8 = .ok (.getfield 16, 3) := by decide +kernel
theorem dq_137_11 : decode (qx_code 137) 11 = .ok (.iload_n 1, 1) := by decide +kernel
theorem dq_137_12 : decode (qx_code 137) 12 = .ok (.iaload, 1) := by decide +kernel
theorem dq_137_13 : decode (qx_code 137) 13 = .ok (.goto 9, 3) := by decide +kernel
theorem dq_137_16 : decode (qx_code 137) 16 = .ok (.aload_n 0, 1) := by decide +kernel
theorem dq_137_17 : decode (qx_code 137) 17 = .ok (.getfield 13, 3) := by decide +kernel
theorem dq_137_20 : decode (qx_code 137) 20 = .ok (.iload_n 1, 1) := by decide +kernel
theorem dq_137_21 : decode (qx_code 137) 21 = .ok (.iaload, 1) := by decide +kernel
theorem dq_137_22 : decode (qx_code 137) 22 = .ok (.ireturn, 1) := by decide +kernel
theorem fl_137_31 : qx_fld 137 31 = some (5, 6) := by decide +kernel
theorem fl_137_16 : qx_fld 137 16 = some (5, 3) := by decide +kernel
theorem fl_137_13 : qx_fld 137 13 = some (5, 2) := by decide +kernel
theorem dq_138_0 : decode (qx_code 138) 0 = .ok (.aload_n 0, 1) := by decide +kernel
theorem dq_138_1 : decode (qx_code 138) 1 = .ok (.getfield 31, 3) := by decide +kernel
theorem dq_138_4 : decode (qx_code 138) 4 = .ok (.ifCond .eq 12, 3) := by decide +kernel
theorem dq_138_7 : decode (qx_code 138) 7 = .ok (.aload_n 0, 1) := by decide +kernel
theorem dq_138_8 : decode (qx_code 138) 8 = .ok (.getfield 19, 3) := by decide +kernel
theorem dq_138_11 : decode (qx_code 138) 11 = .ok (.iload_n 1, 1) := by decide +kernel
theorem dq_138_12 : decode (qx_code 138) 12 = .ok (.iaload, 1) := by decide +kernel
theorem dq_138_13 : decode (qx_code 138) 13 = .ok (.goto 9, 3) := by decide +kernel
theorem dq_138_16 : decode (qx_code 138) 16 = .ok (.aload_n 0, 1) := by decide +kernel
theorem dq_138_17 : decode (qx_code 138) 17 = .ok (.getfield 7, 3) := by decide +kernel
theorem dq_138_20 : decode (qx_code 138) 20 = .ok (.iload_n 1, 1) := by decide +kernel
theorem dq_138_21 : decode (qx_code 138) 21 = .ok (.iaload, 1) := by decide +kernel
theorem dq_138_22 : decode (qx_code 138) 22 = .ok (.ireturn, 1) := by decide +kernel
theorem fl_138_31 : qx_fld 138 31 = some (5, 6) := by decide +kernel
theorem fl_138_19 : qx_fld 138 19 = some (5, 4) := by decide +kernel
theorem fl_138_7 : qx_fld 138 7 = some (5, 0) := by decide +kernel
theorem dq_139_0 : decode (qx_code 139) 0 = .ok (.aload_n 0, 1) := by decide +kernel
theorem dq_139_1 : decode (qx_code 139) 1 = .ok (.aload_n 0, 1) := by decide +kernel
theorem dq_139_2 : decode (qx_code 139) 2 = .ok (.bipush 20, 2) := by decide +kernel
theorem dq_139_4 : decode (qx_code 139) 4 = .ok (.iload_n 1, 1) := by decide +kernel
theorem dq_139_5 : decode (qx_code 139) 5 = .ok (.iadd, 1) := by decide +kernel
theorem dq_139_6 : decode (qx_code 139) 6 = .ok (.invokevirtual 39, 3) := by decide +kernel
theorem dq_139_9 : decode (qx_code 139) 9 = .ok (.iconst 1, 1) := by decide +kernel
theorem dq_139_10 : decode (qx_code 139) 10 = .ok (.iadd, 1) := by decide +kernel
theorem dq_139_11 : decode (qx_code 139) 11 = .ok (.invokevirtual 42, 3) := by decide +kernel
theorem dq_139_14 : decode (qx_code 139) 14 = .ok (.ireturn, 1) := by decide +kernel
theorem mt_139_39 : qx_mth 139 39 = some (137, 1) := by decide +kernel
theorem mt_139_42 : qx_mth 139 42 = some (140, 1) := by decide +kernel
theorem dq_140_0 : decode (qx_code 140) 0 = .ok (.aload_n 0, 1) := by decide +kernel
theorem dq_140_1 : decode (qx_code 140) 1 = .ok (.iload_n 1, 1) := by decide +kernel
theorem dq_140_2 : decode (qx_code 140) 2 = .ok (.invokevirtual 35, 3) := by decide +kernel
theorem dq_140_5 : decode (qx_code 140) 5 = .ok (.sipush 256, 3) := by decide +kernel
theorem dq_140_8 : decode (qx_code 140) 8 = .ok (.imul, 1) := by decide +kernel
theorem dq_140_9 : decode (qx_code 140) 9 = .ok (.aload_n 0, 1) := by decide +kernel
theorem dq_140_10 : decode (qx_code 140) 10 = .ok (.iload_n 1, 1) := by decide +kernel
theorem dq_140_11 : decode (qx_code 140) 11 = .ok (.iconst 1, 1) := by decide +kernel
theorem dq_140_12 : decode (qx_code 140) 12 = .ok (.iadd, 1) := by decide +kernel
theorem dq_140_13 : decode (qx_code 140) 13 = .ok (.invokevirtual 35, 3) := by decide +kernel
theorem dq_140_16 : decode (qx_code 140) 16 = .ok (.iadd, 1) := by decide +kernel
theorem dq_140_17 : decode (qx_code 140) 17 = .ok (.ireturn, 1) := by decide +kernel
theorem mt_140_35 : qx_mth 140 35 = some (138, 1) := by decide +kernel
theorem dq_141_0 : decode (qx_code 141) 0 = .ok (.aload_n 0, 1) := by decide +kernel
theorem dq_141_1 : decode (qx_code 141) 1 = .ok (.aload_n 0, 1) := by decide +kernel
theorem dq_141_2 : decode (qx_code 141) 2 = .ok (.iload_n 1, 1) := by decide +kernel
theorem dq_141_3 : decode (qx_code 141) 3 = .ok (.invokevirtual 45, 3) := by decide +kernel
theorem dq_141_6 : decode (qx_code 141) 6 = .ok (.aload_n 0, 1) := by decide +kernel
theorem dq_141_7 : decode (qx_code 141) 7 = .ok (.iload_n 1, 1) := by decide +kernel
theorem dq_141_8 : decode (qx_code 141) 8 = .ok (.invokevirtual 45, 3) := by decide +kernel
theorem dq_141_11 : decode (qx_code 141) 11 = .ok (.aload_n 0, 1) := by decide +kernel
theorem dq_141_12 : decode (qx_code 141) 12 = .ok (.iload_n 1, 1) := by decide +kernel
theorem dq_141_13 : decode (qx_code 141) 13 = .ok (.invokevirtual 48, 3) := by decide +kernel
theorem dq_141_16 : decode (qx_code 141) 16 = .ok (.iadd, 1) := by decide +kernel
theorem dq_141_17 : decode (qx_code 141) 17 = .ok (.invokevirtual 109, 3) := by decide +kernel
theorem dq_141_20 : decode (qx_code 141) 20 = .ok (.ireturn, 1) := by decide +kernel
theorem mt_141_45 : qx_mth 141 45 = some (142, 1) := by decide +kernel
theorem mt_141_48 : qx_mth 141 48 = some (143, 1) := by decide +kernel
theorem mt_141_109 : qx_mth 141 109 = some (144, 2) := by decide +kernel
theorem dq_142_0 : decode (qx_code 142) 0 = .ok (.aload_n 0, 1) := by decide +kernel
theorem dq_142_1 : decode (qx_code 142) 1 = .ok (.bipush 20, 2) := by decide +kernel
theorem dq_142_3 : decode (qx_code 142) 3 = .ok (.iload_n 1, 1) := by decide +kernel
theorem dq_142_4 : decode (qx_code 142) 4 = .ok (.iadd, 1) := by decide +kernel
theorem dq_142_5 : decode (qx_code 142) 5 = .ok (.invokevirtual 39, 3) := by decide +kernel
theorem dq_142_8 : decode (qx_code 142) 8 = .ok (.iconst 3, 1) := by decide +kernel
theorem dq_142_9 : decode (qx_code 142) 9 = .ok (.iadd, 1) := by decide +kernel
theorem dq_142_10 : decode (qx_code 142) 10 = .ok (.ireturn, 1) := by decide +kernel
theorem mt_142_39 : qx_mth 142 39 = some (137, 1) := by decide +kernel
theorem dq_143_0 : decode (qx_code 143) 0 = .ok (.aload_n 0, 1) := by decide +kernel
theorem dq_143_1 : decode (qx_code 143) 1 = .ok (.aload_n 0, 1) := by decide +kernel
theorem dq_143_2 : decode (qx_code 143) 2 = .ok (.bipush 20, 2) := by decide +kernel
theorem dq_143_4 : decode (qx_code 143) 4 = .ok (.iload_n 1, 1) := by decide +kernel
theorem dq_143_5 : decode (qx_code 143) 5 = .ok (.iadd, 1) := by decide +kernel
theorem dq_143_6 : decode (qx_code 143) 6 = .ok (.invokevirtual 39, 3) := by decide +kernel
theorem dq_143_9 : decode (qx_code 143) 9 = .ok (.iconst 1, 1) := by decide +kernel
theorem dq_143_10 : decode (qx_code 143) 10 = .ok (.iadd, 1) := by decide +kernel
theorem dq_143_11 : decode (qx_code 143) 11 = .ok (.invokevirtual 42, 3) := by decide +kernel
theorem dq_143_14 : decode (qx_code 143) 14 = .ok (.ireturn, 1) := by decide +kernel
theorem mt_143_39 : qx_mth 143 39 = some (137, 1) := by decide +kernel
theorem mt_143_42 : qx_mth 143 42 = some (140, 1) := by decide +kernel
theorem dq_144_0 : decode (qx_code 144) 0 = .ok (.iconst 1, 1) := by decide +kernel
theorem dq_144_1 : decode (qx_code 144) 1 = .ok (.istore_n 3, 1) := by decide +kernel
theorem dq_144_2 : decode (qx_code 144) 2 = .ok (.iload_n 1, 1) := by decide +kernel
theorem dq_144_3 : decode (qx_code 144) 3 = .ok (.istore 4, 2) := by decide +kernel
theorem dq_144_5 : decode (qx_code 144) 5 = .ok (.iload 4, 2) := by decide +kernel
theorem dq_144_7 : decode (qx_code 144) 7 = .ok (.iload_n 2, 1) := by decide +kernel
theorem dq_144_8 : decode (qx_code 144) 8 = .ok (.if_icmp .ge 48, 3) := by decide +kernel
theorem dq_144_11 : decode (qx_code 144) 11 = .ok (.aload_n 0, 1) := by decide +kernel
theorem dq_144_12 : decode (qx_code 144) 12 = .ok (.iload 4, 2) := by decide +kernel
theorem dq_144_14 : decode (qx_code 144) 14 = .ok (.invokevirtual 35, 3) := by decide +kernel
theorem dq_144_17 : decode (qx_code 144) 17 = .ok (.istore 5, 2) := by decide +kernel
theorem dq_144_19 : decode (qx_code 144) 19 = .ok (.iload 5, 2) := by decide +kernel
theorem dq_144_21 : decode (qx_code 144) 21 = .ok (.bipush 47, 2) := by decide +kernel
theorem dq_144_23 : decode (qx_code 144) 23 = .ok (.if_icmp .ne 12, 3) := by decide +kernel
theorem dq_144_26 : decode (qx_code 144) 26 = .ok (.iload_n 3, 1) := by decide +kernel
theorem dq_144_27 : decode (qx_code 144) 27 = .ok (.ifCond .ne 8, 3) := by decide +kernel
theorem dq_144_30 : decode (qx_code 144) 30 = .ok (.iconst 1, 1) := by decide +kernel
theorem dq_144_31 : decode (qx_code 144) 31 = .ok (.istore_n 3, 1) := by decide +kernel
theorem dq_144_32 : decode (qx_code 144) 32 = .ok (.goto 18, 3) := by decide +kernel
theorem dq_144_35 : decode (qx_code 144) 35 = .ok (.iload 5, 2) := by decide +kernel
theorem dq_144_37 : decode (qx_code 144) 37 = .ok (.invokestatic 105, 3) := by decide +kernel
theorem dq_144_40 : decode (qx_code 144) 40 = .ok (.ifCond .eq 8, 3) := by decide +kernel
theorem dq_144_43 : decode (qx_code 144) 43 = .ok (.iconst 0, 1) := by decide +kernel
theorem dq_144_44 : decode (qx_code 144) 44 = .ok (.istore_n 3, 1) := by decide +kernel
theorem dq_144_45 : decode (qx_code 144) 45 = .ok (.goto 5, 3) := by decide +kernel
theorem dq_144_48 : decode (qx_code 144) 48 = .ok (.iconst 0, 1) := by decide +kernel
theorem dq_144_49 : decode (qx_code 144) 49 = .ok (.ireturn, 1) := by decide +kernel
theorem dq_144_50 : decode (qx_code 144) 50 = .ok (.iinc 4 1, 3) := by decide +kernel
theorem dq_144_53 : decode (qx_code 144) 53 = .ok (.goto (-48), 3) := by decide +kernel
theorem dq_144_56 : decode (qx_code 144) 56 = .ok (.iload_n 3, 1) := by decide +kernel
theorem dq_144_57 : decode (qx_code 144) 57 = .ok (.ifCond .ne 7, 3) := by decide +kernel
theorem dq_144_60 : decode (qx_code 144) 60 = .ok (.iconst 1, 1) := by decide +kernel
theorem dq_144_61 : decode (qx_code 144) 61 = .ok (.goto 4, 3) := by decide +kernel
theorem dq_144_64 : decode (qx_code 144) 64 = .ok (.iconst 0, 1) := by decide +kernel
theorem dq_144_65 : decode (qx_code 144) 65 = .ok (.ireturn, 1) := by decide +kernel
theorem mt_144_35 : qx_mth 144 35 = some (138, 1) := by decide +kernel
theorem mt_144_105 : qx_mth 144 105 = some (145, 1) := by decide +kernel
theorem dq_145_0 : decode (qx_code 145) 0 = .ok (.iload_n 0, 1) := by decide +kernel
theorem dq_145_1 : decode (qx_code 145) 1 = .ok (.bipush 46, 2) := by decide +kernel
theorem dq_145_3 : decode (qx_code 145) 3 = .ok (.if_icmp .eq 25, 3) := by decide +kernel
theorem dq_145_6 : decode (qx_code 145) 6 = .ok (.iload_n 0, 1) := by decide +kernel
theorem dq_145_7 : decode (qx_code 145) 7 = .ok (.bipush 59, 2) := by decide +kernel
theorem dq_145_9 : decode (qx_code 145) 9 = .ok (.if_icmp .eq 19, 3) := by decide +kernel
theorem dq_145_12 : decode (qx_code 145) 12 = .ok (.iload_n 0, 1) := by decide +kernel
theorem dq_145_13 : decode (qx_code 145) 13 = .ok (.bipush 91, 2) := by decide +kernel
theorem dq_145_15 : decode (qx_code 145) 15 = .ok (.if_icmp .eq 13, 3) := by decide +kernel
theorem dq_145_18 : decode (qx_code 145) 18 = .ok (.iload_n 0, 1) := by decide +kernel
theorem dq_145_19 : decode (qx_code 145) 19 = .ok (.bipush 47, 2) := by decide +kernel
theorem dq_145_21 : decode (qx_code 145) 21 = .ok (.if_icmp .eq 7, 3) := by decide +kernel
theorem dq_145_24 : decode (qx_code 145) 24 = .ok (.iconst 1, 1) := by decide +kernel
theorem dq_145_25 : decode (qx_code 145) 25 = .ok (.goto 4, 3) := by decide +kernel
theorem dq_145_28 : decode (qx_code 145) 28 = .ok (.iconst 0, 1) := by decide +kernel
theorem dq_145_29 : decode (qx_code 145) 29 = .ok (.ireturn, 1) := by decide +kernel
theorem dq_146_0 : decode (qx_code 146) 0 = .ok (.aload_n 0, 1) := by decide +kernel
theorem dq_146_1 : decode (qx_code 146) 1 = .ok (.aload_n 0, 1) := by decide +kernel
theorem dq_146_2 : decode (qx_code 146) 2 = .ok (.iload_n 1, 1) := by decide +kernel
theorem dq_146_3 : decode (qx_code 146) 3 = .ok (.invokevirtual 45, 3) := by decide +kernel
theorem dq_146_6 : decode (qx_code 146) 6 = .ok (.iload_n 2, 1) := by decide +kernel
theorem dq_146_7 : decode (qx_code 146) 7 = .ok (.iadd, 1) := by decide +kernel
theorem dq_146_8 : decode (qx_code 146) 8 = .ok (.invokevirtual 35, 3) := by decide +kernel
theorem dq_146_11 : decode (qx_code 146) 11 = .ok (.ireturn, 1) := by decide +kernel
theorem mt_146_45 : qx_mth 146 45 = some (142, 1) := by decide +kernel
theorem mt_146_35 : qx_mth 146 35 = some (138, 1) := by decide +kernel
theorem dq_147_0 : decode (qx_code 147) 0 = .ok (.aload_n 0, 1) := by decide +kernel
theorem dq_147_1 : decode (qx_code 147) 1 = .ok (.aload_n 0, 1) := by decide +kernel
theorem dq_147_2 : decode (qx_code 147) 2 = .ok (.iload_n 1, 1) := by decide +kernel
theorem dq_147_3 : decode (qx_code 147) 3 = .ok (.invokevirtual 45, 3) := by decide +kernel
theorem dq_147_6 : decode (qx_code 147) 6 = .ok (.aload_n 0, 1) := by decide +kernel
theorem dq_147_7 : decode (qx_code 147) 7 = .ok (.iload_n 1, 1) := by decide +kernel
theorem dq_147_8 : decode (qx_code 147) 8 = .ok (.invokevirtual 45, 3) := by decide +kernel
theorem dq_147_11 : decode (qx_code 147) 11 = .ok (.aload_n 0, 1) := by decide +kernel
theorem dq_147_12 : decode (qx_code 147) 12 = .ok (.iload_n 1, 1) := by decide +kernel
theorem dq_147_13 : decode (qx_code 147) 13 = .ok (.invokevirtual 48, 3) := by decide +kernel
theorem dq_147_16 : decode (qx_code 147) 16 = .ok (.iadd, 1) := by decide +kernel
theorem dq_147_17 : decode (qx_code 147) 17 = .ok (.invokevirtual 113, 3) := by decide +kernel
theorem dq_147_20 : decode (qx_code 147) 20 = .ok (.aload_n 0, 1) := by decide +kernel
theorem dq_147_21 : decode (qx_code 147) 21 = .ok (.iload_n 1, 1) := by decide +kernel
theorem dq_147_22 : decode (qx_code 147) 22 = .ok (.invokevirtual 45, 3) := by decide +kernel
theorem dq_147_25 : decode (qx_code 147) 25 = .ok (.aload_n 0, 1) := by decide +kernel
theorem dq_147_26 : decode (qx_code 147) 26 = .ok (.iload_n 1, 1) := by decide +kernel
theorem dq_147_27 : decode (qx_code 147) 27 = .ok (.invokevirtual 48, 3) := by decide +kernel
theorem dq_147_30 : decode (qx_code 147) 30 = .ok (.iadd, 1) := by decide +kernel
theorem dq_147_31 : decode (qx_code 147) 31 = .ok (.if_icmp .ne 7, 3) := by decide +kernel
theorem dq_147_34 : decode (qx_code 147) 34 = .ok (.iconst 1, 1) := by decide +kernel
theorem dq_147_35 : decode (qx_code 147) 35 = .ok (.goto 4, 3) := by decide +kernel
theorem dq_147_38 : decode (qx_code 147) 38 = .ok (.iconst 0, 1) := by decide +kernel
theorem dq_147_39 : decode (qx_code 147) 39 = .ok (.ireturn, 1) := by decide +kernel
theorem mt_147_45 : qx_mth 147 45 = some (142, 1) := by decide +kernel
theorem mt_147_48 : qx_mth 147 48 = some (143, 1) := by decide +kernel
theorem mt_147_113 : qx_mth 147 113 = some (148, 2) := by decide +kernel
theorem dq_148_0 : decode (qx_code 148) 0 = .ok (.iload_n 1, 1) := by decide +kernel
theorem dq_148_1 : decode (qx_code 148) 1 = .ok (.istore_n 3, 1) := by decide +kernel
theorem dq_148_2 : decode (qx_code 148) 2 = .ok (.iload_n 3, 1) := by decide +kernel
theorem dq_148_3 : decode (qx_code 148) 3 = .ok (.iload_n 2, 1) := by decide +kernel
theorem dq_148_4 : decode (qx_code 148) 4 = .ok (.if_icmp .ge 19, 3) := by decide +kernel
theorem dq_148_7 : decode (qx_code 148) 7 = .ok (.aload_n 0, 1) := by decide +kernel
theorem dq_148_8 : decode (qx_code 148) 8 = .ok (.iload_n 3, 1) := by decide +kernel
theorem dq_148_9 : decode (qx_code 148) 9 = .ok (.invokevirtual 35, 3) := by decide +kernel
theorem dq_148_12 : decode (qx_code 148) 12 = .ok (.bipush 91, 2) := by decide +kernel
theorem dq_148_14 : decode (qx_code 148) 14 = .ok (.if_icmp .ne 9, 3) := by decide +kernel
theorem dq_148_17 : decode (qx_code 148) 17 = .ok (.iinc 3 1, 3) := by decide +kernel
theorem dq_148_20 : decode (qx_code 148) 20 = .ok (.goto (-18), 3) := by decide +kernel
theorem dq_148_23 : decode (qx_code 148) 23 = .ok (.iload_n 3, 1) := by decide +kernel
theorem dq_148_24 : decode (qx_code 148) 24 = .ok (.iload_n 2, 1) := by decide +kernel
theorem dq_148_25 : decode (qx_code 148) 25 = .ok (.if_icmp .eq 12, 3) := by decide +kernel
theorem dq_148_28 : decode (qx_code 148) 28 = .ok (.iload_n 3, 1) := by decide +kernel
theorem dq_148_29 : decode (qx_code 148) 29 = .ok (.iload_n 1, 1) := by decide +kernel
theorem dq_148_30 : decode (qx_code 148) 30 = .ok (.isub, 1) := by decide +kernel
theorem dq_148_31 : decode (qx_code 148) 31 = .ok (.sipush 255, 3) := by decide +kernel
theorem dq_148_34 : decode (qx_code 148) 34 = .ok (.if_icmp .le 5, 3) := by decide +kernel
theorem dq_148_37 : decode (qx_code 148) 37 = .ok (.iconst (-1), 1) := by decide +kernel
theorem dq_148_38 : decode (qx_code 148) 38 = .ok (.ireturn, 1) := by decide +kernel
theorem dq_148_39 : decode (qx_code 148) 39 = .ok (.aload_n 0, 1) := by decide +kernel
theorem dq_148_40 : decode (qx_code 148) 40 = .ok (.iload_n 3, 1) := by decide +kernel
theorem dq_148_41 : decode (qx_code 148) 41 = .ok (.invokevirtual 35, 3) := by decide +kernel
theorem dq_148_44 : decode (qx_code 148) 44 = .ok (.istore 4, 2) := by decide +kernel
theorem dq_148_46 : decode (qx_code 148) 46 = .ok (.iload 4, 2) := by decide +kernel
theorem dq_148_48 : decode (qx_code 148) 48 = .ok (.bipush 66, 2) := by decide +kernel
theorem dq_148_50 : decode (qx_code 148) 50 = .ok (.if_icmp .eq 52, 3) := by decide +kernel
theorem dq_148_53 : decode (qx_code 148) 53 = .ok (.iload 4, 2) := by decide +kernel
theorem dq_148_55 : decode (qx_code 148) 55 = .ok (.bipush 67, 2) := by decide +kernel
theorem dq_148_57 : decode (qx_code 148) 57 = .ok (.if_icmp .eq 45, 3) := by decide +kernel
theorem dq_148_60 : decode (qx_code 148) 60 = .ok (.iload 4, 2) := by decide +kernel
theorem dq_148_62 : decode (qx_code 148) 62 = .ok (.bipush 68, 2) := by decide +kernel
theorem dq_148_64 : decode (qx_code 148) 64 = .ok (.if_icmp .eq 38, 3) := by decide +kernel
theorem dq_148_67 : decode (qx_code 148) 67 = .ok (.iload 4, 2) := by decide +kernel
theorem dq_148_69 : decode (qx_code 148) 69 = .ok (.bipush 70, 2) := by decide +kernel
theorem dq_148_71 : decode (qx_code 148) 71 = .ok (.if_icmp .eq 31, 3) := by decide +kernel
theorem dq_148_74 : decode (qx_code 148) 74 = .ok (.iload 4, 2) := by decide +kernel
theorem dq_148_76 : decode (qx_code 148) 76 = .ok (.bipush 73, 2) := by decide +kernel
theorem dq_148_78 : decode (qx_code 148) 78 = .ok (.if_icmp .eq 24, 3) := by decide +kernel
theorem dq_148_81 : decode (qx_code 148) 81 = .ok (.iload 4, 2) := by decide +kernel
theorem dq_148_83 : decode (qx_code 148) 83 = .ok (.bipush 74, 2) := by decide +kernel
theorem dq_148_85 : decode (qx_code 148) 85 = .ok (.if_icmp .eq 17, 3) := by decide +kernel
theorem dq_148_88 : decode (qx_code 148) 88 = .ok (.iload 4, 2) := by decide +kernel
theorem dq_148_90 : decode (qx_code 148) 90 = .ok (.bipush 83, 2) := by decide +kernel
theorem dq_148_92 : decode (qx_code 148) 92 = .ok (.if_icmp .eq 10, 3) := by decide +kernel
theorem dq_148_95 : decode (qx_code 148) 95 = .ok (.iload 4, 2) := by decide +kernel
theorem dq_148_97 : decode (qx_code 148) 97 = .ok (.bipush 90, 2) := by decide +kernel
theorem dq_148_99 : decode (qx_code 148) 99 = .ok (.if_icmp .ne 7, 3) := by decide +kernel
theorem dq_148_102 : decode (qx_code 148) 102 = .ok (.iload_n 3, 1) := by decide +kernel
theorem dq_148_103 : decode (qx_code 148) 103 = .ok (.iconst 1, 1) := by decide +kernel
theorem dq_148_104 : decode (qx_code 148) 104 = .ok (.iadd, 1) := by decide +kernel
theorem dq_148_105 : decode (qx_code 148) 105 = .ok (.ireturn, 1) := by decide +kernel
theorem dq_148_106 : decode (qx_code 148) 106 = .ok (.iload 4, 2) := by decide +kernel
theorem dq_148_108 : decode (qx_code 148) 108 = .ok (.bipush 76, 2) := by decide +kernel
theorem dq_148_110 : decode (qx_code 148) 110 = .ok (.if_icmp .eq 5, 3) := by decide +kernel
theorem dq_148_113 : decode (qx_code 148) 113 = .ok (.iconst (-1), 1) := by decide +kernel
theorem dq_148_114 : decode (qx_code 148) 114 = .ok (.ireturn, 1) := by decide +kernel
theorem dq_148_115 : decode (qx_code 148) 115 = .ok (.iload_n 3, 1) := by decide +kernel
theorem dq_148_116 : decode (qx_code 148) 116 = .ok (.iconst 1, 1) := by decide +kernel
theorem dq_148_117 : decode (qx_code 148) 117 = .ok (.iadd, 1) := by decide +kernel
theorem dq_148_118 : decode (qx_code 148) 118 = .ok (.istore 5, 2) := by decide +kernel
theorem dq_148_120 : decode (qx_code 148) 120 = .ok (.iload 5, 2) := by decide +kernel
theorem dq_148_122 : decode (qx_code 148) 122 = .ok (.iload_n 2, 1) := by decide +kernel
theorem dq_148_123 : decode (qx_code 148) 123 = .ok (.if_icmp .ge 20, 3) := by decide +kernel
theorem dq_148_126 : decode (qx_code 148) 126 = .ok (.aload_n 0, 1) := by decide +kernel
theorem dq_148_127 : decode (qx_code 148) 127 = .ok (.iload 5, 2) := by decide +kernel
theorem dq_148_129 : decode (qx_code 148) 129 = .ok (.invokevirtual 35, 3) := by decide +kernel
theorem dq_148_132 : decode (qx_code 148) 132 = .ok (.bipush 59, 2) := by decide +kernel
theorem dq_148_134 : decode (qx_code 148) 134 = .ok (.if_icmp .eq 9, 3) := by decide +kernel
theorem dq_148_137 : decode (qx_code 148) 137 = .ok (.iinc 5 1, 3) := by decide +kernel
theorem dq_148_140 : decode (qx_code 148) 140 = .ok (.goto (-20), 3) := by decide +kernel
theorem dq_148_143 : decode (qx_code 148) 143 = .ok (.iload 5, 2) := by decide +kernel
theorem dq_148_145 : decode (qx_code 148) 145 = .ok (.iload_n 2, 1) := by decide +kernel
theorem dq_148_146 : decode (qx_code 148) 146 = .ok (.if_icmp .ge 22, 3) := by decide +kernel
theorem dq_148_149 : decode (qx_code 148) 149 = .ok (.aload_n 0, 1) := by decide +kernel
theorem dq_148_150 : decode (qx_code 148) 150 = .ok (.iload_n 3, 1) := by decide +kernel
theorem dq_148_151 : decode (qx_code 148) 151 = .ok (.iconst 1, 1) := by decide +kernel
theorem dq_148_152 : decode (qx_code 148) 152 = .ok (.iadd, 1) := by decide +kernel
theorem dq_148_153 : decode (qx_code 148) 153 = .ok (.iload 5, 2) := by decide +kernel
theorem dq_148_155 : decode (qx_code 148) 155 = .ok (.invokevirtual 109, 3) := by decide +kernel
theorem dq_148_158 : decode (qx_code 148) 158 = .ok (.ifCond .eq 10, 3) := by decide +kernel
theorem dq_148_161 : decode (qx_code 148) 161 = .ok (.iload 5, 2) := by decide +kernel
theorem dq_148_163 : decode (qx_code 148) 163 = .ok (.iconst 1, 1) := by decide +kernel
theorem dq_148_164 : decode (qx_code 148) 164 = .ok (.iadd, 1) := by decide +kernel
theorem dq_148_165 : decode (qx_code 148) 165 = .ok (.goto 4, 3) := by decide +kernel
theorem dq_148_168 : decode (qx_code 148) 168 = .ok (.iconst (-1), 1) := by decide +kernel
theorem dq_148_169 : decode (qx_code 148) 169 = .ok (.ireturn, 1) := by decide +kernel
theorem mt_148_35 : qx_mth 148 35 = some (138, 1) := by decide +kernel
theorem mt_148_109 : qx_mth 148 109 = some (144, 2) := by decide +kernel
theorem dq_149_0 : decode (qx_code 149) 0 = .ok (.iconst 0, 1) := by decide +kernel
theorem dq_149_1 : decode (qx_code 149) 1 = .ok (.istore_n 2, 1) := by decide +kernel
theorem dq_149_2 : decode (qx_code 149) 2 = .ok (.iload_n 2, 1) := by decide +kernel
theorem dq_149_3 : decode (qx_code 149) 3 = .ok (.aload_n 0, 1) := by decide +kernel
theorem dq_149_4 : decode (qx_code 149) 4 = .ok (.iload_n 1, 1) := by decide +kernel
theorem dq_149_5 : decode (qx_code 149) 5 = .ok (.invokevirtual 48, 3) := by decide +kernel
theorem dq_149_8 : decode (qx_code 149) 8 = .ok (.if_icmp .ge 37, 3) := by decide +kernel
theorem dq_149_11 : decode (qx_code 149) 11 = .ok (.aload_n 0, 1) := by decide +kernel
theorem dq_149_12 : decode (qx_code 149) 12 = .ok (.iload_n 1, 1) := by decide +kernel
theorem dq_149_13 : decode (qx_code 149) 13 = .ok (.iload_n 2, 1) := by decide +kernel
theorem dq_149_14 : decode (qx_code 149) 14 = .ok (.invokevirtual 53, 3) := by decide +kernel
theorem dq_149_17 : decode (qx_code 149) 17 = .ok (.istore_n 3, 1) := by decide +kernel
theorem dq_149_18 : decode (qx_code 149) 18 = .ok (.iload_n 3, 1) := by decide +kernel
theorem dq_149_19 : decode (qx_code 149) 19 = .ok (.invokestatic 105, 3) := by decide +kernel
theorem dq_149_22 : decode (qx_code 149) 22 = .ok (.ifCond .eq 15, 3) := by decide +kernel
theorem dq_149_25 : decode (qx_code 149) 25 = .ok (.iload_n 3, 1) := by decide +kernel
theorem dq_149_26 : decode (qx_code 149) 26 = .ok (.bipush 60, 2) := by decide +kernel
theorem dq_149_28 : decode (qx_code 149) 28 = .ok (.if_icmp .eq 9, 3) := by decide +kernel
theorem dq_149_31 : decode (qx_code 149) 31 = .ok (.iload_n 3, 1) := by decide +kernel
theorem dq_149_32 : decode (qx_code 149) 32 = .ok (.bipush 62, 2) := by decide +kernel
theorem dq_149_34 : decode (qx_code 149) 34 = .ok (.if_icmp .ne 5, 3) := by decide +kernel
theorem dq_149_37 : decode (qx_code 149) 37 = .ok (.iconst 0, 1) := by decide +kernel
theorem dq_149_38 : decode (qx_code 149) 38 = .ok (.ireturn, 1) := by decide +kernel
theorem dq_149_39 : decode (qx_code 149) 39 = .ok (.iinc 2 1, 3) := by decide +kernel
theorem dq_149_42 : decode (qx_code 149) 42 = .ok (.goto (-40), 3) := by decide +kernel
theorem dq_149_45 : decode (qx_code 149) 45 = .ok (.aload_n 0, 1) := by decide +kernel
theorem dq_149_46 : decode (qx_code 149) 46 = .ok (.iload_n 1, 1) := by decide +kernel
theorem dq_149_47 : decode (qx_code 149) 47 = .ok (.invokevirtual 48, 3) := by decide +kernel
theorem dq_149_50 : decode (qx_code 149) 50 = .ok (.ifCond .le 7, 3) := by decide +kernel
theorem dq_149_53 : decode (qx_code 149) 53 = .ok (.iconst 1, 1) := by decide +kernel
theorem dq_149_54 : decode (qx_code 149) 54 = .ok (.goto 4, 3) := by decide +kernel
theorem dq_149_57 : decode (qx_code 149) 57 = .ok (.iconst 0, 1) := by decide +kernel
theorem dq_149_58 : decode (qx_code 149) 58 = .ok (.ireturn, 1) := by decide +kernel
theorem mt_149_48 : qx_mth 149 48 = some (143, 1) := by decide +kernel
theorem mt_149_53 : qx_mth 149 53 = some (146, 2) := by decide +kernel
theorem mt_149_105 : qx_mth 149 105 = some (145, 1) := by decide +kernel
theorem dq_150_0 : decode (qx_code 150) 0 = .ok (.aload_n 0, 1) := by decide +kernel
theorem dq_150_1 : decode (qx_code 150) 1 = .ok (.iload_n 1, 1) := by decide +kernel
theorem dq_150_2 : decode (qx_code 150) 2 = .ok (.bipush 9, 2) := by decide +kernel
theorem dq_150_4 : decode (qx_code 150) 4 = .ok (.ldc2_w 57, 3) := by decide +kernel
theorem dq_150_7 : decode (qx_code 150) 7 = .ok (.ldc2_w 59, 3) := by decide +kernel
theorem dq_150_10 : decode (qx_code 150) 10 = .ok (.lconst 0, 1) := by decide +kernel
theorem dq_150_11 : decode (qx_code 150) 11 = .ok (.invokevirtual 61, 3) := by decide +kernel
theorem dq_150_14 : decode (qx_code 150) 14 = .ok (.ifCond .eq 5, 3) := by decide +kernel
theorem dq_150_17 : decode (qx_code 150) 17 = .ok (.iconst 1, 1) := by decide +kernel
theorem dq_150_18 : decode (qx_code 150) 18 = .ok (.ireturn, 1) := by decide +kernel
theorem dq_150_19 : decode (qx_code 150) 19 = .ok (.aload_n 0, 1) := by decide +kernel
theorem dq_150_20 : decode (qx_code 150) 20 = .ok (.iload_n 1, 1) := by decide +kernel
theorem dq_150_21 : decode (qx_code 150) 21 = .ok (.bipush 10, 2) := by decide +kernel
theorem dq_150_23 : decode (qx_code 150) 23 = .ok (.ldc2_w 65, 3) := by decide +kernel
theorem dq_150_26 : decode (qx_code 150) 26 = .ok (.ldc2_w 67, 3) := by decide +kernel
theorem dq_150_29 : decode (qx_code 150) 29 = .ok (.lconst 0, 1) := by decide +kernel
theorem dq_150_30 : decode (qx_code 150) 30 = .ok (.invokevirtual 61, 3) := by decide +kernel
theorem dq_150_33 : decode (qx_code 150) 33 = .ok (.ifCond .eq 5, 3) := by decide +kernel
theorem dq_150_36 : decode (qx_code 150) 36 = .ok (.iconst 2, 1) := by decide +kernel
theorem dq_150_37 : decode (qx_code 150) 37 = .ok (.ireturn, 1) := by decide +kernel
theorem dq_150_38 : decode (qx_code 150) 38 = .ok (.aload_n 0, 1) := by decide +kernel
theorem dq_150_39 : decode (qx_code 150) 39 = .ok (.iload_n 1, 1) := by decide +kernel
theorem dq_150_40 : decode (qx_code 150) 40 = .ok (.bipush 13, 2) := by decide +kernel
theorem dq_150_42 : decode (qx_code 150) 42 = .ok (.ldc2_w 69, 3) := by decide +kernel
theorem dq_150_45 : decode (qx_code 150) 45 = .ok (.ldc2_w 71, 3) := by decide +kernel
theorem dq_150_48 : decode (qx_code 150) 48 = .ok (.lconst 0, 1) := by decide +kernel
theorem dq_150_49 : decode (qx_code 150) 49 = .ok (.invokevirtual 61, 3) := by decide +kernel
theorem dq_150_52 : decode (qx_code 150) 52 = .ok (.ifCond .eq 5, 3) := by decide +kernel
theorem dq_150_55 : decode (qx_code 150) 55 = .ok (.iconst 3, 1) := by decide +kernel
theorem dq_150_56 : decode (qx_code 150) 56 = .ok (.ireturn, 1) := by decide +kernel
theorem dq_150_57 : decode (qx_code 150) 57 = .ok (.aload_n 0, 1) := by decide +kernel
theorem dq_150_58 : decode (qx_code 150) 58 = .ok (.iload_n 1, 1) := by decide +kernel
theorem dq_150_59 : decode (qx_code 150) 59 = .ok (.bipush 10, 2) := by decide +kernel
theorem dq_150_61 : decode (qx_code 150) 61 = .ok (.ldc2_w 73, 3) := by decide +kernel
theorem dq_150_64 : decode (qx_code 150) 64 = .ok (.ldc2_w 75, 3) := by decide +kernel
theorem dq_150_67 : decode (qx_code 150) 67 = .ok (.lconst 0, 1) := by decide +kernel
theorem dq_150_68 : decode (qx_code 150) 68 = .ok (.invokevirtual 61, 3) := by decide +kernel
theorem dq_150_71 : decode (qx_code 150) 71 = .ok (.ifCond .eq 5, 3) := by decide +kernel
theorem dq_150_74 : decode (qx_code 150) 74 = .ok (.iconst 4, 1) := by decide +kernel
theorem dq_150_75 : decode (qx_code 150) 75 = .ok (.ireturn, 1) := by decide +kernel
theorem dq_150_76 : decode (qx_code 150) 76 = .ok (.aload_n 0, 1) := by decide +kernel
theorem dq_150_77 : decode (qx_code 150) 77 = .ok (.iload_n 1, 1) := by decide +kernel
theorem dq_150_78 : decode (qx_code 150) 78 = .ok (.bipush 12, 2) := by decide +kernel
theorem dq_150_80 : decode (qx_code 150) 80 = .ok (.ldc2_w 77, 3) := by decide +kernel
theorem dq_150_83 : decode (qx_code 150) 83 = .ok (.ldc2_w 79, 3) := by decide +kernel
theorem dq_150_86 : decode (qx_code 150) 86 = .ok (.lconst 0, 1) := by decide +kernel
theorem dq_150_87 : decode (qx_code 150) 87 = .ok (.invokevirtual 61, 3) := by decide +kernel
theorem dq_150_90 : decode (qx_code 150) 90 = .ok (.ifCond .eq 5, 3) := by decide +kernel
theorem dq_150_93 : decode (qx_code 150) 93 = .ok (.iconst 5, 1) := by decide +kernel
theorem dq_150_94 : decode (qx_code 150) 94 = .ok (.ireturn, 1) := by decide +kernel
theorem dq_150_95 : decode (qx_code 150) 95 = .ok (.aload_n 0, 1) := by decide +kernel
theorem dq_150_96 : decode (qx_code 150) 96 = .ok (.iload_n 1, 1) := by decide +kernel
theorem dq_150_97 : decode (qx_code 150) 97 = .ok (.bipush 11, 2) := by decide +kernel
theorem dq_150_99 : decode (qx_code 150) 99 = .ok (.ldc2_w 81, 3) := by decide +kernel
theorem dq_150_102 : decode (qx_code 150) 102 = .ok (.ldc2_w 83, 3) := by decide +kernel
theorem dq_150_105 : decode (qx_code 150) 105 = .ok (.lconst 0, 1) := by decide +kernel
theorem dq_150_106 : decode (qx_code 150) 106 = .ok (.invokevirtual 61, 3) := by decide +kernel
theorem dq_150_109 : decode (qx_code 150) 109 = .ok (.ifCond .eq 6, 3) := by decide +kernel
theorem dq_150_112 : decode (qx_code 150) 112 = .ok (.bipush 6, 2) := by decide +kernel
theorem dq_150_114 : decode (qx_code 150) 114 = .ok (.ireturn, 1) := by decide +kernel
theorem dq_150_115 : decode (qx_code 150) 115 = .ok (.aload_n 0, 1) := by decide +kernel
theorem dq_150_116 : decode (qx_code 150) 116 = .ok (.iload_n 1, 1) := by decide +kernel
theorem dq_150_117 : decode (qx_code 150) 117 = .ok (.bipush 19, 2) := by decide +kernel
theorem dq_150_119 : decode (qx_code 150) 119 = .ok (.ldc2_w 85, 3) := by decide +kernel
theorem dq_150_122 : decode (qx_code 150) 122 = .ok (.ldc2_w 87, 3) := by decide +kernel
theorem dq_150_125 : decode (qx_code 150) 125 = .ok (.ldc2_w 89, 3) := by decide +kernel
theorem dq_150_128 : decode (qx_code 150) 128 = .ok (.invokevirtual 61, 3) := by decide +kernel
theorem dq_150_131 : decode (qx_code 150) 131 = .ok (.ifCond .eq 6, 3) := by decide +kernel
theorem dq_150_134 : decode (qx_code 150) 134 = .ok (.bipush 7, 2) := by decide +kernel
theorem dq_150_136 : decode (qx_code 150) 136 = .ok (.ireturn, 1) := by decide +kernel
theorem dq_150_137 : decode (qx_code 150) 137 = .ok (.aload_n 0, 1) := by decide +kernel
theorem dq_150_138 : decode (qx_code 150) 138 = .ok (.iload_n 1, 1) := by decide +kernel
theorem dq_150_139 : decode (qx_code 150) 139 = .ok (.bipush 8, 2) := by decide +kernel
theorem dq_150_141 : decode (qx_code 150) 141 = .ok (.ldc2_w 91, 3) := by decide +kernel
theorem dq_150_144 : decode (qx_code 150) 144 = .ok (.lconst 0, 1) := by decide +kernel
theorem dq_150_145 : decode (qx_code 150) 145 = .ok (.lconst 0, 1) := by decide +kernel
theorem dq_150_146 : decode (qx_code 150) 146 = .ok (.invokevirtual 61, 3) := by decide +kernel
theorem dq_150_149 : decode (qx_code 150) 149 = .ok (.ifCond .eq 6, 3) := by decide +kernel
theorem dq_150_152 : decode (qx_code 150) 152 = .ok (.bipush 8, 2) := by decide +kernel
theorem dq_150_154 : decode (qx_code 150) 154 = .ok (.ireturn, 1) := by decide +kernel
theorem dq_150_155 : decode (qx_code 150) 155 = .ok (.aload_n 0, 1) := by decide +kernel
theorem dq_150_156 : decode (qx_code 150) 156 = .ok (.iload_n 1, 1) := by decide +kernel
theorem dq_150_157 : decode (qx_code 150) 157 = .ok (.bipush 6, 2) := by decide +kernel
theorem dq_150_159 : decode (qx_code 150) 159 = .ok (.ldc2_w 93, 3) := by decide +kernel
theorem dq_150_162 : decode (qx_code 150) 162 = .ok (.lconst 0, 1) := by decide +kernel
theorem dq_150_163 : decode (qx_code 150) 163 = .ok (.lconst 0, 1) := by decide +kernel
theorem dq_150_164 : decode (qx_code 150) 164 = .ok (.invokevirtual 61, 3) := by decide +kernel
theorem dq_150_167 : decode (qx_code 150) 167 = .ok (.ifCond .eq 6, 3) := by decide +kernel
theorem dq_150_170 : decode (qx_code 150) 170 = .ok (.bipush 9, 2) := by decide +kernel
theorem dq_150_172 : decode (qx_code 150) 172 = .ok (.ireturn, 1) := by decide +kernel
theorem dq_150_173 : decode (qx_code 150) 173 = .ok (.aload_n 0, 1) := by decide +kernel
theorem dq_150_174 : decode (qx_code 150) 174 = .ok (.iload_n 1, 1) := by decide +kernel
theorem dq_150_175 : decode (qx_code 150) 175 = .ok (.bipush 18, 2) := by decide +kernel
theorem dq_150_177 : decode (qx_code 150) 177 = .ok (.ldc2_w 95, 3) := by decide +kernel
theorem dq_150_180 : decode (qx_code 150) 180 = .ok (.ldc2_w 97, 3) := by decide +kernel
theorem dq_150_183 : decode (qx_code 150) 183 = .ok (.ldc2_w 99, 3) := by decide +kernel
theorem dq_150_186 : decode (qx_code 150) 186 = .ok (.invokevirtual 61, 3) := by decide +kernel
theorem dq_150_189 : decode (qx_code 150) 189 = .ok (.ifCond .eq 6, 3) := by decide +kernel
theorem dq_150_192 : decode (qx_code 150) 192 = .ok (.bipush 10, 2) := by decide +kernel
theorem dq_150_194 : decode (qx_code 150) 194 = .ok (.ireturn, 1) := by decide +kernel
theorem dq_150_195 : decode (qx_code 150) 195 = .ok (.aload_n 0, 1) := by decide +kernel
theorem dq_150_196 : decode (qx_code 150) 196 = .ok (.iload_n 1, 1) := by decide +kernel
theorem dq_150_197 : decode (qx_code 150) 197 = .ok (.bipush 6, 2) := by decide +kernel
theorem dq_150_199 : decode (qx_code 150) 199 = .ok (.ldc2_w 101, 3) := by decide +kernel
theorem dq_150_202 : decode (qx_code 150) 202 = .ok (.lconst 0, 1) := by decide +kernel
theorem dq_150_203 : decode (qx_code 150) 203 = .ok (.lconst 0, 1) := by decide +kernel
theorem dq_150_204 : decode (qx_code 150) 204 = .ok (.invokevirtual 61, 3) := by decide +kernel
theorem dq_150_207 : decode (qx_code 150) 207 = .ok (.ifCond .eq 6, 3) := by decide +kernel
theorem dq_150_210 : decode (qx_code 150) 210 = .ok (.bipush 11, 2) := by decide +kernel
theorem dq_150_212 : decode (qx_code 150) 212 = .ok (.ireturn, 1) := by decide +kernel
theorem dq_150_213 : decode (qx_code 150) 213 = .ok (.aload_n 0, 1) := by decide +kernel
theorem dq_150_214 : decode (qx_code 150) 214 = .ok (.iload_n 1, 1) := by decide +kernel
theorem dq_150_215 : decode (qx_code 150) 215 = .ok (.bipush 8, 2) := by decide +kernel
theorem dq_150_217 : decode (qx_code 150) 217 = .ok (.ldc2_w 103, 3) := by decide +kernel
theorem dq_150_220 : decode (qx_code 150) 220 = .ok (.lconst 0, 1) := by decide +kernel
theorem dq_150_221 : decode (qx_code 150) 221 = .ok (.lconst 0, 1) := by decide +kernel
theorem dq_150_222 : decode (qx_code 150) 222 = .ok (.invokevirtual 61, 3) := by decide +kernel
theorem dq_150_225 : decode (qx_code 150) 225 = .ok (.ifCond .eq 6, 3) := by decide +kernel
theorem dq_150_228 : decode (qx_code 150) 228 = .ok (.bipush 12, 2) := by decide +kernel
theorem dq_150_230 : decode (qx_code 150) 230 = .ok (.ireturn, 1) := by decide +kernel
theorem dq_150_231 : decode (qx_code 150) 231 = .ok (.iconst 0, 1) := by decide +kernel
theorem dq_150_232 : decode (qx_code 150) 232 = .ok (.ireturn, 1) := by decide +kernel
theorem mt_150_61 : qx_mth 150 61 = some (151, 5) := by decide +kernel
theorem dq_151_0 : decode (qx_code 151) 0 = .ok (.aload_n 0, 1) := by decide +kernel
theorem dq_151_1 : decode (qx_code 151) 1 = .ok (.iload_n 1, 1) := by decide +kernel
theorem dq_151_2 : decode (qx_code 151) 2 = .ok (.invokevirtual 48, 3) := by decide +kernel
theorem dq_151_5 : decode (qx_code 151) 5 = .ok (.iload_n 2, 1) := by decide +kernel
theorem dq_151_6 : decode (qx_code 151) 6 = .ok (.if_icmp .eq 5, 3) := by decide +kernel
theorem dq_151_9 : decode (qx_code 151) 9 = .ok (.iconst 0, 1) := by decide +kernel
theorem dq_151_10 : decode (qx_code 151) 10 = .ok (.ireturn, 1) := by decide +kernel
theorem dq_151_11 : decode (qx_code 151) 11 = .ok (.lconst 0, 1) := by decide +kernel
theorem dq_151_12 : decode (qx_code 151) 12 = .ok (.lstore 9, 2) := by decide +kernel
theorem dq_151_14 : decode (qx_code 151) 14 = .ok (.iconst 0, 1) := by decide +kernel
theorem dq_151_15 : decode (qx_code 151) 15 = .ok (.istore 11, 2) := by decide +kernel
theorem dq_151_17 : decode (qx_code 151) 17 = .ok (.iload 11, 2) := by decide +kernel
theorem dq_151_19 : decode (qx_code 151) 19 = .ok (.iload_n 2, 1) := by decide +kernel
theorem dq_151_20 : decode (qx_code 151) 20 = .ok (.if_icmp .ge 83, 3) := by decide +kernel
theorem dq_151_23 : decode (qx_code 151) 23 = .ok (.lload 9, 2) := by decide +kernel
theorem dq_151_25 : decode (qx_code 151) 25 = .ok (.ldc2_w 51, 3) := by decide +kernel
theorem dq_151_28 : decode (qx_code 151) 28 = .ok (.lmul, 1) := by decide +kernel
theorem dq_151_29 : decode (qx_code 151) 29 = .ok (.aload_n 0, 1) := by decide +kernel
theorem dq_151_30 : decode (qx_code 151) 30 = .ok (.iload_n 1, 1) := by decide +kernel
theorem dq_151_31 : decode (qx_code 151) 31 = .ok (.iload 11, 2) := by decide +kernel
theorem dq_151_33 : decode (qx_code 151) 33 = .ok (.invokevirtual 53, 3) := by decide +kernel
theorem dq_151_36 : decode (qx_code 151) 36 = .ok (.i2l, 1) := by decide +kernel
theorem dq_151_37 : decode (qx_code 151) 37 = .ok (.ladd, 1) := by decide +kernel
theorem dq_151_38 : decode (qx_code 151) 38 = .ok (.lstore 9, 2) := by decide +kernel
theorem dq_151_40 : decode (qx_code 151) 40 = .ok (.iload 11, 2) := by decide +kernel
theorem dq_151_42 : decode (qx_code 151) 42 = .ok (.bipush 8, 2) := by decide +kernel
theorem dq_151_44 : decode (qx_code 151) 44 = .ok (.irem, 1) := by decide +kernel
theorem dq_151_45 : decode (qx_code 151) 45 = .ok (.bipush 7, 2) := by decide +kernel
theorem dq_151_47 : decode (qx_code 151) 47 = .ok (.if_icmp .eq 14, 3) := by decide +kernel
theorem dq_151_50 : decode (qx_code 151) 50 = .ok (.iload 11, 2) := by decide +kernel
theorem dq_151_52 : decode (qx_code 151) 52 = .ok (.iload_n 2, 1) := by decide +kernel
theorem dq_151_53 : decode (qx_code 151) 53 = .ok (.iconst 1, 1) := by decide +kernel
theorem dq_151_54 : decode (qx_code 151) 54 = .ok (.isub, 1) := by decide +kernel
theorem dq_151_55 : decode (qx_code 151) 55 = .ok (.if_icmp .eq 6, 3) := by decide +kernel
theorem dq_151_58 : decode (qx_code 151) 58 = .ok (.goto 39, 3) := by decide +kernel
theorem dq_151_61 : decode (qx_code 151) 61 = .ok (.lload 9, 2) := by decide +kernel
theorem dq_151_63 : decode (qx_code 151) 63 = .ok (.iload 11, 2) := by decide +kernel
theorem dq_151_65 : decode (qx_code 151) 65 = .ok (.bipush 8, 2) := by decide +kernel
theorem dq_151_67 : decode (qx_code 151) 67 = .ok (.if_icmp .ge 7, 3) := by decide +kernel
theorem dq_151_70 : decode (qx_code 151) 70 = .ok (.lload_n 3, 1) := by decide +kernel
theorem dq_151_71 : decode (qx_code 151) 71 = .ok (.goto 17, 3) := by decide +kernel
theorem dq_151_74 : decode (qx_code 151) 74 = .ok (.iload 11, 2) := by decide +kernel
theorem dq_151_76 : decode (qx_code 151) 76 = .ok (.bipush 16, 2) := by decide +kernel
theorem dq_151_78 : decode (qx_code 151) 78 = .ok (.if_icmp .ge 8, 3) := by decide +kernel
theorem dq_151_81 : decode (qx_code 151) 81 = .ok (.lload 5, 2) := by decide +kernel
theorem dq_151_83 : decode (qx_code 151) 83 = .ok (.goto 5, 3) := by decide +kernel
theorem dq_151_86 : decode (qx_code 151) 86 = .ok (.lload 7, 2) := by decide +kernel
theorem dq_151_88 : decode (qx_code 151) 88 = .ok (.lcmp, 1) := by decide +kernel
theorem dq_151_89 : decode (qx_code 151) 89 = .ok (.ifCond .eq 5, 3) := by decide +kernel
theorem dq_151_92 : decode (qx_code 151) 92 = .ok (.iconst 0, 1) := by decide +kernel
theorem dq_151_93 : decode (qx_code 151) 93 = .ok (.ireturn, 1) := by decide +kernel
theorem dq_151_94 : decode (qx_code 151) 94 = .ok (.lconst 0, 1) := by decide +kernel
theorem dq_151_95 : decode (qx_code 151) 95 = .ok (.lstore 9, 2) := by decide +kernel
theorem dq_151_97 : decode (qx_code 151) 97 = .ok (.iinc 11 1, 3) := by decide +kernel
theorem dq_151_100 : decode (qx_code 151) 100 = .ok (.goto (-83), 3) := by decide +kernel
theorem dq_151_103 : decode (qx_code 151) 103 = .ok (.iconst 1, 1) := by decide +kernel
theorem dq_151_104 : decode (qx_code 151) 104 = .ok (.ireturn, 1) := by decide +kernel
theorem mt_151_48 : qx_mth 151 48 = some (143, 1) := by decide +kernel
theorem mt_151_53 : qx_mth 151 53 = some (146, 2) := by decide +kernel
theorem dq_152_0 : decode (qx_code 152) 0 = .ok (.aload_n 0, 1) := by decide +kernel
theorem dq_152_1 : decode (qx_code 152) 1 = .ok (.iload_n 1, 1) := by decide +kernel
theorem dq_152_2 : decode (qx_code 152) 2 = .ok (.invokevirtual 45, 3) := by decide +kernel
theorem dq_152_5 : decode (qx_code 152) 5 = .ok (.istore_n 2, 1) := by decide +kernel
theorem dq_152_6 : decode (qx_code 152) 6 = .ok (.iload_n 2, 1) := by decide +kernel
theorem dq_152_7 : decode (qx_code 152) 7 = .ok (.aload_n 0, 1) := by decide +kernel
theorem dq_152_8 : decode (qx_code 152) 8 = .ok (.iload_n 1, 1) := by decide +kernel
theorem dq_152_9 : decode (qx_code 152) 9 = .ok (.invokevirtual 48, 3) := by decide +kernel
theorem dq_152_12 : decode (qx_code 152) 12 = .ok (.iadd, 1) := by decide +kernel
theorem dq_152_13 : decode (qx_code 152) 13 = .ok (.istore_n 3, 1) := by decide +kernel
theorem dq_152_14 : decode (qx_code 152) 14 = .ok (.iload_n 2, 1) := by decide +kernel
theorem dq_152_15 : decode (qx_code 152) 15 = .ok (.iload_n 3, 1) := by decide +kernel
theorem dq_152_16 : decode (qx_code 152) 16 = .ok (.if_icmp .eq 13, 3) := by decide +kernel
theorem dq_152_19 : decode (qx_code 152) 19 = .ok (.aload_n 0, 1) := by decide +kernel
theorem dq_152_20 : decode (qx_code 152) 20 = .ok (.iload_n 2, 1) := by decide +kernel
theorem dq_152_21 : decode (qx_code 152) 21 = .ok (.invokevirtual 35, 3) := by decide +kernel
theorem dq_152_24 : decode (qx_code 152) 24 = .ok (.bipush 40, 2) := by decide +kernel
theorem dq_152_26 : decode (qx_code 152) 26 = .ok (.if_icmp .eq 5, 3) := by decide +kernel
theorem dq_152_29 : decode (qx_code 152) 29 = .ok (.iconst 0, 1) := by decide +kernel
theorem dq_152_30 : decode (qx_code 152) 30 = .ok (.ireturn, 1) := by decide +kernel
theorem dq_152_31 : decode (qx_code 152) 31 = .ok (.iinc 2 1, 3) := by decide +kernel
theorem dq_152_34 : decode (qx_code 152) 34 = .ok (.iload_n 2, 1) := by decide +kernel
theorem dq_152_35 : decode (qx_code 152) 35 = .ok (.ifCond .lt 28, 3) := by decide +kernel
theorem dq_152_38 : decode (qx_code 152) 38 = .ok (.iload_n 2, 1) := by decide +kernel
theorem dq_152_39 : decode (qx_code 152) 39 = .ok (.iload_n 3, 1) := by decide +kernel
theorem dq_152_40 : decode (qx_code 152) 40 = .ok (.if_icmp .ge 23, 3) := by decide +kernel
theorem dq_152_43 : decode (qx_code 152) 43 = .ok (.aload_n 0, 1) := by decide +kernel
theorem dq_152_44 : decode (qx_code 152) 44 = .ok (.iload_n 2, 1) := by decide +kernel
theorem dq_152_45 : decode (qx_code 152) 45 = .ok (.invokevirtual 35, 3) := by decide +kernel
theorem dq_152_48 : decode (qx_code 152) 48 = .ok (.bipush 41, 2) := by decide +kernel
theorem dq_152_50 : decode (qx_code 152) 50 = .ok (.if_icmp .eq 13, 3) := by decide +kernel
theorem dq_152_53 : decode (qx_code 152) 53 = .ok (.aload_n 0, 1) := by decide +kernel
theorem dq_152_54 : decode (qx_code 152) 54 = .ok (.iload_n 2, 1) := by decide +kernel
theorem dq_152_55 : decode (qx_code 152) 55 = .ok (.iload_n 3, 1) := by decide +kernel
theorem dq_152_56 : decode (qx_code 152) 56 = .ok (.invokevirtual 113, 3) := by decide +kernel
theorem dq_152_59 : decode (qx_code 152) 59 = .ok (.istore_n 2, 1) := by decide +kernel
theorem dq_152_60 : decode (qx_code 152) 60 = .ok (.goto (-26), 3) := by decide +kernel
theorem dq_152_63 : decode (qx_code 152) 63 = .ok (.iload_n 2, 1) := by decide +kernel
theorem dq_152_64 : decode (qx_code 152) 64 = .ok (.ifCond .lt 10, 3) := by decide +kernel
theorem dq_152_67 : decode (qx_code 152) 67 = .ok (.iload_n 2, 1) := by decide +kernel
theorem dq_152_68 : decode (qx_code 152) 68 = .ok (.iload_n 3, 1) := by decide +kernel
theorem dq_152_69 : decode (qx_code 152) 69 = .ok (.iconst 1, 1) := by decide +kernel
theorem dq_152_70 : decode (qx_code 152) 70 = .ok (.isub, 1) := by decide +kernel
theorem dq_152_71 : decode (qx_code 152) 71 = .ok (.if_icmp .lt 5, 3) := by decide +kernel
theorem dq_152_74 : decode (qx_code 152) 74 = .ok (.iconst 0, 1) := by decide +kernel
theorem dq_152_75 : decode (qx_code 152) 75 = .ok (.ireturn, 1) := by decide +kernel
theorem dq_152_76 : decode (qx_code 152) 76 = .ok (.aload_n 0, 1) := by decide +kernel
theorem dq_152_77 : decode (qx_code 152) 77 = .ok (.iload_n 2, 1) := by decide +kernel
theorem dq_152_78 : decode (qx_code 152) 78 = .ok (.iconst 1, 1) := by decide +kernel
theorem dq_152_79 : decode (qx_code 152) 79 = .ok (.iadd, 1) := by decide +kernel
theorem dq_152_80 : decode (qx_code 152) 80 = .ok (.invokevirtual 35, 3) := by decide +kernel
theorem dq_152_83 : decode (qx_code 152) 83 = .ok (.bipush 86, 2) := by decide +kernel
theorem dq_152_85 : decode (qx_code 152) 85 = .ok (.if_icmp .ne 10, 3) := by decide +kernel
theorem dq_152_88 : decode (qx_code 152) 88 = .ok (.iload_n 2, 1) := by decide +kernel
theorem dq_152_89 : decode (qx_code 152) 89 = .ok (.iconst 2, 1) := by decide +kernel
theorem dq_152_90 : decode (qx_code 152) 90 = .ok (.iadd, 1) := by decide +kernel
theorem dq_152_91 : decode (qx_code 152) 91 = .ok (.iload_n 3, 1) := by decide +kernel
theorem dq_152_92 : decode (qx_code 152) 92 = .ok (.if_icmp .eq 15, 3) := by decide +kernel
theorem dq_152_95 : decode (qx_code 152) 95 = .ok (.aload_n 0, 1) := by decide +kernel
theorem dq_152_96 : decode (qx_code 152) 96 = .ok (.iload_n 2, 1) := by decide +kernel
theorem dq_152_97 : decode (qx_code 152) 97 = .ok (.iconst 1, 1) := by decide +kernel
theorem dq_152_98 : decode (qx_code 152) 98 = .ok (.iadd, 1) := by decide +kernel
theorem dq_152_99 : decode (qx_code 152) 99 = .ok (.iload_n 3, 1) := by decide +kernel
theorem dq_152_100 : decode (qx_code 152) 100 = .ok (.invokevirtual 113, 3) := by decide +kernel
theorem dq_152_103 : decode (qx_code 152) 103 = .ok (.iload_n 3, 1) := by decide +kernel
theorem dq_152_104 : decode (qx_code 152) 104 = .ok (.if_icmp .ne 7, 3) := by decide +kernel
theorem dq_152_107 : decode (qx_code 152) 107 = .ok (.iconst 1, 1) := by decide +kernel
theorem dq_152_108 : decode (qx_code 152) 108 = .ok (.goto 4, 3) := by decide +kernel
theorem dq_152_111 : decode (qx_code 152) 111 = .ok (.iconst 0, 1) := by decide +kernel
theorem dq_152_112 : decode (qx_code 152) 112 = .ok (.ireturn, 1) := by decide +kernel
theorem mt_152_45 : qx_mth 152 45 = some (142, 1) := by decide +kernel
theorem mt_152_48 : qx_mth 152 48 = some (143, 1) := by decide +kernel
theorem mt_152_35 : qx_mth 152 35 = some (138, 1) := by decide +kernel
theorem mt_152_113 : qx_mth 152 113 = some (148, 2) := by decide +kernel
theorem dq_153_0 : decode (qx_code 153) 0 = .ok (.iload_n 0, 1) := by decide +kernel
theorem dq_153_1 : decode (qx_code 153) 1 = .ok (.sipush 512, 3) := by decide +kernel
theorem dq_153_4 : decode (qx_code 153) 4 = .ok (.invokestatic 187, 3) := by decide +kernel
theorem dq_153_7 : decode (qx_code 153) 7 = .ok (.ifCond .eq 29, 3) := by decide +kernel
theorem dq_153_10 : decode (qx_code 153) 10 = .ok (.iload_n 0, 1) := by decide +kernel
theorem dq_153_11 : decode (qx_code 153) 11 = .ok (.sipush 1024, 3) := by decide +kernel
theorem dq_153_14 : decode (qx_code 153) 14 = .ok (.invokestatic 187, 3) := by decide +kernel
theorem dq_153_17 : decode (qx_code 153) 17 = .ok (.ifCond .eq 13, 3) := by decide +kernel
theorem dq_153_20 : decode (qx_code 153) 20 = .ok (.iload_n 0, 1) := by decide +kernel
theorem dq_153_21 : decode (qx_code 153) 21 = .ok (.sipush 16432, 3) := by decide +kernel
theorem dq_153_24 : decode (qx_code 153) 24 = .ok (.invokestatic 187, 3) := by decide +kernel
theorem dq_153_27 : decode (qx_code 153) 27 = .ok (.ifCond .eq 7, 3) := by decide +kernel
theorem dq_153_30 : decode (qx_code 153) 30 = .ok (.iconst 1, 1) := by decide +kernel
theorem dq_153_31 : decode (qx_code 153) 31 = .ok (.goto 4, 3) := by decide +kernel
theorem dq_153_34 : decode (qx_code 153) 34 = .ok (.iconst 0, 1) := by decide +kernel
theorem dq_153_35 : decode (qx_code 153) 35 = .ok (.ireturn, 1) := by decide +kernel
theorem dq_153_36 : decode (qx_code 153) 36 = .ok (.iload_n 0, 1) := by decide +kernel
theorem dq_153_37 : decode (qx_code 153) 37 = .ok (.bipush 16, 2) := by decide +kernel
theorem dq_153_39 : decode (qx_code 153) 39 = .ok (.invokestatic 187, 3) := by decide +kernel
theorem dq_153_42 : decode (qx_code 153) 42 = .ok (.ifCond .eq 13, 3) := by decide +kernel
theorem dq_153_45 : decode (qx_code 153) 45 = .ok (.iload_n 0, 1) := by decide +kernel
theorem dq_153_46 : decode (qx_code 153) 46 = .ok (.sipush 1024, 3) := by decide +kernel
theorem dq_153_49 : decode (qx_code 153) 49 = .ok (.invokestatic 187, 3) := by decide +kernel
theorem dq_153_52 : decode (qx_code 153) 52 = .ok (.ifCond .ne 13, 3) := by decide +kernel
theorem dq_153_55 : decode (qx_code 153) 55 = .ok (.iload_n 0, 1) := by decide +kernel
theorem dq_153_56 : decode (qx_code 153) 56 = .ok (.sipush 8192, 3) := by decide +kernel
theorem dq_153_59 : decode (qx_code 153) 59 = .ok (.invokestatic 187, 3) := by decide +kernel
theorem dq_153_62 : decode (qx_code 153) 62 = .ok (.ifCond .eq 7, 3) := by decide +kernel
theorem dq_153_65 : decode (qx_code 153) 65 = .ok (.iconst 1, 1) := by decide +kernel
theorem dq_153_66 : decode (qx_code 153) 66 = .ok (.goto 4, 3) := by decide +kernel
theorem dq_153_69 : decode (qx_code 153) 69 = .ok (.iconst 0, 1) := by decide +kernel
theorem dq_153_70 : decode (qx_code 153) 70 = .ok (.ireturn, 1) := by decide +kernel
theorem mt_153_187 : qx_mth 153 187 = some (154, 2) := by decide +kernel
theorem dq_154_0 : decode (qx_code 154) 0 = .ok (.iload_n 0, 1) := by decide +kernel
theorem dq_154_1 : decode (qx_code 154) 1 = .ok (.iload_n 1, 1) := by decide +kernel
theorem dq_154_2 : decode (qx_code 154) 2 = .ok (.iand, 1) := by decide +kernel
theorem dq_154_3 : decode (qx_code 154) 3 = .ok (.ifCond .eq 7, 3) := by decide +kernel
theorem dq_154_6 : decode (qx_code 154) 6 = .ok (.iconst 1, 1) := by decide +kernel
theorem dq_154_7 : decode (qx_code 154) 7 = .ok (.goto 4, 3) := by decide +kernel
theorem dq_154_10 : decode (qx_code 154) 10 = .ok (.iconst 0, 1) := by decide +kernel
theorem dq_154_11 : decode (qx_code 154) 11 = .ok (.ireturn, 1) := by decide +kernel
theorem dq_155_0 : decode (qx_code 155) 0 = .ok (.aload_n 0, 1) := by decide +kernel
theorem dq_155_1 : decode (qx_code 155) 1 = .ok (.iconst 0, 1) := by decide +kernel
theorem dq_155_2 : decode (qx_code 155) 2 = .ok (.invokevirtual 183, 3) := by decide +kernel
theorem dq_155_5 : decode (qx_code 155) 5 = .ok (.ireturn, 1) := by decide +kernel
theorem mt_155_183 : qx_mth 155 183 = some (156, 1) := by decide +kernel
theorem dq_156_0 : decode (qx_code 156) 0 = .ok (.aload_n 0, 1) := by decide +kernel
theorem dq_156_1 : decode (qx_code 156) 1 = .ok (.getfield 119, 3) := by decide +kernel
theorem dq_156_4 : decode (qx_code 156) 4 = .ok (.istore_n 2, 1) := by decide +kernel
theorem dq_156_5 : decode (qx_code 156) 5 = .ok (.aload_n 0, 1) := by decide +kernel
theorem dq_156_6 : decode (qx_code 156) 6 = .ok (.bipush 7, 2) := by decide +kernel
theorem dq_156_8 : decode (qx_code 156) 8 = .ok (.iload_n 1, 1) := by decide +kernel
theorem dq_156_9 : decode (qx_code 156) 9 = .ok (.invokevirtual 173, 3) := by decide +kernel
theorem dq_156_12 : decode (qx_code 156) 12 = .ok (.istore_n 3, 1) := by decide +kernel
theorem dq_156_13 : decode (qx_code 156) 13 = .ok (.aload_n 0, 1) := by decide +kernel
theorem dq_156_14 : decode (qx_code 156) 14 = .ok (.getfield 116, 3) := by decide +kernel
theorem dq_156_17 : decode (qx_code 156) 17 = .ok (.ifCond .ne 26, 3) := by decide +kernel
theorem dq_156_20 : decode (qx_code 156) 20 = .ok (.iload_n 3, 1) := by decide +kernel
theorem dq_156_21 : decode (qx_code 156) 21 = .ok (.ifCond .le 22, 3) := by decide +kernel
theorem dq_156_24 : decode (qx_code 156) 24 = .ok (.aload_n 0, 1) := by decide +kernel
theorem dq_156_25 : decode (qx_code 156) 25 = .ok (.aload_n 0, 1) := by decide +kernel
theorem dq_156_26 : decode (qx_code 156) 26 = .ok (.iload_n 3, 1) := by decide +kernel
theorem dq_156_27 : decode (qx_code 156) 27 = .ok (.invokevirtual 148, 3) := by decide +kernel
theorem dq_156_30 : decode (qx_code 156) 30 = .ok (.invokevirtual 151, 3) := by decide +kernel
theorem dq_156_33 : decode (qx_code 156) 33 = .ok (.ifCond .ne 10, 3) := by decide +kernel
theorem dq_156_36 : decode (qx_code 156) 36 = .ok (.aload_n 0, 1) := by decide +kernel
theorem dq_156_37 : decode (qx_code 156) 37 = .ok (.bipush 7, 2) := by decide +kernel
theorem dq_156_39 : decode (qx_code 156) 39 = .ok (.iload_n 2, 1) := by decide +kernel
theorem dq_156_40 : decode (qx_code 156) 40 = .ok (.invokevirtual 122, 3) := by decide +kernel
theorem dq_156_43 : decode (qx_code 156) 43 = .ok (.iload_n 3, 1) := by decide +kernel
theorem dq_156_44 : decode (qx_code 156) 44 = .ok (.ireturn, 1) := by decide +kernel
theorem fl_156_119 : qx_fld 156 119 = some (5, 7) := by decide +kernel
theorem mt_156_173 : qx_mth 156 173 = some (157, 2) := by decide +kernel
theorem fl_156_116 : qx_fld 156 116 = some (5, 8) := by decide +kernel
theorem mt_156_148 : qx_mth 156 148 = some (139, 1) := by decide +kernel
theorem mt_156_151 : qx_mth 156 151 = some (141, 1) := by decide +kernel
theorem mt_156_122 : qx_mth 156 122 = some (130, 2) := by decide +kernel
theorem dq_157_0 : decode (qx_code 157) 0 = .ok (.aload_n 0, 1) := by decide +kernel
theorem dq_157_1 : decode (qx_code 157) 1 = .ok (.getfield 119, 3) := by decide +kernel
theorem dq_157_4 : decode (qx_code 157) 4 = .ok (.istore_n 3, 1) := by decide +kernel
theorem dq_157_5 : decode (qx_code 157) 5 = .ok (.aload_n 0, 1) := by decide +kernel
theorem dq_157_6 : decode (qx_code 157) 6 = .ok (.invokevirtual 134, 3) := by decide +kernel
theorem dq_157_9 : decode (qx_code 157) 9 = .ok (.istore 4, 2) := by decide +kernel
theorem dq_157_11 : decode (qx_code 157) 11 = .ok (.aload_n 0, 1) := by decide +kernel
theorem dq_157_12 : decode (qx_code 157) 12 = .ok (.getfield 116, 3) := by decide +kernel
theorem dq_157_15 : decode (qx_code 157) 15 = .ok (.ifCond .ne 28, 3) := by decide +kernel
theorem dq_157_18 : decode (qx_code 157) 18 = .ok (.aload_n 0, 1) := by decide +kernel
theorem dq_157_19 : decode (qx_code 157) 19 = .ok (.iload 4, 2) := by decide +kernel
theorem dq_157_21 : decode (qx_code 157) 21 = .ok (.invokevirtual 138, 3) := by decide +kernel
theorem dq_157_24 : decode (qx_code 157) 24 = .ok (.iload_n 1, 1) := by decide +kernel
theorem dq_157_25 : decode (qx_code 157) 25 = .ok (.if_icmp .eq 18, 3) := by decide +kernel
theorem dq_157_28 : decode (qx_code 157) 28 = .ok (.iload_n 2, 1) := by decide +kernel
theorem dq_157_29 : decode (qx_code 157) 29 = .ok (.ifCond .eq 8, 3) := by decide +kernel
theorem dq_157_32 : decode (qx_code 157) 32 = .ok (.iload 4, 2) := by decide +kernel
theorem dq_157_34 : decode (qx_code 157) 34 = .ok (.ifCond .eq 9, 3) := by decide +kernel
theorem dq_157_37 : decode (qx_code 157) 37 = .ok (.aload_n 0, 1) := by decide +kernel
theorem dq_157_38 : decode (qx_code 157) 38 = .ok (.iconst 5, 1) := by decide +kernel
theorem dq_157_39 : decode (qx_code 157) 39 = .ok (.iload_n 3, 1) := by decide +kernel
theorem dq_157_40 : decode (qx_code 157) 40 = .ok (.invokevirtual 122, 3) := by decide +kernel
theorem dq_157_43 : decode (qx_code 157) 43 = .ok (.iload 4, 2) := by decide +kernel
theorem dq_157_45 : decode (qx_code 157) 45 = .ok (.ireturn, 1) := by decide +kernel
theorem fl_157_119 : qx_fld 157 119 = some (5, 7) := by decide +kernel
theorem mt_157_134 : qx_mth 157 134 = some (131, 0) := by decide +kernel
theorem fl_157_116 : qx_fld 157 116 = some (5, 8) := by decide +kernel
theorem mt_157_138 : qx_mth 157 138 = some (136, 1) := by decide +kernel
theorem mt_157_122 : qx_mth 157 122 = some (130, 2) := by decide +kernel
theorem dq_158_0 : decode (qx_code 158) 0 = .ok (.aload_n 0, 1) := by decide +kernel
theorem dq_158_1 : decode (qx_code 158) 1 = .ok (.invokevirtual 134, 3) := by decide +kernel
theorem dq_158_4 : decode (qx_code 158) 4 = .ok (.istore_n 1, 1) := by decide +kernel
theorem dq_158_5 : decode (qx_code 158) 5 = .ok (.aload_n 0, 1) := by decide +kernel
theorem dq_158_6 : decode (qx_code 158) 6 = .ok (.getfield 119, 3) := by decide +kernel
theorem dq_158_9 : decode (qx_code 158) 9 = .ok (.istore_n 2, 1) := by decide +kernel
theorem dq_158_10 : decode (qx_code 158) 10 = .ok (.iconst 0, 1) := by decide +kernel
theorem dq_158_11 : decode (qx_code 158) 11 = .ok (.istore_n 3, 1) := by decide +kernel
theorem dq_158_12 : decode (qx_code 158) 12 = .ok (.iload_n 3, 1) := by decide +kernel
theorem dq_158_13 : decode (qx_code 158) 13 = .ok (.iload_n 1, 1) := by decide +kernel
theorem dq_158_14 : decode (qx_code 158) 14 = .ok (.if_icmp .ge 82, 3) := by decide +kernel
theorem dq_158_17 : decode (qx_code 158) 17 = .ok (.aload_n 0, 1) := by decide +kernel
theorem dq_158_18 : decode (qx_code 158) 18 = .ok (.getfield 116, 3) := by decide +kernel
theorem dq_158_21 : decode (qx_code 158) 21 = .ok (.ifCond .ne 75, 3) := by decide +kernel
theorem dq_158_24 : decode (qx_code 158) 24 = .ok (.aload_n 0, 1) := by decide +kernel
theorem dq_158_25 : decode (qx_code 158) 25 = .ok (.getfield 119, 3) := by decide +kernel
theorem dq_158_28 : decode (qx_code 158) 28 = .ok (.istore 4, 2) := by decide +kernel
theorem dq_158_30 : decode (qx_code 158) 30 = .ok (.aload_n 0, 1) := by decide +kernel
theorem dq_158_31 : decode (qx_code 158) 31 = .ok (.invokevirtual 177, 3) := by decide +kernel
theorem dq_158_34 : decode (qx_code 158) 34 = .ok (.istore 5, 2) := by decide +kernel
theorem dq_158_36 : decode (qx_code 158) 36 = .ok (.iload_n 2, 1) := by decide +kernel
theorem dq_158_37 : decode (qx_code 158) 37 = .ok (.istore 6, 2) := by decide +kernel
theorem dq_158_39 : decode (qx_code 158) 39 = .ok (.iload 6, 2) := by decide +kernel
theorem dq_158_41 : decode (qx_code 158) 41 = .ok (.iload 4, 2) := by decide +kernel
theorem dq_158_43 : decode (qx_code 158) 43 = .ok (.if_icmp .ge 47, 3) := by decide +kernel
theorem dq_158_46 : decode (qx_code 158) 46 = .ok (.aload_n 0, 1) := by decide +kernel
theorem dq_158_47 : decode (qx_code 158) 47 = .ok (.getfield 116, 3) := by decide +kernel
theorem dq_158_50 : decode (qx_code 158) 50 = .ok (.ifCond .ne 40, 3) := by decide +kernel
theorem dq_158_53 : decode (qx_code 158) 53 = .ok (.aload_n 0, 1) := by decide +kernel
theorem dq_158_54 : decode (qx_code 158) 54 = .ok (.aload_n 0, 1) := by decide +kernel
theorem dq_158_55 : decode (qx_code 158) 55 = .ok (.iload 5, 2) := by decide +kernel
theorem dq_158_57 : decode (qx_code 158) 57 = .ok (.invokevirtual 148, 3) := by decide +kernel
theorem dq_158_60 : decode (qx_code 158) 60 = .ok (.aload_n 0, 1) := by decide +kernel
theorem dq_158_61 : decode (qx_code 158) 61 = .ok (.aload_n 0, 1) := by decide +kernel
theorem dq_158_62 : decode (qx_code 158) 62 = .ok (.iload 6, 2) := by decide +kernel
theorem dq_158_64 : decode (qx_code 158) 64 = .ok (.invokevirtual 42, 3) := by decide +kernel
theorem dq_158_67 : decode (qx_code 158) 67 = .ok (.invokevirtual 148, 3) := by decide +kernel
theorem dq_158_70 : decode (qx_code 158) 70 = .ok (.invokevirtual 180, 3) := by decide +kernel
theorem dq_158_73 : decode (qx_code 158) 73 = .ok (.ifCond .eq 11, 3) := by decide +kernel
theorem dq_158_76 : decode (qx_code 158) 76 = .ok (.aload_n 0, 1) := by decide +kernel
theorem dq_158_77 : decode (qx_code 158) 77 = .ok (.bipush 9, 2) := by decide +kernel
theorem dq_158_79 : decode (qx_code 158) 79 = .ok (.iload 4, 2) := by decide +kernel
theorem dq_158_81 : decode (qx_code 158) 81 = .ok (.invokevirtual 122, 3) := by decide +kernel
theorem dq_158_84 : decode (qx_code 158) 84 = .ok (.iinc 6 2, 3) := by decide +kernel
theorem dq_158_87 : decode (qx_code 158) 87 = .ok (.goto (-48), 3) := by decide +kernel
theorem dq_158_90 : decode (qx_code 158) 90 = .ok (.iinc 3 1, 3) := by decide +kernel
theorem dq_158_93 : decode (qx_code 158) 93 = .ok (.goto (-81), 3) := by decide +kernel
theorem dq_158_96 : decode (qx_code 158) 96 = .ok (.aload_n 0, 1) := by decide +kernel
theorem dq_158_97 : decode (qx_code 158) 97 = .ok (.getfield 13, 3) := by decide +kernel
theorem dq_158_100 : decode (qx_code 158) 100 = .ok (.iconst 5, 1) := by decide +kernel
theorem dq_158_101 : decode (qx_code 158) 101 = .ok (.iload_n 1, 1) := by decide +kernel
theorem dq_158_102 : decode (qx_code 158) 102 = .ok (.iastore, 1) := by decide +kernel
theorem dq_158_103 : decode (qx_code 158) 103 = .ok (.aload_n 0, 1) := by decide +kernel
theorem dq_158_104 : decode (qx_code 158) 104 = .ok (.getfield 13, 3) := by decide +kernel
theorem dq_158_107 : decode (qx_code 158) 107 = .ok (.bipush 6, 2) := by decide +kernel
theorem dq_158_109 : decode (qx_code 158) 109 = .ok (.iload_n 2, 1) := by decide +kernel
theorem dq_158_110 : decode (qx_code 158) 110 = .ok (.iastore, 1) := by decide +kernel
theorem dq_158_111 : decode (qx_code 158) 111 = .ok (.return_, 1) := by decide +kernel
theorem mt_158_134 : qx_mth 158 134 = some (131, 0) := by decide +kernel
theorem fl_158_119 : qx_fld 158 119 = some (5, 7) := by decide +kernel
theorem fl_158_116 : qx_fld 158 116 = some (5, 8) := by decide +kernel
theorem mt_158_177 : qx_mth 158 177 = some (155, 0) := by decide +kernel
theorem mt_158_148 : qx_mth 158 148 = some (139, 1) := by decide +kernel
theorem mt_158_42 : qx_mth 158 42 = some (140, 1) := by decide +kernel
theorem mt_158_180 : qx_mth 158 180 = some (159, 2) := by decide +kernel
theorem mt_158_122 : qx_mth 158 122 = some (130, 2) := by decide +kernel
theorem fl_158_13 : qx_fld 158 13 = some (5, 2) := by decide +kernel
theorem dq_159_0 : decode (qx_code 159) 0 = .ok (.aload_n 0, 1) := by decide +kernel
theorem dq_159_1 : decode (qx_code 159) 1 = .ok (.iload_n 1, 1) := by decide +kernel
theorem dq_159_2 : decode (qx_code 159) 2 = .ok (.invokevirtual 48, 3) := by decide +kernel
theorem dq_159_5 : decode (qx_code 159) 5 = .ok (.aload_n 0, 1) := by decide +kernel
theorem dq_159_6 : decode (qx_code 159) 6 = .ok (.iload_n 2, 1) := by decide +kernel
theorem dq_159_7 : decode (qx_code 159) 7 = .ok (.invokevirtual 48, 3) := by decide +kernel
theorem dq_159_10 : decode (qx_code 159) 10 = .ok (.if_icmp .eq 5, 3) := by decide +kernel
theorem dq_159_13 : decode (qx_code 159) 13 = .ok (.iconst 0, 1) := by decide +kernel
theorem dq_159_14 : decode (qx_code 159) 14 = .ok (.ireturn, 1) := by decide +kernel
theorem dq_159_15 : decode (qx_code 159) 15 = .ok (.iconst 0, 1) := by decide +kernel
theorem dq_159_16 : decode (qx_code 159) 16 = .ok (.istore_n 3, 1) := by decide +kernel
theorem dq_159_17 : decode (qx_code 159) 17 = .ok (.iload_n 3, 1) := by decide +kernel
theorem dq_159_18 : decode (qx_code 159) 18 = .ok (.aload_n 0, 1) := by decide +kernel
theorem dq_159_19 : decode (qx_code 159) 19 = .ok (.iload_n 1, 1) := by decide +kernel
theorem dq_159_20 : decode (qx_code 159) 20 = .ok (.invokevirtual 48, 3) := by decide +kernel
theorem dq_159_23 : decode (qx_code 159) 23 = .ok (.if_icmp .ge 26, 3) := by decide +kernel
theorem dq_159_26 : decode (qx_code 159) 26 = .ok (.aload_n 0, 1) := by decide +kernel
theorem dq_159_27 : decode (qx_code 159) 27 = .ok (.iload_n 1, 1) := by decide +kernel
theorem dq_159_28 : decode (qx_code 159) 28 = .ok (.iload_n 3, 1) := by decide +kernel
theorem dq_159_29 : decode (qx_code 159) 29 = .ok (.invokevirtual 53, 3) := by decide +kernel
theorem dq_159_32 : decode (qx_code 159) 32 = .ok (.aload_n 0, 1) := by decide +kernel
theorem dq_159_33 : decode (qx_code 159) 33 = .ok (.iload_n 2, 1) := by decide +kernel
theorem dq_159_34 : decode (qx_code 159) 34 = .ok (.iload_n 3, 1) := by decide +kernel
theorem dq_159_35 : decode (qx_code 159) 35 = .ok (.invokevirtual 53, 3) := by decide +kernel
theorem dq_159_38 : decode (qx_code 159) 38 = .ok (.if_icmp .eq 5, 3) := by decide +kernel
theorem dq_159_41 : decode (qx_code 159) 41 = .ok (.iconst 0, 1) := by decide +kernel
theorem dq_159_42 : decode (qx_code 159) 42 = .ok (.ireturn, 1) := by decide +kernel
theorem dq_159_43 : decode (qx_code 159) 43 = .ok (.iinc 3 1, 3) := by decide +kernel
theorem dq_159_46 : decode (qx_code 159) 46 = .ok (.goto (-29), 3) := by decide +kernel
theorem dq_159_49 : decode (qx_code 159) 49 = .ok (.iconst 1, 1) := by decide +kernel
theorem dq_159_50 : decode (qx_code 159) 50 = .ok (.ireturn, 1) := by decide +kernel
theorem mt_159_48 : qx_mth 159 48 = some (143, 1) := by decide +kernel
theorem mt_159_53 : qx_mth 159 53 = some (146, 2) := by decide +kernel
theorem dq_160_0 : decode (qx_code 160) 0 = .ok (.aload_n 0, 1) := by decide +kernel
theorem dq_160_1 : decode (qx_code 160) 1 = .ok (.invokevirtual 204, 3) := by decide +kernel
theorem dq_160_4 : decode (qx_code 160) 4 = .ok (.istore_n 3, 1) := by decide +kernel
theorem dq_160_5 : decode (qx_code 160) 5 = .ok (.aload_n 0, 1) := by decide +kernel
theorem dq_160_6 : decode (qx_code 160) 6 = .ok (.getfield 13, 3) := by decide +kernel
theorem dq_160_9 : decode (qx_code 160) 9 = .ok (.iload_n 2, 1) := by decide +kernel
theorem dq_160_10 : decode (qx_code 160) 10 = .ok (.iload_n 3, 1) := by decide +kernel
theorem dq_160_11 : decode (qx_code 160) 11 = .ok (.iastore, 1) := by decide +kernel
theorem dq_160_12 : decode (qx_code 160) 12 = .ok (.iconst 0, 1) := by decide +kernel
theorem dq_160_13 : decode (qx_code 160) 13 = .ok (.istore 4, 2) := by decide +kernel
theorem dq_160_15 : decode (qx_code 160) 15 = .ok (.iload 4, 2) := by decide +kernel
theorem dq_160_17 : decode (qx_code 160) 17 = .ok (.iload_n 3, 1) := by decide +kernel
theorem dq_160_18 : decode (qx_code 160) 18 = .ok (.if_icmp .ge 23, 3) := by decide +kernel
theorem dq_160_21 : decode (qx_code 160) 21 = .ok (.aload_n 0, 1) := by decide +kernel
theorem dq_160_22 : decode (qx_code 160) 22 = .ok (.getfield 116, 3) := by decide +kernel
theorem dq_160_25 : decode (qx_code 160) 25 = .ok (.ifCond .ne 16, 3) := by decide +kernel
theorem dq_160_28 : decode (qx_code 160) 28 = .ok (.aload_n 0, 1) := by decide +kernel
theorem dq_160_29 : decode (qx_code 160) 29 = .ok (.iload_n 1, 1) := by decide +kernel
theorem dq_160_30 : decode (qx_code 160) 30 = .ok (.iload 4, 2) := by decide +kernel
theorem dq_160_32 : decode (qx_code 160) 32 = .ok (.invokevirtual 207, 3) := by decide +kernel
theorem dq_160_35 : decode (qx_code 160) 35 = .ok (.iinc 4 1, 3) := by decide +kernel
theorem dq_160_38 : decode (qx_code 160) 38 = .ok (.goto (-23), 3) := by decide +kernel
theorem dq_160_41 : decode (qx_code 160) 41 = .ok (.return_, 1) := by decide +kernel
theorem mt_160_204 : qx_mth 160 204 = some (161, 0) := by decide +kernel
theorem fl_160_13 : qx_fld 160 13 = some (5, 2) := by decide +kernel
theorem fl_160_116 : qx_fld 160 116 = some (5, 8) := by decide +kernel
theorem mt_160_207 : qx_mth 160 207 = some (162, 2) := by decide +kernel
theorem dq_161_0 : decode (qx_code 161) 0 = .ok (.aload_n 0, 1) := by decide +kernel
theorem dq_161_1 : decode (qx_code 161) 1 = .ok (.getfield 119, 3) := by decide +kernel
theorem dq_161_4 : decode (qx_code 161) 4 = .ok (.istore_n 1, 1) := by decide +kernel
theorem dq_161_5 : decode (qx_code 161) 5 = .ok (.aload_n 0, 1) := by decide +kernel
theorem dq_161_6 : decode (qx_code 161) 6 = .ok (.invokevirtual 134, 3) := by decide +kernel
theorem dq_161_9 : decode (qx_code 161) 9 = .ok (.istore_n 2, 1) := by decide +kernel
theorem dq_161_10 : decode (qx_code 161) 10 = .ok (.iload_n 2, 1) := by decide +kernel
theorem dq_161_11 : decode (qx_code 161) 11 = .ok (.bipush 16, 2) := by decide +kernel
theorem dq_161_13 : decode (qx_code 161) 13 = .ok (.if_icmp .le 10, 3) := by decide +kernel
theorem dq_161_16 : decode (qx_code 161) 16 = .ok (.aload_n 0, 1) := by decide +kernel
theorem dq_161_17 : decode (qx_code 161) 17 = .ok (.bipush 12, 2) := by decide +kernel
theorem dq_161_19 : decode (qx_code 161) 19 = .ok (.iload_n 1, 1) := by decide +kernel
theorem dq_161_20 : decode (qx_code 161) 20 = .ok (.invokevirtual 122, 3) := by decide +kernel
theorem dq_161_23 : decode (qx_code 161) 23 = .ok (.iload_n 2, 1) := by decide +kernel
theorem dq_161_24 : decode (qx_code 161) 24 = .ok (.ireturn, 1) := by decide +kernel
theorem fl_161_119 : qx_fld 161 119 = some (5, 7) := by decide +kernel
theorem mt_161_134 : qx_mth 161 134 = some (131, 0) := by decide +kernel
theorem mt_161_122 : qx_mth 161 122 = some (130, 2) := by decide +kernel
theorem dq_162_0 : decode (qx_code 162) 0 = .ok (.iload_n 1, 1) := by decide +kernel
theorem dq_162_1 : decode (qx_code 162) 1 = .ok (.bipush 8, 2) := by decide +kernel
theorem dq_162_3 : decode (qx_code 162) 3 = .ok (.iload_n 2, 1) := by decide +kernel
theorem dq_162_4 : decode (qx_code 162) 4 = .ok (.imul, 1) := by decide +kernel
theorem dq_162_5 : decode (qx_code 162) 5 = .ok (.iadd, 1) := by decide +kernel
theorem dq_162_6 : decode (qx_code 162) 6 = .ok (.istore_n 3, 1) := by decide +kernel
theorem dq_162_7 : decode (qx_code 162) 7 = .ok (.aload_n 0, 1) := by decide +kernel
theorem dq_162_8 : decode (qx_code 162) 8 = .ok (.getfield 119, 3) := by decide +kernel
theorem dq_162_11 : decode (qx_code 162) 11 = .ok (.istore 4, 2) := by decide +kernel
theorem dq_162_13 : decode (qx_code 162) 13 = .ok (.iconst 3, 1) := by decide +kernel
theorem dq_162_14 : decode (qx_code 162) 14 = .ok (.istore 5, 2) := by decide +kernel
theorem dq_162_16 : decode (qx_code 162) 16 = .ok (.iload 5, 2) := by decide +kernel
theorem dq_162_18 : decode (qx_code 162) 18 = .ok (.bipush 8, 2) := by decide +kernel
theorem dq_162_20 : decode (qx_code 162) 20 = .ok (.if_icmp .ge 19, 3) := by decide +kernel
theorem dq_162_23 : decode (qx_code 162) 23 = .ok (.aload_n 0, 1) := by decide +kernel
theorem dq_162_24 : decode (qx_code 162) 24 = .ok (.getfield 13, 3) := by decide +kernel
theorem dq_162_27 : decode (qx_code 162) 27 = .ok (.iload_n 3, 1) := by decide +kernel
theorem dq_162_28 : decode (qx_code 162) 28 = .ok (.iload 5, 2) := by decide +kernel
theorem dq_162_30 : decode (qx_code 162) 30 = .ok (.iadd, 1) := by decide +kernel
theorem dq_162_31 : decode (qx_code 162) 31 = .ok (.iconst 0, 1) := by decide +kernel
theorem dq_162_32 : decode (qx_code 162) 32 = .ok (.iastore, 1) := by decide +kernel
theorem dq_162_33 : decode (qx_code 162) 33 = .ok (.iinc 5 1, 3) := by decide +kernel
theorem dq_162_36 : decode (qx_code 162) 36 = .ok (.goto (-20), 3) := by decide +kernel
theorem dq_162_39 : decode (qx_code 162) 39 = .ok (.aload_n 0, 1) := by decide +kernel
theorem dq_162_40 : decode (qx_code 162) 40 = .ok (.getfield 13, 3) := by decide +kernel
theorem dq_162_43 : decode (qx_code 162) 43 = .ok (.iload_n 3, 1) := by decide +kernel
theorem dq_162_44 : decode (qx_code 162) 44 = .ok (.aload_n 0, 1) := by decide +kernel
theorem dq_162_45 : decode (qx_code 162) 45 = .ok (.invokevirtual 134, 3) := by decide +kernel
theorem dq_162_48 : decode (qx_code 162) 48 = .ok (.iastore, 1) := by decide +kernel
theorem dq_162_49 : decode (qx_code 162) 49 = .ok (.aload_n 0, 1) := by decide +kernel
theorem dq_162_50 : decode (qx_code 162) 50 = .ok (.getfield 13, 3) := by decide +kernel
theorem dq_162_53 : decode (qx_code 162) 53 = .ok (.iload_n 3, 1) := by decide +kernel
theorem dq_162_54 : decode (qx_code 162) 54 = .ok (.iconst 1, 1) := by decide +kernel
theorem dq_162_55 : decode (qx_code 162) 55 = .ok (.iadd, 1) := by decide +kernel
theorem dq_162_56 : decode (qx_code 162) 56 = .ok (.aload_n 0, 1) := by decide +kernel
theorem dq_162_57 : decode (qx_code 162) 57 = .ok (.invokevirtual 134, 3) := by decide +kernel
theorem dq_162_60 : decode (qx_code 162) 60 = .ok (.iastore, 1) := by decide +kernel
theorem dq_162_61 : decode (qx_code 162) 61 = .ok (.aload_n 0, 1) := by decide +kernel
theorem dq_162_62 : decode (qx_code 162) 62 = .ok (.getfield 13, 3) := by decide +kernel
theorem dq_162_65 : decode (qx_code 162) 65 = .ok (.iload_n 3, 1) := by decide +kernel
theorem dq_162_66 : decode (qx_code 162) 66 = .ok (.iconst 2, 1) := by decide +kernel
theorem dq_162_67 : decode (qx_code 162) 67 = .ok (.iadd, 1) := by decide +kernel
theorem dq_162_68 : decode (qx_code 162) 68 = .ok (.aload_n 0, 1) := by decide +kernel
theorem dq_162_69 : decode (qx_code 162) 69 = .ok (.invokevirtual 134, 3) := by decide +kernel
theorem dq_162_72 : decode (qx_code 162) 72 = .ok (.iastore, 1) := by decide +kernel
theorem dq_162_73 : decode (qx_code 162) 73 = .ok (.aload_n 0, 1) := by decide +kernel
theorem dq_162_74 : decode (qx_code 162) 74 = .ok (.iload_n 1, 1) := by decide +kernel
theorem dq_162_75 : decode (qx_code 162) 75 = .ok (.iload 4, 2) := by decide +kernel
theorem dq_162_77 : decode (qx_code 162) 77 = .ok (.iconst 2, 1) := by decide +kernel
theorem dq_162_78 : decode (qx_code 162) 78 = .ok (.iadd, 1) := by decide +kernel
theorem dq_162_79 : decode (qx_code 162) 79 = .ok (.aload_n 0, 1) := by decide +kernel
theorem dq_162_80 : decode (qx_code 162) 80 = .ok (.getfield 13, 3) := by decide +kernel
theorem dq_162_83 : decode (qx_code 162) 83 = .ok (.iload_n 3, 1) := by decide +kernel
theorem dq_162_84 : decode (qx_code 162) 84 = .ok (.iconst 1, 1) := by decide +kernel
theorem dq_162_85 : decode (qx_code 162) 85 = .ok (.iadd, 1) := by decide +kernel
theorem dq_162_86 : decode (qx_code 162) 86 = .ok (.iaload, 1) := by decide +kernel
theorem dq_162_87 : decode (qx_code 162) 87 = .ok (.aload_n 0, 1) := by decide +kernel
theorem dq_162_88 : decode (qx_code 162) 88 = .ok (.getfield 13, 3) := by decide +kernel
theorem dq_162_91 : decode (qx_code 162) 91 = .ok (.iload_n 3, 1) := by decide +kernel
theorem dq_162_92 : decode (qx_code 162) 92 = .ok (.iconst 2, 1) := by decide +kernel
theorem dq_162_93 : decode (qx_code 162) 93 = .ok (.iadd, 1) := by decide +kernel
theorem dq_162_94 : decode (qx_code 162) 94 = .ok (.iaload, 1) := by decide +kernel
theorem dq_162_95 : decode (qx_code 162) 95 = .ok (.invokevirtual 193, 3) := by decide +kernel
theorem dq_162_98 : decode (qx_code 162) 98 = .ok (.aload_n 0, 1) := by decide +kernel
theorem dq_162_99 : decode (qx_code 162) 99 = .ok (.getfield 116, 3) := by decide +kernel
theorem dq_162_102 : decode (qx_code 162) 102 = .ok (.ifCond .eq 4, 3) := by decide +kernel
theorem dq_162_105 : decode (qx_code 162) 105 = .ok (.return_, 1) := by decide +kernel
theorem dq_162_106 : decode (qx_code 162) 106 = .ok (.aload_n 0, 1) := by decide +kernel
theorem dq_162_107 : decode (qx_code 162) 107 = .ok (.iload_n 1, 1) := by decide +kernel
theorem dq_162_108 : decode (qx_code 162) 108 = .ok (.aload_n 0, 1) := by decide +kernel
theorem dq_162_109 : decode (qx_code 162) 109 = .ok (.getfield 13, 3) := by decide +kernel
theorem dq_162_112 : decode (qx_code 162) 112 = .ok (.iload_n 3, 1) := by decide +kernel
theorem dq_162_113 : decode (qx_code 162) 113 = .ok (.iaload, 1) := by decide +kernel
theorem dq_162_114 : decode (qx_code 162) 114 = .ok (.aload_n 0, 1) := by decide +kernel
theorem dq_162_115 : decode (qx_code 162) 115 = .ok (.aload_n 0, 1) := by decide +kernel
theorem dq_162_116 : decode (qx_code 162) 116 = .ok (.getfield 13, 3) := by decide +kernel
theorem dq_162_119 : decode (qx_code 162) 119 = .ok (.iload_n 3, 1) := by decide +kernel
theorem dq_162_120 : decode (qx_code 162) 120 = .ok (.iconst 1, 1) := by decide +kernel
theorem dq_162_121 : decode (qx_code 162) 121 = .ok (.iadd, 1) := by decide +kernel
theorem dq_162_122 : decode (qx_code 162) 122 = .ok (.iaload, 1) := by decide +kernel
theorem dq_162_123 : decode (qx_code 162) 123 = .ok (.invokevirtual 160, 3) := by decide +kernel
theorem dq_162_126 : decode (qx_code 162) 126 = .ok (.invokevirtual 197, 3) := by decide +kernel
theorem dq_162_129 : decode (qx_code 162) 129 = .ok (.ifCond .eq 11, 3) := by decide +kernel
theorem dq_162_132 : decode (qx_code 162) 132 = .ok (.aload_n 0, 1) := by decide +kernel
theorem dq_162_133 : decode (qx_code 162) 133 = .ok (.bipush 6, 2) := by decide +kernel
theorem dq_162_135 : decode (qx_code 162) 135 = .ok (.iload 4, 2) := by decide +kernel
theorem dq_162_137 : decode (qx_code 162) 137 = .ok (.invokevirtual 122, 3) := by decide +kernel
theorem dq_162_140 : decode (qx_code 162) 140 = .ok (.iload_n 1, 1) := by decide +kernel
theorem dq_162_141 : decode (qx_code 162) 141 = .ok (.istore 5, 2) := by decide +kernel
theorem dq_162_143 : decode (qx_code 162) 143 = .ok (.iload 5, 2) := by decide +kernel
theorem dq_162_145 : decode (qx_code 162) 145 = .ok (.iload_n 3, 1) := by decide +kernel
theorem dq_162_146 : decode (qx_code 162) 146 = .ok (.if_icmp .ge 65, 3) := by decide +kernel
theorem dq_162_149 : decode (qx_code 162) 149 = .ok (.aload_n 0, 1) := by decide +kernel
theorem dq_162_150 : decode (qx_code 162) 150 = .ok (.aload_n 0, 1) := by decide +kernel
theorem dq_162_151 : decode (qx_code 162) 151 = .ok (.getfield 13, 3) := by decide +kernel
theorem dq_162_154 : decode (qx_code 162) 154 = .ok (.iload 5, 2) := by decide +kernel
theorem dq_162_156 : decode (qx_code 162) 156 = .ok (.iconst 1, 1) := by decide +kernel
theorem dq_162_157 : decode (qx_code 162) 157 = .ok (.iadd, 1) := by decide +kernel
theorem dq_162_158 : decode (qx_code 162) 158 = .ok (.iaload, 1) := by decide +kernel
theorem dq_162_159 : decode (qx_code 162) 159 = .ok (.aload_n 0, 1) := by decide +kernel
theorem dq_162_160 : decode (qx_code 162) 160 = .ok (.getfield 13, 3) := by decide +kernel
theorem dq_162_163 : decode (qx_code 162) 163 = .ok (.iload_n 3, 1) := by decide +kernel
theorem dq_162_164 : decode (qx_code 162) 164 = .ok (.iconst 1, 1) := by decide +kernel
theorem dq_162_165 : decode (qx_code 162) 165 = .ok (.iadd, 1) := by decide +kernel
theorem dq_162_166 : decode (qx_code 162) 166 = .ok (.iaload, 1) := by decide +kernel
theorem dq_162_167 : decode (qx_code 162) 167 = .ok (.invokevirtual 180, 3) := by decide +kernel
theorem dq_162_170 : decode (qx_code 162) 170 = .ok (.ifCond .eq 35, 3) := by decide +kernel
theorem dq_162_173 : decode (qx_code 162) 173 = .ok (.aload_n 0, 1) := by decide +kernel
theorem dq_162_174 : decode (qx_code 162) 174 = .ok (.aload_n 0, 1) := by decide +kernel
theorem dq_162_175 : decode (qx_code 162) 175 = .ok (.getfield 13, 3) := by decide +kernel
theorem dq_162_178 : decode (qx_code 162) 178 = .ok (.iload 5, 2) := by decide +kernel
theorem dq_162_180 : decode (qx_code 162) 180 = .ok (.iconst 2, 1) := by decide +kernel
theorem dq_162_181 : decode (qx_code 162) 181 = .ok (.iadd, 1) := by decide +kernel
theorem dq_162_182 : decode (qx_code 162) 182 = .ok (.iaload, 1) := by decide +kernel
theorem dq_162_183 : decode (qx_code 162) 183 = .ok (.aload_n 0, 1) := by decide +kernel
theorem dq_162_184 : decode (qx_code 162) 184 = .ok (.getfield 13, 3) := by decide +kernel
theorem dq_162_187 : decode (qx_code 162) 187 = .ok (.iload_n 3, 1) := by decide +kernel
theorem dq_162_188 : decode (qx_code 162) 188 = .ok (.iconst 2, 1) := by decide +kernel
theorem dq_162_189 : decode (qx_code 162) 189 = .ok (.iadd, 1) := by decide +kernel
theorem dq_162_190 : decode (qx_code 162) 190 = .ok (.iaload, 1) := by decide +kernel
theorem dq_162_191 : decode (qx_code 162) 191 = .ok (.invokevirtual 180, 3) := by decide +kernel
theorem dq_162_194 : decode (qx_code 162) 194 = .ok (.ifCond .eq 11, 3) := by decide +kernel
theorem dq_162_197 : decode (qx_code 162) 197 = .ok (.aload_n 0, 1) := by decide +kernel
theorem dq_162_198 : decode (qx_code 162) 198 = .ok (.bipush 9, 2) := by decide +kernel
theorem dq_162_200 : decode (qx_code 162) 200 = .ok (.iload 4, 2) := by decide +kernel
theorem dq_162_202 : decode (qx_code 162) 202 = .ok (.invokevirtual 122, 3) := by decide +kernel
theorem dq_162_205 : decode (qx_code 162) 205 = .ok (.iinc 5 8, 3) := by decide +kernel
theorem dq_162_208 : decode (qx_code 162) 208 = .ok (.goto (-65), 3) := by decide +kernel
theorem dq_162_211 : decode (qx_code 162) 211 = .ok (.aload_n 0, 1) := by decide +kernel
theorem dq_162_212 : decode (qx_code 162) 212 = .ok (.iload_n 1, 1) := by decide +kernel
theorem dq_162_213 : decode (qx_code 162) 213 = .ok (.iload_n 3, 1) := by decide +kernel
theorem dq_162_214 : decode (qx_code 162) 214 = .ok (.invokevirtual 201, 3) := by decide +kernel
theorem dq_162_217 : decode (qx_code 162) 217 = .ok (.return_, 1) := by decide +kernel
theorem fl_162_119 : qx_fld 162 119 = some (5, 7) := by decide +kernel
theorem fl_162_13 : qx_fld 162 13 = some (5, 2) := by decide +kernel
theorem mt_162_134 : qx_mth 162 134 = some (131, 0) := by decide +kernel
theorem mt_162_193 : qx_mth 162 193 = some (163, 4) := by decide +kernel
theorem fl_162_116 : qx_fld 162 116 = some (5, 8) := by decide +kernel
theorem mt_162_160 : qx_mth 162 160 = some (150, 1) := by decide +kernel
theorem mt_162_197 : qx_mth 162 197 = some (164, 3) := by decide +kernel
theorem mt_162_122 : qx_mth 162 122 = some (130, 2) := by decide +kernel
theorem mt_162_180 : qx_mth 162 180 = some (159, 2) := by decide +kernel
theorem mt_162_201 : qx_mth 162 201 = some (166, 2) := by decide +kernel
theorem dq_163_0 : decode (qx_code 163) 0 = .ok (.aload_n 0, 1) := by decide +kernel
theorem dq_163_1 : decode (qx_code 163) 1 = .ok (.getfield 116, 3) := by decide +kernel
theorem dq_163_4 : decode (qx_code 163) 4 = .ok (.ifCond .eq 4, 3) := by decide +kernel
theorem dq_163_7 : decode (qx_code 163) 7 = .ok (.return_, 1) := by decide +kernel
theorem dq_163_8 : decode (qx_code 163) 8 = .ok (.aload_n 0, 1) := by decide +kernel
theorem dq_163_9 : decode (qx_code 163) 9 = .ok (.iload_n 3, 1) := by decide +kernel
theorem dq_163_10 : decode (qx_code 163) 10 = .ok (.invokevirtual 138, 3) := by decide +kernel
theorem dq_163_13 : decode (qx_code 163) 13 = .ok (.iconst 1, 1) := by decide +kernel
theorem dq_163_14 : decode (qx_code 163) 14 = .ok (.if_icmp .eq 12, 3) := by decide +kernel
theorem dq_163_17 : decode (qx_code 163) 17 = .ok (.aload_n 0, 1) := by decide +kernel
theorem dq_163_18 : decode (qx_code 163) 18 = .ok (.iconst 5, 1) := by decide +kernel
theorem dq_163_19 : decode (qx_code 163) 19 = .ok (.iload_n 2, 1) := by decide +kernel
theorem dq_163_20 : decode (qx_code 163) 20 = .ok (.invokevirtual 122, 3) := by decide +kernel
theorem dq_163_23 : decode (qx_code 163) 23 = .ok (.goto 96, 3) := by decide +kernel
theorem dq_163_26 : decode (qx_code 163) 26 = .ok (.aload_n 0, 1) := by decide +kernel
theorem dq_163_27 : decode (qx_code 163) 27 = .ok (.iload 4, 2) := by decide +kernel
theorem dq_163_29 : decode (qx_code 163) 29 = .ok (.invokevirtual 138, 3) := by decide +kernel
theorem dq_163_32 : decode (qx_code 163) 32 = .ok (.iconst 1, 1) := by decide +kernel
theorem dq_163_33 : decode (qx_code 163) 33 = .ok (.if_icmp .eq 14, 3) := by decide +kernel
theorem dq_163_36 : decode (qx_code 163) 36 = .ok (.aload_n 0, 1) := by decide +kernel
theorem dq_163_37 : decode (qx_code 163) 37 = .ok (.iconst 5, 1) := by decide +kernel
theorem dq_163_38 : decode (qx_code 163) 38 = .ok (.iload_n 2, 1) := by decide +kernel
theorem dq_163_39 : decode (qx_code 163) 39 = .ok (.iconst 2, 1) := by decide +kernel
theorem dq_163_40 : decode (qx_code 163) 40 = .ok (.iadd, 1) := by decide +kernel
theorem dq_163_41 : decode (qx_code 163) 41 = .ok (.invokevirtual 122, 3) := by decide +kernel
theorem dq_163_44 : decode (qx_code 163) 44 = .ok (.goto 75, 3) := by decide +kernel
theorem dq_163_47 : decode (qx_code 163) 47 = .ok (.aload_n 0, 1) := by decide +kernel
theorem dq_163_48 : decode (qx_code 163) 48 = .ok (.iload_n 3, 1) := by decide +kernel
theorem dq_163_49 : decode (qx_code 163) 49 = .ok (.invokevirtual 157, 3) := by decide +kernel
theorem dq_163_52 : decode (qx_code 163) 52 = .ok (.ifCond .ne 30, 3) := by decide +kernel
theorem dq_163_55 : decode (qx_code 163) 55 = .ok (.iload_n 1, 1) := by decide +kernel
theorem dq_163_56 : decode (qx_code 163) 56 = .ok (.sipush 230, 3) := by decide +kernel
theorem dq_163_59 : decode (qx_code 163) 59 = .ok (.if_icmp .ne 13, 3) := by decide +kernel
theorem dq_163_62 : decode (qx_code 163) 62 = .ok (.aload_n 0, 1) := by decide +kernel
theorem dq_163_63 : decode (qx_code 163) 63 = .ok (.iload_n 3, 1) := by decide +kernel
theorem dq_163_64 : decode (qx_code 163) 64 = .ok (.invokevirtual 160, 3) := by decide +kernel
theorem dq_163_67 : decode (qx_code 163) 67 = .ok (.bipush 11, 2) := by decide +kernel
theorem dq_163_69 : decode (qx_code 163) 69 = .ok (.if_icmp .ge 13, 3) := by decide +kernel
theorem dq_163_72 : decode (qx_code 163) 72 = .ok (.aload_n 0, 1) := by decide +kernel
theorem dq_163_73 : decode (qx_code 163) 73 = .ok (.bipush 7, 2) := by decide +kernel
theorem dq_163_75 : decode (qx_code 163) 75 = .ok (.iload_n 2, 1) := by decide +kernel
theorem dq_163_76 : decode (qx_code 163) 76 = .ok (.invokevirtual 122, 3) := by decide +kernel
theorem dq_163_79 : decode (qx_code 163) 79 = .ok (.goto 40, 3) := by decide +kernel
theorem dq_163_82 : decode (qx_code 163) 82 = .ok (.iload_n 1, 1) := by decide +kernel
theorem dq_163_83 : decode (qx_code 163) 83 = .ok (.sipush 230, 3) := by decide +kernel
theorem dq_163_86 : decode (qx_code 163) 86 = .ok (.if_icmp .ne 15, 3) := by decide +kernel
theorem dq_163_89 : decode (qx_code 163) 89 = .ok (.aload_n 0, 1) := by decide +kernel
theorem dq_163_90 : decode (qx_code 163) 90 = .ok (.iload 4, 2) := by decide +kernel
theorem dq_163_92 : decode (qx_code 163) 92 = .ok (.invokevirtual 163, 3) := by decide +kernel
theorem dq_163_95 : decode (qx_code 163) 95 = .ok (.ifCond .ne 24, 3) := by decide +kernel
theorem dq_163_98 : decode (qx_code 163) 98 = .ok (.goto 12, 3) := by decide +kernel
theorem dq_163_101 : decode (qx_code 163) 101 = .ok (.aload_n 0, 1) := by decide +kernel
theorem dq_163_102 : decode (qx_code 163) 102 = .ok (.iload 4, 2) := by decide +kernel
theorem dq_163_104 : decode (qx_code 163) 104 = .ok (.invokevirtual 154, 3) := by decide +kernel
theorem dq_163_107 : decode (qx_code 163) 107 = .ok (.ifCond .ne 12, 3) := by decide +kernel
theorem dq_163_110 : decode (qx_code 163) 110 = .ok (.aload_n 0, 1) := by decide +kernel
theorem dq_163_111 : decode (qx_code 163) 111 = .ok (.bipush 8, 2) := by decide +kernel
theorem dq_163_113 : decode (qx_code 163) 113 = .ok (.iload_n 2, 1) := by decide +kernel
theorem dq_163_114 : decode (qx_code 163) 114 = .ok (.iconst 2, 1) := by decide +kernel
theorem dq_163_115 : decode (qx_code 163) 115 = .ok (.iadd, 1) := by decide +kernel
theorem dq_163_116 : decode (qx_code 163) 116 = .ok (.invokevirtual 122, 3) := by decide +kernel
theorem dq_163_119 : decode (qx_code 163) 119 = .ok (.return_, 1) := by decide +kernel
theorem fl_163_116 : qx_fld 163 116 = some (5, 8) := by decide +kernel
theorem mt_163_138 : qx_mth 163 138 = some (136, 1) := by decide +kernel
theorem mt_163_122 : qx_mth 163 122 = some (130, 2) := by decide +kernel
theorem mt_163_157 : qx_mth 163 157 = some (149, 1) := by decide +kernel
theorem mt_163_160 : qx_mth 163 160 = some (150, 1) := by decide +kernel
theorem mt_163_163 : qx_mth 163 163 = some (152, 1) := by decide +kernel
theorem mt_163_154 : qx_mth 163 154 = some (147, 1) := by decide +kernel
theorem dq_164_0 : decode (qx_code 164) 0 = .ok (.aload_n 0, 1) := by decide +kernel
theorem dq_164_1 : decode (qx_code 164) 1 = .ok (.getfield 13, 3) := by decide +kernel
theorem dq_164_4 : decode (qx_code 164) 4 = .ok (.iconst 1, 1) := by decide +kernel
theorem dq_164_5 : decode (qx_code 164) 5 = .ok (.iaload, 1) := by decide +kernel
theorem dq_164_6 : decode (qx_code 164) 6 = .ok (.sipush 512, 3) := by decide +kernel
theorem dq_164_9 : decode (qx_code 164) 9 = .ok (.invokestatic 187, 3) := by decide +kernel
theorem dq_164_12 : decode (qx_code 164) 12 = .ok (.istore 4, 2) := by decide +kernel
theorem dq_164_14 : decode (qx_code 164) 14 = .ok (.iload_n 3, 1) := by decide +kernel
theorem dq_164_15 : decode (qx_code 164) 15 = .ok (.bipush 12, 2) := by decide +kernel
theorem dq_164_17 : decode (qx_code 164) 17 = .ok (.if_icmp .ne 12, 3) := by decide +kernel
theorem dq_164_20 : decode (qx_code 164) 20 = .ok (.iload_n 1, 1) := by decide +kernel
theorem dq_164_21 : decode (qx_code 164) 21 = .ok (.sipush 230, 3) := by decide +kernel
theorem dq_164_24 : decode (qx_code 164) 24 = .ok (.if_icmp .ne 5, 3) := by decide +kernel
theorem dq_164_27 : decode (qx_code 164) 27 = .ok (.iconst 0, 1) := by decide +kernel
theorem dq_164_28 : decode (qx_code 164) 28 = .ok (.ireturn, 1) := by decide +kernel
theorem dq_164_29 : decode (qx_code 164) 29 = .ok (.iload_n 2, 1) := by decide +kernel
theorem dq_164_30 : decode (qx_code 164) 30 = .ok (.invokestatic 190, 3) := by decide +kernel
theorem dq_164_33 : decode (qx_code 164) 33 = .ok (.ifCond .ne 5, 3) := by decide +kernel
theorem dq_164_36 : decode (qx_code 164) 36 = .ok (.iconst 1, 1) := by decide +kernel
theorem dq_164_37 : decode (qx_code 164) 37 = .ok (.ireturn, 1) := by decide +kernel
theorem dq_164_38 : decode (qx_code 164) 38 = .ok (.iload_n 1, 1) := by decide +kernel
theorem dq_164_39 : decode (qx_code 164) 39 = .ok (.bipush 100, 2) := by decide +kernel
theorem dq_164_41 : decode (qx_code 164) 41 = .ok (.if_icmp .ne 41, 3) := by decide +kernel
theorem dq_164_44 : decode (qx_code 164) 44 = .ok (.iload_n 2, 1) := by decide +kernel
theorem dq_164_45 : decode (qx_code 164) 45 = .ok (.bipush 16, 2) := by decide +kernel
theorem dq_164_47 : decode (qx_code 164) 47 = .ok (.invokestatic 187, 3) := by decide +kernel
theorem dq_164_50 : decode (qx_code 164) 50 = .ok (.ifCond .eq 12, 3) := by decide +kernel
theorem dq_164_53 : decode (qx_code 164) 53 = .ok (.iload_n 2, 1) := by decide +kernel
theorem dq_164_54 : decode (qx_code 164) 54 = .ok (.bipush 64, 2) := by decide +kernel
theorem dq_164_56 : decode (qx_code 164) 56 = .ok (.invokestatic 187, 3) := by decide +kernel
theorem dq_164_59 : decode (qx_code 164) 59 = .ok (.ifCond .ne 17, 3) := by decide +kernel
theorem dq_164_62 : decode (qx_code 164) 62 = .ok (.iload 4, 2) := by decide +kernel
theorem dq_164_64 : decode (qx_code 164) 64 = .ok (.ifCond .eq 16, 3) := by decide +kernel
theorem dq_164_67 : decode (qx_code 164) 67 = .ok (.iload_n 2, 1) := by decide +kernel
theorem dq_164_68 : decode (qx_code 164) 68 = .ok (.bipush 25, 2) := by decide +kernel
theorem dq_164_70 : decode (qx_code 164) 70 = .ok (.iand, 1) := by decide +kernel
theorem dq_164_71 : decode (qx_code 164) 71 = .ok (.bipush 25, 2) := by decide +kernel
theorem dq_164_73 : decode (qx_code 164) 73 = .ok (.if_icmp .eq 7, 3) := by decide +kernel
theorem dq_164_76 : decode (qx_code 164) 76 = .ok (.iconst 1, 1) := by decide +kernel
theorem dq_164_77 : decode (qx_code 164) 77 = .ok (.goto 4, 3) := by decide +kernel
theorem dq_164_80 : decode (qx_code 164) 80 = .ok (.iconst 0, 1) := by decide +kernel
theorem dq_164_81 : decode (qx_code 164) 81 = .ok (.ireturn, 1) := by decide +kernel
theorem dq_164_82 : decode (qx_code 164) 82 = .ok (.iload_n 2, 1) := by decide +kernel
theorem dq_164_83 : decode (qx_code 164) 83 = .ok (.sipush 1024, 3) := by decide +kernel
theorem dq_164_86 : decode (qx_code 164) 86 = .ok (.invokestatic 187, 3) := by decide +kernel
theorem dq_164_89 : decode (qx_code 164) 89 = .ok (.ifCond .eq 15, 3) := by decide +kernel
theorem dq_164_92 : decode (qx_code 164) 92 = .ok (.iload_n 2, 1) := by decide +kernel
theorem dq_164_93 : decode (qx_code 164) 93 = .ok (.sipush 314, 3) := by decide +kernel
theorem dq_164_96 : decode (qx_code 164) 96 = .ok (.invokestatic 187, 3) := by decide +kernel
theorem dq_164_99 : decode (qx_code 164) 99 = .ok (.ifCond .eq 5, 3) := by decide +kernel
theorem dq_164_102 : decode (qx_code 164) 102 = .ok (.iconst 1, 1) := by decide +kernel
theorem dq_164_103 : decode (qx_code 164) 103 = .ok (.ireturn, 1) := by decide +kernel
theorem dq_164_104 : decode (qx_code 164) 104 = .ok (.iload_n 3, 1) := by decide +kernel
theorem dq_164_105 : decode (qx_code 164) 105 = .ok (.bipush 11, 2) := by decide +kernel
theorem dq_164_107 : decode (qx_code 164) 107 = .ok (.if_icmp .ne 15, 3) := by decide +kernel
theorem dq_164_110 : decode (qx_code 164) 110 = .ok (.iload_n 2, 1) := by decide +kernel
theorem dq_164_111 : decode (qx_code 164) 111 = .ok (.sipush 1336, 3) := by decide +kernel
theorem dq_164_114 : decode (qx_code 164) 114 = .ok (.invokestatic 187, 3) := by decide +kernel
theorem dq_164_117 : decode (qx_code 164) 117 = .ok (.ifCond .eq 5, 3) := by decide +kernel
theorem dq_164_120 : decode (qx_code 164) 120 = .ok (.iconst 1, 1) := by decide +kernel
theorem dq_164_121 : decode (qx_code 164) 121 = .ok (.ireturn, 1) := by decide +kernel
theorem dq_164_122 : decode (qx_code 164) 122 = .ok (.iload 4, 2) := by decide +kernel
theorem dq_164_124 : decode (qx_code 164) 124 = .ok (.ifCond .eq 20, 3) := by decide +kernel
theorem dq_164_127 : decode (qx_code 164) 127 = .ok (.iload_n 2, 1) := by decide +kernel
theorem dq_164_128 : decode (qx_code 164) 128 = .ok (.iconst 1, 1) := by decide +kernel
theorem dq_164_129 : decode (qx_code 164) 129 = .ok (.invokestatic 187, 3) := by decide +kernel
theorem dq_164_132 : decode (qx_code 164) 132 = .ok (.iload_n 2, 1) := by decide +kernel
theorem dq_164_133 : decode (qx_code 164) 133 = .ok (.iconst 2, 1) := by decide +kernel
theorem dq_164_134 : decode (qx_code 164) 134 = .ok (.invokestatic 187, 3) := by decide +kernel
theorem dq_164_137 : decode (qx_code 164) 137 = .ok (.if_icmp .ne 7, 3) := by decide +kernel
theorem dq_164_140 : decode (qx_code 164) 140 = .ok (.iconst 1, 1) := by decide +kernel
theorem dq_164_141 : decode (qx_code 164) 141 = .ok (.goto 4, 3) := by decide +kernel
theorem dq_164_144 : decode (qx_code 164) 144 = .ok (.iconst 0, 1) := by decide +kernel
theorem dq_164_145 : decode (qx_code 164) 145 = .ok (.ireturn, 1) := by decide +kernel
theorem fl_164_13 : qx_fld 164 13 = some (5, 2) := by decide +kernel
theorem mt_164_187 : qx_mth 164 187 = some (154, 2) := by decide +kernel
theorem mt_164_190 : qx_mth 164 190 = some (165, 1) := by decide +kernel
theorem dq_165_0 : decode (qx_code 165) 0 = .ok (.iload_n 0, 1) := by decide +kernel
theorem dq_165_1 : decode (qx_code 165) 1 = .ok (.bipush 7, 2) := by decide +kernel
theorem dq_165_3 : decode (qx_code 165) 3 = .ok (.iand, 1) := by decide +kernel
theorem dq_165_4 : decode (qx_code 165) 4 = .ok (.istore_n 1, 1) := by decide +kernel
theorem dq_165_5 : decode (qx_code 165) 5 = .ok (.iload_n 1, 1) := by decide +kernel
theorem dq_165_6 : decode (qx_code 165) 6 = .ok (.ifCond .eq 18, 3) := by decide +kernel
theorem dq_165_9 : decode (qx_code 165) 9 = .ok (.iload_n 1, 1) := by decide +kernel
theorem dq_165_10 : decode (qx_code 165) 10 = .ok (.iconst 1, 1) := by decide +kernel
theorem dq_165_11 : decode (qx_code 165) 11 = .ok (.if_icmp .eq 13, 3) := by decide +kernel
theorem dq_165_14 : decode (qx_code 165) 14 = .ok (.iload_n 1, 1) := by decide +kernel
theorem dq_165_15 : decode (qx_code 165) 15 = .ok (.iconst 2, 1) := by decide +kernel
theorem dq_165_16 : decode (qx_code 165) 16 = .ok (.if_icmp .eq 8, 3) := by decide +kernel
theorem dq_165_19 : decode (qx_code 165) 19 = .ok (.iload_n 1, 1) := by decide +kernel
theorem dq_165_20 : decode (qx_code 165) 20 = .ok (.iconst 4, 1) := by decide +kernel
theorem dq_165_21 : decode (qx_code 165) 21 = .ok (.if_icmp .ne 7, 3) := by decide +kernel
theorem dq_165_24 : decode (qx_code 165) 24 = .ok (.iconst 1, 1) := by decide +kernel
theorem dq_165_25 : decode (qx_code 165) 25 = .ok (.goto 4, 3) := by decide +kernel
theorem dq_165_28 : decode (qx_code 165) 28 = .ok (.iconst 0, 1) := by decide +kernel
theorem dq_165_29 : decode (qx_code 165) 29 = .ok (.ireturn, 1) := by decide +kernel
theorem dq_166_0 : decode (qx_code 166) 0 = .ok (.aload_n 0, 1) := by decide +kernel
theorem dq_166_1 : decode (qx_code 166) 1 = .ok (.invokevirtual 134, 3) := by decide +kernel
theorem dq_166_4 : decode (qx_code 166) 4 = .ok (.istore_n 3, 1) := by decide +kernel
theorem dq_166_5 : decode (qx_code 166) 5 = .ok (.iconst 0, 1) := by decide +kernel
theorem dq_166_6 : decode (qx_code 166) 6 = .ok (.istore 4, 2) := by decide +kernel
theorem dq_166_8 : decode (qx_code 166) 8 = .ok (.iconst 0, 1) := by decide +kernel
theorem dq_166_9 : decode (qx_code 166) 9 = .ok (.istore 5, 2) := by decide +kernel
theorem dq_166_11 : decode (qx_code 166) 11 = .ok (.iload 5, 2) := by decide +kernel
theorem dq_166_13 : decode (qx_code 166) 13 = .ok (.iload_n 3, 1) := by decide +kernel
theorem dq_166_14 : decode (qx_code 166) 14 = .ok (.if_icmp .ge 174, 3) := by decide +kernel
theorem dq_166_17 : decode (qx_code 166) 17 = .ok (.aload_n 0, 1) := by decide +kernel
theorem dq_166_18 : decode (qx_code 166) 18 = .ok (.getfield 116, 3) := by decide +kernel
theorem dq_166_21 : decode (qx_code 166) 21 = .ok (.ifCond .ne 167, 3) := by decide +kernel
theorem dq_166_24 : decode (qx_code 166) 24 = .ok (.aload_n 0, 1) := by decide +kernel
theorem dq_166_25 : decode (qx_code 166) 25 = .ok (.getfield 119, 3) := by decide +kernel
theorem dq_166_28 : decode (qx_code 166) 28 = .ok (.istore 6, 2) := by decide +kernel
theorem dq_166_30 : decode (qx_code 166) 30 = .ok (.aload_n 0, 1) := by decide +kernel
theorem dq_166_31 : decode (qx_code 166) 31 = .ok (.iconst 1, 1) := by decide +kernel
theorem dq_166_32 : decode (qx_code 166) 32 = .ok (.iconst 0, 1) := by decide +kernel
theorem dq_166_33 : decode (qx_code 166) 33 = .ok (.invokevirtual 173, 3) := by decide +kernel
theorem dq_166_36 : decode (qx_code 166) 36 = .ok (.istore 7, 2) := by decide +kernel
theorem dq_166_38 : decode (qx_code 166) 38 = .ok (.aload_n 0, 1) := by decide +kernel
theorem dq_166_39 : decode (qx_code 166) 39 = .ok (.getfield 119, 3) := by decide +kernel
theorem dq_166_42 : decode (qx_code 166) 42 = .ok (.istore 8, 2) := by decide +kernel
theorem dq_166_44 : decode (qx_code 166) 44 = .ok (.aload_n 0, 1) := by decide +kernel
theorem dq_166_45 : decode (qx_code 166) 45 = .ok (.invokevirtual 144, 3) := by decide +kernel
theorem dq_166_48 : decode (qx_code 166) 48 = .ok (.lstore 9, 2) := by decide +kernel
theorem dq_166_50 : decode (qx_code 166) 50 = .ok (.aload_n 0, 1) := by decide +kernel
theorem dq_166_51 : decode (qx_code 166) 51 = .ok (.getfield 116, 3) := by decide +kernel
theorem dq_166_54 : decode (qx_code 166) 54 = .ok (.ifCond .eq 4, 3) := by decide +kernel
theorem dq_166_57 : decode (qx_code 166) 57 = .ok (.return_, 1) := by decide +kernel
theorem dq_166_58 : decode (qx_code 166) 58 = .ok (.aload_n 0, 1) := by decide +kernel
theorem dq_166_59 : decode (qx_code 166) 59 = .ok (.iload 7, 2) := by decide +kernel
theorem dq_166_61 : decode (qx_code 166) 61 = .ok (.invokevirtual 160, 3) := by decide +kernel
theorem dq_166_64 : decode (qx_code 166) 64 = .ok (.istore 11, 2) := by decide +kernel
theorem dq_166_66 : decode (qx_code 166) 66 = .ok (.iload_n 1, 1) := by decide +kernel
theorem dq_166_67 : decode (qx_code 166) 67 = .ok (.iload 11, 2) := by decide +kernel
theorem dq_166_69 : decode (qx_code 166) 69 = .ok (.invokestatic 210, 3) := by decide +kernel
theorem dq_166_72 : decode (qx_code 166) 72 = .ok (.ifCond .ne 27, 3) := by decide +kernel
theorem dq_166_75 : decode (qx_code 166) 75 = .ok (.aload_n 0, 1) := by decide +kernel
theorem dq_166_76 : decode (qx_code 166) 76 = .ok (.lload 9, 2) := by decide +kernel
theorem dq_166_78 : decode (qx_code 166) 78 = .ok (.invokevirtual 126, 3) := by decide +kernel
theorem dq_166_81 : decode (qx_code 166) 81 = .ok (.ifCond .eq 101, 3) := by decide +kernel
theorem dq_166_84 : decode (qx_code 166) 84 = .ok (.aload_n 0, 1) := by decide +kernel
theorem dq_166_85 : decode (qx_code 166) 85 = .ok (.dup, 1) := by decide +kernel
theorem dq_166_86 : decode (qx_code 166) 86 = .ok (.getfield 119, 3) := by decide +kernel
theorem dq_166_89 : decode (qx_code 166) 89 = .ok (.lload 9, 2) := by decide +kernel
theorem dq_166_91 : decode (qx_code 166) 91 = .ok (.l2i, 1) := by decide +kernel
theorem dq_166_92 : decode (qx_code 166) 92 = .ok (.iadd, 1) := by decide +kernel
theorem dq_166_93 : decode (qx_code 166) 93 = .ok (.putfield 119, 3) := by decide +kernel
theorem dq_166_96 : decode (qx_code 166) 96 = .ok (.goto 86, 3) := by decide +kernel
theorem dq_166_99 : decode (qx_code 166) 99 = .ok (.iload 4, 2) := by decide +kernel
theorem dq_166_101 : decode (qx_code 166) 101 = .ok (.iload 11, 2) := by decide +kernel
theorem dq_166_103 : decode (qx_code 166) 103 = .ok (.ishr, 1) := by decide +kernel
theorem dq_166_104 : decode (qx_code 166) 104 = .ok (.iconst 1, 1) := by decide +kernel
theorem dq_166_105 : decode (qx_code 166) 105 = .ok (.iand, 1) := by decide +kernel
theorem dq_166_106 : decode (qx_code 166) 106 = .ok (.ifCond .eq 11, 3) := by decide +kernel
theorem dq_166_109 : decode (qx_code 166) 109 = .ok (.aload_n 0, 1) := by decide +kernel
theorem dq_166_110 : decode (qx_code 166) 110 = .ok (.bipush 9, 2) := by decide +kernel
theorem dq_166_112 : decode (qx_code 166) 112 = .ok (.iload 6, 2) := by decide +kernel
theorem dq_166_114 : decode (qx_code 166) 114 = .ok (.invokevirtual 122, 3) := by decide +kernel
theorem dq_166_117 : decode (qx_code 166) 117 = .ok (.iload 4, 2) := by decide +kernel
theorem dq_166_119 : decode (qx_code 166) 119 = .ok (.iconst 1, 1) := by decide +kernel
theorem dq_166_120 : decode (qx_code 166) 120 = .ok (.iload 11, 2) := by decide +kernel
theorem dq_166_122 : decode (qx_code 166) 122 = .ok (.ishl, 1) := by decide +kernel
theorem dq_166_123 : decode (qx_code 166) 123 = .ok (.ior, 1) := by decide +kernel
theorem dq_166_124 : decode (qx_code 166) 124 = .ok (.istore 4, 2) := by decide +kernel
theorem dq_166_126 : decode (qx_code 166) 126 = .ok (.iload 11, 2) := by decide +kernel
theorem dq_166_128 : decode (qx_code 166) 128 = .ok (.bipush 9, 2) := by decide +kernel
theorem dq_166_130 : decode (qx_code 166) 130 = .ok (.if_icmp .ne 14, 3) := by decide +kernel
theorem dq_166_133 : decode (qx_code 166) 133 = .ok (.aload_n 0, 1) := by decide +kernel
theorem dq_166_134 : decode (qx_code 166) 134 = .ok (.lload 9, 2) := by decide +kernel
theorem dq_166_136 : decode (qx_code 166) 136 = .ok (.iload 8, 2) := by decide +kernel
theorem dq_166_138 : decode (qx_code 166) 138 = .ok (.invokevirtual 213, 3) := by decide +kernel
theorem dq_166_141 : decode (qx_code 166) 141 = .ok (.goto 41, 3) := by decide +kernel
theorem dq_166_144 : decode (qx_code 166) 144 = .ok (.iload 11, 2) := by decide +kernel
theorem dq_166_146 : decode (qx_code 166) 146 = .ok (.iconst 4, 1) := by decide +kernel
theorem dq_166_147 : decode (qx_code 166) 147 = .ok (.if_icmp .lt 24, 3) := by decide +kernel
theorem dq_166_150 : decode (qx_code 166) 150 = .ok (.iload 11, 2) := by decide +kernel
theorem dq_166_152 : decode (qx_code 166) 152 = .ok (.bipush 7, 2) := by decide +kernel
theorem dq_166_154 : decode (qx_code 166) 154 = .ok (.if_icmp .gt 17, 3) := by decide +kernel
theorem dq_166_157 : decode (qx_code 166) 157 = .ok (.aload_n 0, 1) := by decide +kernel
theorem dq_166_158 : decode (qx_code 166) 158 = .ok (.iload 11, 2) := by decide +kernel
theorem dq_166_160 : decode (qx_code 166) 160 = .ok (.iload_n 2, 1) := by decide +kernel
theorem dq_166_161 : decode (qx_code 166) 161 = .ok (.lload 9, 2) := by decide +kernel
theorem dq_166_163 : decode (qx_code 166) 163 = .ok (.iload 8, 2) := by decide +kernel
theorem dq_166_165 : decode (qx_code 166) 165 = .ok (.invokevirtual 217, 3) := by decide +kernel
theorem dq_166_168 : decode (qx_code 166) 168 = .ok (.goto 14, 3) := by decide +kernel
theorem dq_166_171 : decode (qx_code 166) 171 = .ok (.aload_n 0, 1) := by decide +kernel
theorem dq_166_172 : decode (qx_code 166) 172 = .ok (.iload 11, 2) := by decide +kernel
theorem dq_166_174 : decode (qx_code 166) 174 = .ok (.iload_n 2, 1) := by decide +kernel
theorem dq_166_175 : decode (qx_code 166) 175 = .ok (.lload 9, 2) := by decide +kernel
theorem dq_166_177 : decode (qx_code 166) 177 = .ok (.iload 8, 2) := by decide +kernel
theorem dq_166_179 : decode (qx_code 166) 179 = .ok (.invokevirtual 221, 3) := by decide +kernel
theorem dq_166_182 : decode (qx_code 166) 182 = .ok (.iinc 5 1, 3) := by decide +kernel
theorem dq_166_185 : decode (qx_code 166) 185 = .ok (.goto (-174), 3) := by decide +kernel
theorem dq_166_188 : decode (qx_code 166) 188 = .ok (.return_, 1) := by decide +kernel
theorem mt_166_134 : qx_mth 166 134 = some (131, 0) := by decide +kernel
theorem fl_166_116 : qx_fld 166 116 = some (5, 8) := by decide +kernel
theorem fl_166_119 : qx_fld 166 119 = some (5, 7) := by decide +kernel
theorem mt_166_173 : qx_mth 166 173 = some (157, 2) := by decide +kernel
theorem mt_166_144 : qx_mth 166 144 = some (128, 0) := by decide +kernel
theorem mt_166_160 : qx_mth 166 160 = some (150, 1) := by decide +kernel
theorem mt_166_210 : qx_mth 166 210 = some (167, 2) := by decide +kernel
theorem mt_166_126 : qx_mth 166 126 = some (129, 1) := by decide +kernel
theorem fp_166_119 : qx_fld 166 119 = some (5, 7) ∧ qx_pok 166 119 = true := by decide +kernel
theorem mt_166_122 : qx_mth 166 122 = some (130, 2) := by decide +kernel
theorem mt_166_213 : qx_mth 166 213 = some (168, 2) := by decide +kernel
theorem mt_166_217 : qx_mth 166 217 = some (172, 4) := by decide +kernel
theorem mt_166_221 : qx_mth 166 221 = some (170, 4) := by decide +kernel
theorem dq_167_0 : decode (qx_code 167) 0 = .ok (.iload_n 1, 1) := by decide +kernel
theorem dq_167_1 : decode (qx_code 167) 1 = .ok (.iconst 1, 1) := by decide +kernel
theorem dq_167_2 : decode (qx_code 167) 2 = .ok (.if_icmp .eq 8, 3) := by decide +kernel
theorem dq_167_5 : decode (qx_code 167) 5 = .ok (.iload_n 1, 1) := by decide +kernel
theorem dq_167_6 : decode (qx_code 167) 6 = .ok (.iconst 2, 1) := by decide +kernel
theorem dq_167_7 : decode (qx_code 167) 7 = .ok (.if_icmp .ne 5, 3) := by decide +kernel
theorem dq_167_10 : decode (qx_code 167) 10 = .ok (.iconst 1, 1) := by decide +kernel
theorem dq_167_11 : decode (qx_code 167) 11 = .ok (.ireturn, 1) := by decide +kernel
theorem dq_167_12 : decode (qx_code 167) 12 = .ok (.iload_n 1, 1) := by decide +kernel
theorem dq_167_13 : decode (qx_code 167) 13 = .ok (.iconst 3, 1) := by decide +kernel
theorem dq_167_14 : decode (qx_code 167) 14 = .ok (.if_icmp .ne 15, 3) := by decide +kernel
theorem dq_167_17 : decode (qx_code 167) 17 = .ok (.iload_n 0, 1) := by decide +kernel
theorem dq_167_18 : decode (qx_code 167) 18 = .ok (.bipush 100, 2) := by decide +kernel
theorem dq_167_20 : decode (qx_code 167) 20 = .ok (.if_icmp .ne 7, 3) := by decide +kernel
theorem dq_167_23 : decode (qx_code 167) 23 = .ok (.iconst 1, 1) := by decide +kernel
theorem dq_167_24 : decode (qx_code 167) 24 = .ok (.goto 4, 3) := by decide +kernel
theorem dq_167_27 : decode (qx_code 167) 27 = .ok (.iconst 0, 1) := by decide +kernel
theorem dq_167_28 : decode (qx_code 167) 28 = .ok (.ireturn, 1) := by decide +kernel
theorem dq_167_29 : decode (qx_code 167) 29 = .ok (.iload_n 1, 1) := by decide +kernel
theorem dq_167_30 : decode (qx_code 167) 30 = .ok (.iconst 4, 1) := by decide +kernel
theorem dq_167_31 : decode (qx_code 167) 31 = .ok (.if_icmp .ne 16, 3) := by decide +kernel
theorem dq_167_34 : decode (qx_code 167) 34 = .ok (.iload_n 0, 1) := by decide +kernel
theorem dq_167_35 : decode (qx_code 167) 35 = .ok (.sipush 230, 3) := by decide +kernel
theorem dq_167_38 : decode (qx_code 167) 38 = .ok (.if_icmp .ne 7, 3) := by decide +kernel
theorem dq_167_41 : decode (qx_code 167) 41 = .ok (.iconst 1, 1) := by decide +kernel
theorem dq_167_42 : decode (qx_code 167) 42 = .ok (.goto 4, 3) := by decide +kernel
theorem dq_167_45 : decode (qx_code 167) 45 = .ok (.iconst 0, 1) := by decide +kernel
theorem dq_167_46 : decode (qx_code 167) 46 = .ok (.ireturn, 1) := by decide +kernel
theorem dq_167_47 : decode (qx_code 167) 47 = .ok (.iload_n 0, 1) := by decide +kernel
theorem dq_167_48 : decode (qx_code 167) 48 = .ok (.ifCond .ne 18, 3) := by decide +kernel
theorem dq_167_51 : decode (qx_code 167) 51 = .ok (.iload_n 1, 1) := by decide +kernel
theorem dq_167_52 : decode (qx_code 167) 52 = .ok (.iconst 5, 1) := by decide +kernel
theorem dq_167_53 : decode (qx_code 167) 53 = .ok (.if_icmp .lt 13, 3) := by decide +kernel
theorem dq_167_56 : decode (qx_code 167) 56 = .ok (.iload_n 1, 1) := by decide +kernel
theorem dq_167_57 : decode (qx_code 167) 57 = .ok (.bipush 9, 2) := by decide +kernel
theorem dq_167_59 : decode (qx_code 167) 59 = .ok (.if_icmp .gt 7, 3) := by decide +kernel
theorem dq_167_62 : decode (qx_code 167) 62 = .ok (.iconst 1, 1) := by decide +kernel
theorem dq_167_63 : decode (qx_code 167) 63 = .ok (.goto 4, 3) := by decide +kernel
theorem dq_167_66 : decode (qx_code 167) 66 = .ok (.iconst 0, 1) := by decide +kernel
theorem dq_167_67 : decode (qx_code 167) 67 = .ok (.ireturn, 1) := by decide +kernel
theorem dq_168_0 : decode (qx_code 168) 0 = .ok (.lload_n 1, 1) := by decide +kernel
theorem dq_168_1 : decode (qx_code 168) 1 = .ok (.ldc2_w 130, 3) := by decide +kernel
theorem dq_168_4 : decode (qx_code 168) 4 = .ok (.lcmp, 1) := by decide +kernel
theorem dq_168_5 : decode (qx_code 168) 5 = .ok (.ifCond .ge 10, 3) := by decide +kernel
theorem dq_168_8 : decode (qx_code 168) 8 = .ok (.aload_n 0, 1) := by decide +kernel
theorem dq_168_9 : decode (qx_code 168) 9 = .ok (.bipush 10, 2) := by decide +kernel
theorem dq_168_11 : decode (qx_code 168) 11 = .ok (.iload_n 3, 1) := by decide +kernel
theorem dq_168_12 : decode (qx_code 168) 12 = .ok (.invokevirtual 122, 3) := by decide +kernel
theorem dq_168_15 : decode (qx_code 168) 15 = .ok (.aload_n 0, 1) := by decide +kernel
theorem dq_168_16 : decode (qx_code 168) 16 = .ok (.getfield 119, 3) := by decide +kernel
theorem dq_168_19 : decode (qx_code 168) 19 = .ok (.istore 4, 2) := by decide +kernel
theorem dq_168_21 : decode (qx_code 168) 21 = .ok (.aload_n 0, 1) := by decide +kernel
theorem dq_168_22 : decode (qx_code 168) 22 = .ok (.invokevirtual 204, 3) := by decide +kernel
theorem dq_168_25 : decode (qx_code 168) 25 = .ok (.istore 5, 2) := by decide +kernel
theorem dq_168_27 : decode (qx_code 168) 27 = .ok (.aload_n 0, 1) := by decide +kernel
theorem dq_168_28 : decode (qx_code 168) 28 = .ok (.getfield 13, 3) := by decide +kernel
theorem dq_168_31 : decode (qx_code 168) 31 = .ok (.bipush 18, 2) := by decide +kernel
theorem dq_168_33 : decode (qx_code 168) 33 = .ok (.iconst 1, 1) := by decide +kernel
theorem dq_168_34 : decode (qx_code 168) 34 = .ok (.iastore, 1) := by decide +kernel
theorem dq_168_35 : decode (qx_code 168) 35 = .ok (.aload_n 0, 1) := by decide +kernel
theorem dq_168_36 : decode (qx_code 168) 36 = .ok (.getfield 13, 3) := by decide +kernel
theorem dq_168_39 : decode (qx_code 168) 39 = .ok (.bipush 15, 2) := by decide +kernel
theorem dq_168_41 : decode (qx_code 168) 41 = .ok (.iload 5, 2) := by decide +kernel
theorem dq_168_43 : decode (qx_code 168) 43 = .ok (.iastore, 1) := by decide +kernel
theorem dq_168_44 : decode (qx_code 168) 44 = .ok (.iconst 0, 1) := by decide +kernel
theorem dq_168_45 : decode (qx_code 168) 45 = .ok (.istore 6, 2) := by decide +kernel
theorem dq_168_47 : decode (qx_code 168) 47 = .ok (.iload 6, 2) := by decide +kernel
theorem dq_168_49 : decode (qx_code 168) 49 = .ok (.iload 5, 2) := by decide +kernel
theorem dq_168_51 : decode (qx_code 168) 51 = .ok (.if_icmp .ge 112, 3) := by decide +kernel
theorem dq_168_54 : decode (qx_code 168) 54 = .ok (.aload_n 0, 1) := by decide +kernel
theorem dq_168_55 : decode (qx_code 168) 55 = .ok (.getfield 116, 3) := by decide +kernel
theorem dq_168_58 : decode (qx_code 168) 58 = .ok (.ifCond .ne 105, 3) := by decide +kernel
theorem dq_168_61 : decode (qx_code 168) 61 = .ok (.sipush 360, 3) := by decide +kernel
theorem dq_168_64 : decode (qx_code 168) 64 = .ok (.bipush 8, 2) := by decide +kernel
theorem dq_168_66 : decode (qx_code 168) 66 = .ok (.iload 6, 2) := by decide +kernel
theorem dq_168_68 : decode (qx_code 168) 68 = .ok (.imul, 1) := by decide +kernel
theorem dq_168_69 : decode (qx_code 168) 69 = .ok (.iadd, 1) := by decide +kernel
theorem dq_168_70 : decode (qx_code 168) 70 = .ok (.istore 7, 2) := by decide +kernel
theorem dq_168_72 : decode (qx_code 168) 72 = .ok (.aload_n 0, 1) := by decide +kernel
theorem dq_168_73 : decode (qx_code 168) 73 = .ok (.getfield 119, 3) := by decide +kernel
theorem dq_168_76 : decode (qx_code 168) 76 = .ok (.istore 8, 2) := by decide +kernel
theorem dq_168_78 : decode (qx_code 168) 78 = .ok (.aload_n 0, 1) := by decide +kernel
theorem dq_168_79 : decode (qx_code 168) 79 = .ok (.getfield 13, 3) := by decide +kernel
theorem dq_168_82 : decode (qx_code 168) 82 = .ok (.iload 7, 2) := by decide +kernel
theorem dq_168_84 : decode (qx_code 168) 84 = .ok (.iconst 3, 1) := by decide +kernel
theorem dq_168_85 : decode (qx_code 168) 85 = .ok (.iadd, 1) := by decide +kernel
theorem dq_168_86 : decode (qx_code 168) 86 = .ok (.iconst 0, 1) := by decide +kernel
theorem dq_168_87 : decode (qx_code 168) 87 = .ok (.iastore, 1) := by decide +kernel
theorem dq_168_88 : decode (qx_code 168) 88 = .ok (.aload_n 0, 1) := by decide +kernel
theorem dq_168_89 : decode (qx_code 168) 89 = .ok (.getfield 13, 3) := by decide +kernel
theorem dq_168_92 : decode (qx_code 168) 92 = .ok (.iload 7, 2) := by decide +kernel
theorem dq_168_94 : decode (qx_code 168) 94 = .ok (.iconst 4, 1) := by decide +kernel
theorem dq_168_95 : decode (qx_code 168) 95 = .ok (.iadd, 1) := by decide +kernel
theorem dq_168_96 : decode (qx_code 168) 96 = .ok (.iconst 0, 1) := by decide +kernel
theorem dq_168_97 : decode (qx_code 168) 97 = .ok (.iastore, 1) := by decide +kernel
theorem dq_168_98 : decode (qx_code 168) 98 = .ok (.aload_n 0, 1) := by decide +kernel
theorem dq_168_99 : decode (qx_code 168) 99 = .ok (.getfield 13, 3) := by decide +kernel
theorem dq_168_102 : decode (qx_code 168) 102 = .ok (.iload 7, 2) := by decide +kernel
theorem dq_168_104 : decode (qx_code 168) 104 = .ok (.iconst 1, 1) := by decide +kernel
theorem dq_168_105 : decode (qx_code 168) 105 = .ok (.iadd, 1) := by decide +kernel
theorem dq_168_106 : decode (qx_code 168) 106 = .ok (.aload_n 0, 1) := by decide +kernel
theorem dq_168_107 : decode (qx_code 168) 107 = .ok (.invokevirtual 134, 3) := by decide +kernel
theorem dq_168_110 : decode (qx_code 168) 110 = .ok (.iastore, 1) := by decide +kernel
theorem dq_168_111 : decode (qx_code 168) 111 = .ok (.aload_n 0, 1) := by decide +kernel
theorem dq_168_112 : decode (qx_code 168) 112 = .ok (.getfield 13, 3) := by decide +kernel
theorem dq_168_115 : decode (qx_code 168) 115 = .ok (.iload 7, 2) := by decide +kernel
theorem dq_168_117 : decode (qx_code 168) 117 = .ok (.iconst 2, 1) := by decide +kernel
theorem dq_168_118 : decode (qx_code 168) 118 = .ok (.iadd, 1) := by decide +kernel
theorem dq_168_119 : decode (qx_code 168) 119 = .ok (.aload_n 0, 1) := by decide +kernel
theorem dq_168_120 : decode (qx_code 168) 120 = .ok (.invokevirtual 134, 3) := by decide +kernel
theorem dq_168_123 : decode (qx_code 168) 123 = .ok (.iastore, 1) := by decide +kernel
theorem dq_168_124 : decode (qx_code 168) 124 = .ok (.aload_n 0, 1) := by decide +kernel
theorem dq_168_125 : decode (qx_code 168) 125 = .ok (.sipush 360, 3) := by decide +kernel
theorem dq_168_128 : decode (qx_code 168) 128 = .ok (.iload 8, 2) := by decide +kernel
theorem dq_168_130 : decode (qx_code 168) 130 = .ok (.aload_n 0, 1) := by decide +kernel
theorem dq_168_131 : decode (qx_code 168) 131 = .ok (.getfield 13, 3) := by decide +kernel
theorem dq_168_134 : decode (qx_code 168) 134 = .ok (.iload 7, 2) := by decide +kernel
theorem dq_168_136 : decode (qx_code 168) 136 = .ok (.iconst 1, 1) := by decide +kernel
theorem dq_168_137 : decode (qx_code 168) 137 = .ok (.iadd, 1) := by decide +kernel
theorem dq_168_138 : decode (qx_code 168) 138 = .ok (.iaload, 1) := by decide +kernel
theorem dq_168_139 : decode (qx_code 168) 139 = .ok (.aload_n 0, 1) := by decide +kernel
theorem dq_168_140 : decode (qx_code 168) 140 = .ok (.getfield 13, 3) := by decide +kernel
theorem dq_168_143 : decode (qx_code 168) 143 = .ok (.iload 7, 2) := by decide +kernel
theorem dq_168_145 : decode (qx_code 168) 145 = .ok (.iconst 2, 1) := by decide +kernel
theorem dq_168_146 : decode (qx_code 168) 146 = .ok (.iadd, 1) := by decide +kernel
theorem dq_168_147 : decode (qx_code 168) 147 = .ok (.iaload, 1) := by decide +kernel
theorem dq_168_148 : decode (qx_code 168) 148 = .ok (.invokevirtual 193, 3) := by decide +kernel
theorem dq_168_151 : decode (qx_code 168) 151 = .ok (.aload_n 0, 1) := by decide +kernel
theorem dq_168_152 : decode (qx_code 168) 152 = .ok (.iload 7, 2) := by decide +kernel
theorem dq_168_154 : decode (qx_code 168) 154 = .ok (.invokevirtual 229, 3) := by decide +kernel
theorem dq_168_157 : decode (qx_code 168) 157 = .ok (.iinc 6 1, 3) := by decide +kernel
theorem dq_168_160 : decode (qx_code 168) 160 = .ok (.goto (-113), 3) := by decide +kernel
theorem dq_168_163 : decode (qx_code 168) 163 = .ok (.aload_n 0, 1) := by decide +kernel
theorem dq_168_164 : decode (qx_code 168) 164 = .ok (.getfield 116, 3) := by decide +kernel
theorem dq_168_167 : decode (qx_code 168) 167 = .ok (.ifCond .ne 23, 3) := by decide +kernel
theorem dq_168_170 : decode (qx_code 168) 170 = .ok (.lload_n 1, 1) := by decide +kernel
theorem dq_168_171 : decode (qx_code 168) 171 = .ok (.aload_n 0, 1) := by decide +kernel
theorem dq_168_172 : decode (qx_code 168) 172 = .ok (.getfield 119, 3) := by decide +kernel
theorem dq_168_175 : decode (qx_code 168) 175 = .ok (.iload 4, 2) := by decide +kernel
theorem dq_168_177 : decode (qx_code 168) 177 = .ok (.isub, 1) := by decide +kernel
theorem dq_168_178 : decode (qx_code 168) 178 = .ok (.i2l, 1) := by decide +kernel
theorem dq_168_179 : decode (qx_code 168) 179 = .ok (.lcmp, 1) := by decide +kernel
theorem dq_168_180 : decode (qx_code 168) 180 = .ok (.ifCond .eq 10, 3) := by decide +kernel
theorem dq_168_183 : decode (qx_code 168) 183 = .ok (.aload_n 0, 1) := by decide +kernel
theorem dq_168_184 : decode (qx_code 168) 184 = .ok (.bipush 10, 2) := by decide +kernel
theorem dq_168_186 : decode (qx_code 168) 186 = .ok (.iload_n 3, 1) := by decide +kernel
theorem dq_168_187 : decode (qx_code 168) 187 = .ok (.invokevirtual 122, 3) := by decide +kernel
theorem dq_168_190 : decode (qx_code 168) 190 = .ok (.return_, 1) := by decide +kernel
theorem mt_168_122 : qx_mth 168 122 = some (130, 2) := by decide +kernel
theorem fl_168_119 : qx_fld 168 119 = some (5, 7) := by decide +kernel
theorem mt_168_204 : qx_mth 168 204 = some (161, 0) := by decide +kernel
theorem fl_168_13 : qx_fld 168 13 = some (5, 2) := by decide +kernel
theorem fl_168_116 : qx_fld 168 116 = some (5, 8) := by decide +kernel
theorem mt_168_134 : qx_mth 168 134 = some (131, 0) := by decide +kernel
theorem mt_168_193 : qx_mth 168 193 = some (163, 4) := by decide +kernel
theorem mt_168_229 : qx_mth 168 229 = some (169, 1) := by decide +kernel
theorem dq_169_0 : decode (qx_code 169) 0 = .ok (.aload_n 0, 1) := by decide +kernel
theorem dq_169_1 : decode (qx_code 169) 1 = .ok (.invokevirtual 134, 3) := by decide +kernel
theorem dq_169_4 : decode (qx_code 169) 4 = .ok (.istore_n 2, 1) := by decide +kernel
theorem dq_169_5 : decode (qx_code 169) 5 = .ok (.iconst 0, 1) := by decide +kernel
theorem dq_169_6 : decode (qx_code 169) 6 = .ok (.istore_n 3, 1) := by decide +kernel
theorem dq_169_7 : decode (qx_code 169) 7 = .ok (.iconst 0, 1) := by decide +kernel
theorem dq_169_8 : decode (qx_code 169) 8 = .ok (.istore 4, 2) := by decide +kernel
theorem dq_169_10 : decode (qx_code 169) 10 = .ok (.iload 4, 2) := by decide +kernel
theorem dq_169_12 : decode (qx_code 169) 12 = .ok (.iload_n 2, 1) := by decide +kernel
theorem dq_169_13 : decode (qx_code 169) 13 = .ok (.if_icmp .ge 129, 3) := by decide +kernel
theorem dq_169_16 : decode (qx_code 169) 16 = .ok (.aload_n 0, 1) := by decide +kernel
theorem dq_169_17 : decode (qx_code 169) 17 = .ok (.getfield 116, 3) := by decide +kernel
theorem dq_169_20 : decode (qx_code 169) 20 = .ok (.ifCond .ne 122, 3) := by decide +kernel
theorem dq_169_23 : decode (qx_code 169) 23 = .ok (.aload_n 0, 1) := by decide +kernel
theorem dq_169_24 : decode (qx_code 169) 24 = .ok (.getfield 119, 3) := by decide +kernel
theorem dq_169_27 : decode (qx_code 169) 27 = .ok (.istore 5, 2) := by decide +kernel
theorem dq_169_29 : decode (qx_code 169) 29 = .ok (.aload_n 0, 1) := by decide +kernel
theorem dq_169_30 : decode (qx_code 169) 30 = .ok (.iconst 1, 1) := by decide +kernel
theorem dq_169_31 : decode (qx_code 169) 31 = .ok (.iconst 0, 1) := by decide +kernel
theorem dq_169_32 : decode (qx_code 169) 32 = .ok (.invokevirtual 173, 3) := by decide +kernel
theorem dq_169_35 : decode (qx_code 169) 35 = .ok (.istore 6, 2) := by decide +kernel
theorem dq_169_37 : decode (qx_code 169) 37 = .ok (.aload_n 0, 1) := by decide +kernel
theorem dq_169_38 : decode (qx_code 169) 38 = .ok (.getfield 119, 3) := by decide +kernel
theorem dq_169_41 : decode (qx_code 169) 41 = .ok (.istore 7, 2) := by decide +kernel
theorem dq_169_43 : decode (qx_code 169) 43 = .ok (.aload_n 0, 1) := by decide +kernel
theorem dq_169_44 : decode (qx_code 169) 44 = .ok (.invokevirtual 144, 3) := by decide +kernel
theorem dq_169_47 : decode (qx_code 169) 47 = .ok (.lstore 8, 2) := by decide +kernel
theorem dq_169_49 : decode (qx_code 169) 49 = .ok (.aload_n 0, 1) := by decide +kernel
theorem dq_169_50 : decode (qx_code 169) 50 = .ok (.getfield 116, 3) := by decide +kernel
theorem dq_169_53 : decode (qx_code 169) 53 = .ok (.ifCond .eq 4, 3) := by decide +kernel
theorem dq_169_56 : decode (qx_code 169) 56 = .ok (.return_, 1) := by decide +kernel
theorem dq_169_57 : decode (qx_code 169) 57 = .ok (.aload_n 0, 1) := by decide +kernel
theorem dq_169_58 : decode (qx_code 169) 58 = .ok (.iload 6, 2) := by decide +kernel
theorem dq_169_60 : decode (qx_code 169) 60 = .ok (.invokevirtual 160, 3) := by decide +kernel
theorem dq_169_63 : decode (qx_code 169) 63 = .ok (.istore 10, 2) := by decide +kernel
theorem dq_169_65 : decode (qx_code 169) 65 = .ok (.iload 10, 2) := by decide +kernel
theorem dq_169_67 : decode (qx_code 169) 67 = .ok (.iconst 1, 1) := by decide +kernel
theorem dq_169_68 : decode (qx_code 169) 68 = .ok (.if_icmp .eq 33, 3) := by decide +kernel
theorem dq_169_71 : decode (qx_code 169) 71 = .ok (.iload 10, 2) := by decide +kernel
theorem dq_169_73 : decode (qx_code 169) 73 = .ok (.iconst 2, 1) := by decide +kernel
theorem dq_169_74 : decode (qx_code 169) 74 = .ok (.if_icmp .eq 27, 3) := by decide +kernel
theorem dq_169_77 : decode (qx_code 169) 77 = .ok (.aload_n 0, 1) := by decide +kernel
theorem dq_169_78 : decode (qx_code 169) 78 = .ok (.lload 8, 2) := by decide +kernel
theorem dq_169_80 : decode (qx_code 169) 80 = .ok (.invokevirtual 126, 3) := by decide +kernel
theorem dq_169_83 : decode (qx_code 169) 83 = .ok (.ifCond .eq 53, 3) := by decide +kernel
theorem dq_169_86 : decode (qx_code 169) 86 = .ok (.aload_n 0, 1) := by decide +kernel
theorem dq_169_87 : decode (qx_code 169) 87 = .ok (.dup, 1) := by decide +kernel
theorem dq_169_88 : decode (qx_code 169) 88 = .ok (.getfield 119, 3) := by decide +kernel
theorem dq_169_91 : decode (qx_code 169) 91 = .ok (.lload 8, 2) := by decide +kernel
theorem dq_169_93 : decode (qx_code 169) 93 = .ok (.l2i, 1) := by decide +kernel
theorem dq_169_94 : decode (qx_code 169) 94 = .ok (.iadd, 1) := by decide +kernel
theorem dq_169_95 : decode (qx_code 169) 95 = .ok (.putfield 119, 3) := by decide +kernel
theorem dq_169_98 : decode (qx_code 169) 98 = .ok (.goto 38, 3) := by decide +kernel
theorem dq_169_101 : decode (qx_code 169) 101 = .ok (.iload_n 3, 1) := by decide +kernel
theorem dq_169_102 : decode (qx_code 169) 102 = .ok (.iload 10, 2) := by decide +kernel
theorem dq_169_104 : decode (qx_code 169) 104 = .ok (.ishr, 1) := by decide +kernel
theorem dq_169_105 : decode (qx_code 169) 105 = .ok (.iconst 1, 1) := by decide +kernel
theorem dq_169_106 : decode (qx_code 169) 106 = .ok (.iand, 1) := by decide +kernel
theorem dq_169_107 : decode (qx_code 169) 107 = .ok (.ifCond .eq 11, 3) := by decide +kernel
theorem dq_169_110 : decode (qx_code 169) 110 = .ok (.aload_n 0, 1) := by decide +kernel
theorem dq_169_111 : decode (qx_code 169) 111 = .ok (.bipush 9, 2) := by decide +kernel
theorem dq_169_113 : decode (qx_code 169) 113 = .ok (.iload 5, 2) := by decide +kernel
theorem dq_169_115 : decode (qx_code 169) 115 = .ok (.invokevirtual 122, 3) := by decide +kernel
theorem dq_169_118 : decode (qx_code 169) 118 = .ok (.iload_n 3, 1) := by decide +kernel
theorem dq_169_119 : decode (qx_code 169) 119 = .ok (.iconst 1, 1) := by decide +kernel
theorem dq_169_120 : decode (qx_code 169) 120 = .ok (.iload 10, 2) := by decide +kernel
theorem dq_169_122 : decode (qx_code 169) 122 = .ok (.ishl, 1) := by decide +kernel
theorem dq_169_123 : decode (qx_code 169) 123 = .ok (.ior, 1) := by decide +kernel
theorem dq_169_124 : decode (qx_code 169) 124 = .ok (.istore_n 3, 1) := by decide +kernel
theorem dq_169_125 : decode (qx_code 169) 125 = .ok (.aload_n 0, 1) := by decide +kernel
theorem dq_169_126 : decode (qx_code 169) 126 = .ok (.iload 10, 2) := by decide +kernel
theorem dq_169_128 : decode (qx_code 169) 128 = .ok (.iload_n 1, 1) := by decide +kernel
theorem dq_169_129 : decode (qx_code 169) 129 = .ok (.lload 8, 2) := by decide +kernel
theorem dq_169_131 : decode (qx_code 169) 131 = .ok (.iload 7, 2) := by decide +kernel
theorem dq_169_133 : decode (qx_code 169) 133 = .ok (.invokevirtual 221, 3) := by decide +kernel
theorem dq_169_136 : decode (qx_code 169) 136 = .ok (.iinc 4 1, 3) := by decide +kernel
theorem dq_169_139 : decode (qx_code 169) 139 = .ok (.goto (-129), 3) := by decide +kernel
theorem dq_169_142 : decode (qx_code 169) 142 = .ok (.return_, 1) := by decide +kernel
theorem mt_169_134 : qx_mth 169 134 = some (131, 0) := by decide +kernel
theorem fl_169_116 : qx_fld 169 116 = some (5, 8) := by decide +kernel
theorem fl_169_119 : qx_fld 169 119 = some (5, 7) := by decide +kernel
theorem mt_169_173 : qx_mth 169 173 = some (157, 2) := by decide +kernel
theorem mt_169_144 : qx_mth 169 144 = some (128, 0) := by decide +kernel
theorem mt_169_160 : qx_mth 169 160 = some (150, 1) := by decide +kernel
theorem mt_169_126 : qx_mth 169 126 = some (129, 1) := by decide +kernel
theorem fp_169_119 : qx_fld 169 119 = some (5, 7) ∧ qx_pok 169 119 = true := by decide +kernel
theorem mt_169_122 : qx_mth 169 122 = some (130, 2) := by decide +kernel
theorem mt_169_221 : qx_mth 169 221 = some (170, 4) := by decide +kernel
theorem dq_170_0 : decode (qx_code 170) 0 = .ok (.lload_n 3, 1) := by decide +kernel
theorem dq_170_1 : decode (qx_code 170) 1 = .ok (.iload_n 1, 1) := by decide +kernel
theorem dq_170_2 : decode (qx_code 170) 2 = .ok (.iconst 2, 1) := by decide +kernel
theorem dq_170_3 : decode (qx_code 170) 3 = .ok (.if_icmp .ne 7, 3) := by decide +kernel
theorem dq_170_6 : decode (qx_code 170) 6 = .ok (.iconst 0, 1) := by decide +kernel
theorem dq_170_7 : decode (qx_code 170) 7 = .ok (.goto 4, 3) := by decide +kernel
theorem dq_170_10 : decode (qx_code 170) 10 = .ok (.iconst 2, 1) := by decide +kernel
theorem dq_170_11 : decode (qx_code 170) 11 = .ok (.i2l, 1) := by decide +kernel
theorem dq_170_12 : decode (qx_code 170) 12 = .ok (.lcmp, 1) := by decide +kernel
theorem dq_170_13 : decode (qx_code 170) 13 = .ok (.ifCond .eq 11, 3) := by decide +kernel
theorem dq_170_16 : decode (qx_code 170) 16 = .ok (.aload_n 0, 1) := by decide +kernel
theorem dq_170_17 : decode (qx_code 170) 17 = .ok (.bipush 10, 2) := by decide +kernel
theorem dq_170_19 : decode (qx_code 170) 19 = .ok (.iload 5, 2) := by decide +kernel
theorem dq_170_21 : decode (qx_code 170) 21 = .ok (.invokevirtual 122, 3) := by decide +kernel
theorem dq_170_24 : decode (qx_code 170) 24 = .ok (.aload_n 0, 1) := by decide +kernel
theorem dq_170_25 : decode (qx_code 170) 25 = .ok (.getfield 116, 3) := by decide +kernel
theorem dq_170_28 : decode (qx_code 170) 28 = .ok (.ifCond .eq 4, 3) := by decide +kernel
theorem dq_170_31 : decode (qx_code 170) 31 = .ok (.return_, 1) := by decide +kernel
theorem dq_170_32 : decode (qx_code 170) 32 = .ok (.iload_n 1, 1) := by decide +kernel
theorem dq_170_33 : decode (qx_code 170) 33 = .ok (.iconst 1, 1) := by decide +kernel
theorem dq_170_34 : decode (qx_code 170) 34 = .ok (.if_icmp .ne 26, 3) := by decide +kernel
theorem dq_170_37 : decode (qx_code 170) 37 = .ok (.aload_n 0, 1) := by decide +kernel
theorem dq_170_38 : decode (qx_code 170) 38 = .ok (.getfield 13, 3) := by decide +kernel
theorem dq_170_41 : decode (qx_code 170) 41 = .ok (.iload_n 2, 1) := by decide +kernel
theorem dq_170_42 : decode (qx_code 170) 42 = .ok (.ifCond .ne 8, 3) := by decide +kernel
theorem dq_170_45 : decode (qx_code 170) 45 = .ok (.bipush 16, 2) := by decide +kernel
theorem dq_170_47 : decode (qx_code 170) 47 = .ok (.goto 6, 3) := by decide +kernel
theorem dq_170_50 : decode (qx_code 170) 50 = .ok (.iload_n 2, 1) := by decide +kernel
theorem dq_170_51 : decode (qx_code 170) 51 = .ok (.iconst 3, 1) := by decide +kernel
theorem dq_170_52 : decode (qx_code 170) 52 = .ok (.iadd, 1) := by decide +kernel
theorem dq_170_53 : decode (qx_code 170) 53 = .ok (.aload_n 0, 1) := by decide +kernel
theorem dq_170_54 : decode (qx_code 170) 54 = .ok (.iconst 1, 1) := by decide +kernel
theorem dq_170_55 : decode (qx_code 170) 55 = .ok (.iconst 0, 1) := by decide +kernel
theorem dq_170_56 : decode (qx_code 170) 56 = .ok (.invokevirtual 173, 3) := by decide +kernel
theorem dq_170_59 : decode (qx_code 170) 59 = .ok (.iastore, 1) := by decide +kernel
theorem dq_170_60 : decode (qx_code 170) 60 = .ok (.iload_n 1, 1) := by decide +kernel
theorem dq_170_61 : decode (qx_code 170) 61 = .ok (.iconst 2, 1) := by decide +kernel
theorem dq_170_62 : decode (qx_code 170) 62 = .ok (.if_icmp .ne 21, 3) := by decide +kernel
theorem dq_170_65 : decode (qx_code 170) 65 = .ok (.aload_n 0, 1) := by decide +kernel
theorem dq_170_66 : decode (qx_code 170) 66 = .ok (.getfield 13, 3) := by decide +kernel
theorem dq_170_69 : decode (qx_code 170) 69 = .ok (.iload_n 2, 1) := by decide +kernel
theorem dq_170_70 : decode (qx_code 170) 70 = .ok (.ifCond .ne 8, 3) := by decide +kernel
theorem dq_170_73 : decode (qx_code 170) 73 = .ok (.bipush 17, 2) := by decide +kernel
theorem dq_170_75 : decode (qx_code 170) 75 = .ok (.goto 6, 3) := by decide +kernel
theorem dq_170_78 : decode (qx_code 170) 78 = .ok (.iload_n 2, 1) := by decide +kernel
theorem dq_170_79 : decode (qx_code 170) 79 = .ok (.iconst 4, 1) := by decide +kernel
theorem dq_170_80 : decode (qx_code 170) 80 = .ok (.iadd, 1) := by decide +kernel
theorem dq_170_81 : decode (qx_code 170) 81 = .ok (.iconst 1, 1) := by decide +kernel
theorem dq_170_82 : decode (qx_code 170) 82 = .ok (.iastore, 1) := by decide +kernel
theorem dq_170_83 : decode (qx_code 170) 83 = .ok (.iload_n 1, 1) := by decide +kernel
theorem dq_170_84 : decode (qx_code 170) 84 = .ok (.bipush 8, 2) := by decide +kernel
theorem dq_170_86 : decode (qx_code 170) 86 = .ok (.if_icmp .ne 17, 3) := by decide +kernel
theorem dq_170_89 : decode (qx_code 170) 89 = .ok (.aload_n 0, 1) := by decide +kernel
theorem dq_170_90 : decode (qx_code 170) 90 = .ok (.getfield 13, 3) := by decide +kernel
theorem dq_170_93 : decode (qx_code 170) 93 = .ok (.bipush 19, 2) := by decide +kernel
theorem dq_170_95 : decode (qx_code 170) 95 = .ok (.aload_n 0, 1) := by decide +kernel
theorem dq_170_96 : decode (qx_code 170) 96 = .ok (.bipush 7, 2) := by decide +kernel
theorem dq_170_98 : decode (qx_code 170) 98 = .ok (.iconst 0, 1) := by decide +kernel
theorem dq_170_99 : decode (qx_code 170) 99 = .ok (.invokevirtual 173, 3) := by decide +kernel
theorem dq_170_102 : decode (qx_code 170) 102 = .ok (.iastore, 1) := by decide +kernel
theorem dq_170_103 : decode (qx_code 170) 103 = .ok (.iload_n 1, 1) := by decide +kernel
theorem dq_170_104 : decode (qx_code 170) 104 = .ok (.iconst 3, 1) := by decide +kernel
theorem dq_170_105 : decode (qx_code 170) 105 = .ok (.if_icmp .ne 28, 3) := by decide +kernel
theorem dq_170_108 : decode (qx_code 170) 108 = .ok (.aload_n 0, 1) := by decide +kernel
theorem dq_170_109 : decode (qx_code 170) 109 = .ok (.getfield 13, 3) := by decide +kernel
theorem dq_170_112 : decode (qx_code 170) 112 = .ok (.iload_n 2, 1) := by decide +kernel
theorem dq_170_113 : decode (qx_code 170) 113 = .ok (.iconst 5, 1) := by decide +kernel
theorem dq_170_114 : decode (qx_code 170) 114 = .ok (.iadd, 1) := by decide +kernel
theorem dq_170_115 : decode (qx_code 170) 115 = .ok (.aload_n 0, 1) := by decide +kernel
theorem dq_170_116 : decode (qx_code 170) 116 = .ok (.aload_n 0, 1) := by decide +kernel
theorem dq_170_117 : decode (qx_code 170) 117 = .ok (.aload_n 0, 1) := by decide +kernel
theorem dq_170_118 : decode (qx_code 170) 118 = .ok (.getfield 13, 3) := by decide +kernel
theorem dq_170_121 : decode (qx_code 170) 121 = .ok (.iload_n 2, 1) := by decide +kernel
theorem dq_170_122 : decode (qx_code 170) 122 = .ok (.iconst 2, 1) := by decide +kernel
theorem dq_170_123 : decode (qx_code 170) 123 = .ok (.iadd, 1) := by decide +kernel
theorem dq_170_124 : decode (qx_code 170) 124 = .ok (.iaload, 1) := by decide +kernel
theorem dq_170_125 : decode (qx_code 170) 125 = .ok (.invokevirtual 224, 3) := by decide +kernel
theorem dq_170_128 : decode (qx_code 170) 128 = .ok (.iconst 0, 1) := by decide +kernel
theorem dq_170_129 : decode (qx_code 170) 129 = .ok (.invokevirtual 173, 3) := by decide +kernel
theorem dq_170_132 : decode (qx_code 170) 132 = .ok (.iastore, 1) := by decide +kernel
theorem dq_170_133 : decode (qx_code 170) 133 = .ok (.return_, 1) := by decide +kernel
theorem mt_170_122 : qx_mth 170 122 = some (130, 2) := by decide +kernel
theorem fl_170_116 : qx_fld 170 116 = some (5, 8) := by decide +kernel
theorem fl_170_13 : qx_fld 170 13 = some (5, 2) := by decide +kernel
theorem mt_170_173 : qx_mth 170 173 = some (157, 2) := by decide +kernel
theorem mt_170_224 : qx_mth 170 224 = some (171, 1) := by decide +kernel
theorem dq_171_0 : decode (qx_code 171) 0 = .ok (.aload_n 0, 1) := by decide +kernel
theorem dq_171_1 : decode (qx_code 171) 1 = .ok (.iload_n 1, 1) := by decide +kernel
theorem dq_171_2 : decode (qx_code 171) 2 = .ok (.invokevirtual 160, 3) := by decide +kernel
theorem dq_171_5 : decode (qx_code 171) 5 = .ok (.bipush 10, 2) := by decide +kernel
theorem dq_171_7 : decode (qx_code 171) 7 = .ok (.if_icmp .ne 6, 3) := by decide +kernel
theorem dq_171_10 : decode (qx_code 171) 10 = .ok (.bipush 8, 2) := by decide +kernel
theorem dq_171_12 : decode (qx_code 171) 12 = .ok (.ireturn, 1) := by decide +kernel
theorem dq_171_13 : decode (qx_code 171) 13 = .ok (.aload_n 0, 1) := by decide +kernel
theorem dq_171_14 : decode (qx_code 171) 14 = .ok (.iload_n 1, 1) := by decide +kernel
theorem dq_171_15 : decode (qx_code 171) 15 = .ok (.invokevirtual 48, 3) := by decide +kernel
theorem dq_171_18 : decode (qx_code 171) 18 = .ok (.iconst 1, 1) := by decide +kernel
theorem dq_171_19 : decode (qx_code 171) 19 = .ok (.if_icmp .eq 6, 3) := by decide +kernel
theorem dq_171_22 : decode (qx_code 171) 22 = .ok (.bipush 99, 2) := by decide +kernel
theorem dq_171_24 : decode (qx_code 171) 24 = .ok (.ireturn, 1) := by decide +kernel
theorem dq_171_25 : decode (qx_code 171) 25 = .ok (.aload_n 0, 1) := by decide +kernel
theorem dq_171_26 : decode (qx_code 171) 26 = .ok (.iload_n 1, 1) := by decide +kernel
theorem dq_171_27 : decode (qx_code 171) 27 = .ok (.iconst 0, 1) := by decide +kernel
theorem dq_171_28 : decode (qx_code 171) 28 = .ok (.invokevirtual 53, 3) := by decide +kernel
theorem dq_171_31 : decode (qx_code 171) 31 = .ok (.istore_n 2, 1) := by decide +kernel
theorem dq_171_32 : decode (qx_code 171) 32 = .ok (.iload_n 2, 1) := by decide +kernel
theorem dq_171_33 : decode (qx_code 171) 33 = .ok (.bipush 70, 2) := by decide +kernel
theorem dq_171_35 : decode (qx_code 171) 35 = .ok (.if_icmp .ne 7, 3) := by decide +kernel
theorem dq_171_38 : decode (qx_code 171) 38 = .ok (.iconst 4, 1) := by decide +kernel
theorem dq_171_39 : decode (qx_code 171) 39 = .ok (.goto 25, 3) := by decide +kernel
theorem dq_171_42 : decode (qx_code 171) 42 = .ok (.iload_n 2, 1) := by decide +kernel
theorem dq_171_43 : decode (qx_code 171) 43 = .ok (.bipush 74, 2) := by decide +kernel
theorem dq_171_45 : decode (qx_code 171) 45 = .ok (.if_icmp .ne 7, 3) := by decide +kernel
theorem dq_171_48 : decode (qx_code 171) 48 = .ok (.iconst 5, 1) := by decide +kernel
theorem dq_171_49 : decode (qx_code 171) 49 = .ok (.goto 15, 3) := by decide +kernel
theorem dq_171_52 : decode (qx_code 171) 52 = .ok (.iload_n 2, 1) := by decide +kernel
theorem dq_171_53 : decode (qx_code 171) 53 = .ok (.bipush 68, 2) := by decide +kernel
theorem dq_171_55 : decode (qx_code 171) 55 = .ok (.if_icmp .ne 8, 3) := by decide +kernel
theorem dq_171_58 : decode (qx_code 171) 58 = .ok (.bipush 6, 2) := by decide +kernel
theorem dq_171_60 : decode (qx_code 171) 60 = .ok (.goto 4, 3) := by decide +kernel
theorem dq_171_63 : decode (qx_code 171) 63 = .ok (.iconst 3, 1) := by decide +kernel
theorem dq_171_64 : decode (qx_code 171) 64 = .ok (.ireturn, 1) := by decide +kernel
theorem mt_171_160 : qx_mth 171 160 = some (150, 1) := by decide +kernel
theorem mt_171_48 : qx_mth 171 48 = some (143, 1) := by decide +kernel
theorem mt_171_53 : qx_mth 171 53 = some (146, 2) := by decide +kernel
theorem dq_172_0 : decode (qx_code 172) 0 = .ok (.lload_n 3, 1) := by decide +kernel
theorem dq_172_1 : decode (qx_code 172) 1 = .ok (.ldc2_w 130, 3) := by decide +kernel
theorem dq_172_4 : decode (qx_code 172) 4 = .ok (.lcmp, 1) := by decide +kernel
theorem dq_172_5 : decode (qx_code 172) 5 = .ok (.ifCond .ge 11, 3) := by decide +kernel
theorem dq_172_8 : decode (qx_code 172) 8 = .ok (.aload_n 0, 1) := by decide +kernel
theorem dq_172_9 : decode (qx_code 172) 9 = .ok (.bipush 10, 2) := by decide +kernel
theorem dq_172_11 : decode (qx_code 172) 11 = .ok (.iload 5, 2) := by decide +kernel
theorem dq_172_13 : decode (qx_code 172) 13 = .ok (.invokevirtual 122, 3) := by decide +kernel
theorem dq_172_16 : decode (qx_code 172) 16 = .ok (.aload_n 0, 1) := by decide +kernel
theorem dq_172_17 : decode (qx_code 172) 17 = .ok (.invokevirtual 134, 3) := by decide +kernel
theorem dq_172_20 : decode (qx_code 172) 20 = .ok (.istore 6, 2) := by decide +kernel
theorem dq_172_22 : decode (qx_code 172) 22 = .ok (.aload_n 0, 1) := by decide +kernel
theorem dq_172_23 : decode (qx_code 172) 23 = .ok (.getfield 116, 3) := by decide +kernel
theorem dq_172_26 : decode (qx_code 172) 26 = .ok (.ifCond .ne 38, 3) := by decide +kernel
theorem dq_172_29 : decode (qx_code 172) 29 = .ok (.lload_n 3, 1) := by decide +kernel
theorem dq_172_30 : decode (qx_code 172) 30 = .ok (.ldc2_w 130, 3) := by decide +kernel
theorem dq_172_33 : decode (qx_code 172) 33 = .ok (.iload 6, 2) := by decide +kernel
theorem dq_172_35 : decode (qx_code 172) 35 = .ok (.i2l, 1) := by decide +kernel
theorem dq_172_36 : decode (qx_code 172) 36 = .ok (.iload_n 1, 1) := by decide +kernel
theorem dq_172_37 : decode (qx_code 172) 37 = .ok (.iconst 5, 1) := by decide +kernel
theorem dq_172_38 : decode (qx_code 172) 38 = .ok (.if_icmp .ne 9, 3) := by decide +kernel
theorem dq_172_41 : decode (qx_code 172) 41 = .ok (.ldc2_w 227, 3) := by decide +kernel
theorem dq_172_44 : decode (qx_code 172) 44 = .ok (.goto 6, 3) := by decide +kernel
theorem dq_172_47 : decode (qx_code 172) 47 = .ok (.ldc2_w 130, 3) := by decide +kernel
theorem dq_172_50 : decode (qx_code 172) 50 = .ok (.lmul, 1) := by decide +kernel
theorem dq_172_51 : decode (qx_code 172) 51 = .ok (.ladd, 1) := by decide +kernel
theorem dq_172_52 : decode (qx_code 172) 52 = .ok (.lcmp, 1) := by decide +kernel
theorem dq_172_53 : decode (qx_code 172) 53 = .ok (.ifCond .eq 11, 3) := by decide +kernel
theorem dq_172_56 : decode (qx_code 172) 56 = .ok (.aload_n 0, 1) := by decide +kernel
theorem dq_172_57 : decode (qx_code 172) 57 = .ok (.bipush 10, 2) := by decide +kernel
theorem dq_172_59 : decode (qx_code 172) 59 = .ok (.iload 5, 2) := by decide +kernel
theorem dq_172_61 : decode (qx_code 172) 61 = .ok (.invokevirtual 122, 3) := by decide +kernel
theorem dq_172_64 : decode (qx_code 172) 64 = .ok (.aload_n 0, 1) := by decide +kernel
theorem dq_172_65 : decode (qx_code 172) 65 = .ok (.getfield 116, 3) := by decide +kernel
theorem dq_172_68 : decode (qx_code 172) 68 = .ok (.ifCond .eq 4, 3) := by decide +kernel
theorem dq_172_71 : decode (qx_code 172) 71 = .ok (.return_, 1) := by decide +kernel
theorem dq_172_72 : decode (qx_code 172) 72 = .ok (.iload_n 1, 1) := by decide +kernel
theorem dq_172_73 : decode (qx_code 172) 73 = .ok (.iconst 4, 1) := by decide +kernel
theorem dq_172_74 : decode (qx_code 172) 74 = .ok (.if_icmp .ne 10, 3) := by decide +kernel
theorem dq_172_77 : decode (qx_code 172) 77 = .ok (.iload_n 2, 1) := by decide +kernel
theorem dq_172_78 : decode (qx_code 172) 78 = .ok (.bipush 6, 2) := by decide +kernel
theorem dq_172_80 : decode (qx_code 172) 80 = .ok (.iadd, 1) := by decide +kernel
theorem dq_172_81 : decode (qx_code 172) 81 = .ok (.goto 8, 3) := by decide +kernel
theorem dq_172_84 : decode (qx_code 172) 84 = .ok (.iconst 2, 1) := by decide +kernel
theorem dq_172_85 : decode (qx_code 172) 85 = .ok (.iload_n 1, 1) := by decide +kernel
theorem dq_172_86 : decode (qx_code 172) 86 = .ok (.imul, 1) := by decide +kernel
theorem dq_172_87 : decode (qx_code 172) 87 = .ok (.iconst 3, 1) := by decide +kernel
theorem dq_172_88 : decode (qx_code 172) 88 = .ok (.isub, 1) := by decide +kernel
theorem dq_172_89 : decode (qx_code 172) 89 = .ok (.istore 7, 2) := by decide +kernel
theorem dq_172_91 : decode (qx_code 172) 91 = .ok (.aload_n 0, 1) := by decide +kernel
theorem dq_172_92 : decode (qx_code 172) 92 = .ok (.getfield 13, 3) := by decide +kernel
theorem dq_172_95 : decode (qx_code 172) 95 = .ok (.iload 7, 2) := by decide +kernel
theorem dq_172_97 : decode (qx_code 172) 97 = .ok (.iload 6, 2) := by decide +kernel
theorem dq_172_99 : decode (qx_code 172) 99 = .ok (.iastore, 1) := by decide +kernel
theorem dq_172_100 : decode (qx_code 172) 100 = .ok (.aload_n 0, 1) := by decide +kernel
theorem dq_172_101 : decode (qx_code 172) 101 = .ok (.getfield 13, 3) := by decide +kernel
theorem dq_172_104 : decode (qx_code 172) 104 = .ok (.iload 7, 2) := by decide +kernel
theorem dq_172_106 : decode (qx_code 172) 106 = .ok (.iconst 1, 1) := by decide +kernel
theorem dq_172_107 : decode (qx_code 172) 107 = .ok (.iadd, 1) := by decide +kernel
theorem dq_172_108 : decode (qx_code 172) 108 = .ok (.aload_n 0, 1) := by decide +kernel
theorem dq_172_109 : decode (qx_code 172) 109 = .ok (.getfield 119, 3) := by decide +kernel
theorem dq_172_112 : decode (qx_code 172) 112 = .ok (.iastore, 1) := by decide +kernel
theorem dq_172_113 : decode (qx_code 172) 113 = .ok (.iconst 0, 1) := by decide +kernel
theorem dq_172_114 : decode (qx_code 172) 114 = .ok (.istore 8, 2) := by decide +kernel
theorem dq_172_116 : decode (qx_code 172) 116 = .ok (.iload 8, 2) := by decide +kernel
theorem dq_172_118 : decode (qx_code 172) 118 = .ok (.iload 6, 2) := by decide +kernel
theorem dq_172_120 : decode (qx_code 172) 120 = .ok (.if_icmp .ge 56, 3) := by decide +kernel
theorem dq_172_123 : decode (qx_code 172) 123 = .ok (.aload_n 0, 1) := by decide +kernel
theorem dq_172_124 : decode (qx_code 172) 124 = .ok (.getfield 116, 3) := by decide +kernel
theorem dq_172_127 : decode (qx_code 172) 127 = .ok (.ifCond .ne 49, 3) := by decide +kernel
theorem dq_172_130 : decode (qx_code 172) 130 = .ok (.aload_n 0, 1) := by decide +kernel
theorem dq_172_131 : decode (qx_code 172) 131 = .ok (.bipush 7, 2) := by decide +kernel
theorem dq_172_133 : decode (qx_code 172) 133 = .ok (.iconst 0, 1) := by decide +kernel
theorem dq_172_134 : decode (qx_code 172) 134 = .ok (.invokevirtual 173, 3) := by decide +kernel
theorem dq_172_137 : decode (qx_code 172) 137 = .ok (.istore 9, 2) := by decide +kernel
theorem dq_172_139 : decode (qx_code 172) 139 = .ok (.iload_n 1, 1) := by decide +kernel
theorem dq_172_140 : decode (qx_code 172) 140 = .ok (.iconst 5, 1) := by decide +kernel
theorem dq_172_141 : decode (qx_code 172) 141 = .ok (.if_icmp .eq 6, 3) := by decide +kernel
theorem dq_172_144 : decode (qx_code 172) 144 = .ok (.goto 26, 3) := by decide +kernel
theorem dq_172_147 : decode (qx_code 172) 147 = .ok (.aload_n 0, 1) := by decide +kernel
theorem dq_172_148 : decode (qx_code 172) 148 = .ok (.bipush 7, 2) := by decide +kernel
theorem dq_172_150 : decode (qx_code 172) 150 = .ok (.iconst 1, 1) := by decide +kernel
theorem dq_172_151 : decode (qx_code 172) 151 = .ok (.invokevirtual 173, 3) := by decide +kernel
theorem dq_172_154 : decode (qx_code 172) 154 = .ok (.istore 9, 2) := by decide +kernel
theorem dq_172_156 : decode (qx_code 172) 156 = .ok (.aload_n 0, 1) := by decide +kernel
theorem dq_172_157 : decode (qx_code 172) 157 = .ok (.iconst 1, 1) := by decide +kernel
theorem dq_172_158 : decode (qx_code 172) 158 = .ok (.iconst 1, 1) := by decide +kernel
theorem dq_172_159 : decode (qx_code 172) 159 = .ok (.invokevirtual 173, 3) := by decide +kernel
theorem dq_172_162 : decode (qx_code 172) 162 = .ok (.istore 9, 2) := by decide +kernel
theorem dq_172_164 : decode (qx_code 172) 164 = .ok (.aload_n 0, 1) := by decide +kernel
theorem dq_172_165 : decode (qx_code 172) 165 = .ok (.invokevirtual 134, 3) := by decide +kernel
theorem dq_172_168 : decode (qx_code 172) 168 = .ok (.istore 9, 2) := by decide +kernel
theorem dq_172_170 : decode (qx_code 172) 170 = .ok (.iinc 8 1, 3) := by decide +kernel
theorem dq_172_173 : decode (qx_code 172) 173 = .ok (.goto (-57), 3) := by decide +kernel
theorem dq_172_176 : decode (qx_code 172) 176 = .ok (.return_, 1) := by decide +kernel
theorem mt_172_122 : qx_mth 172 122 = some (130, 2) := by decide +kernel
theorem mt_172_134 : qx_mth 172 134 = some (131, 0) := by decide +kernel
theorem fl_172_116 : qx_fld 172 116 = some (5, 8) := by decide +kernel
theorem fl_172_13 : qx_fld 172 13 = some (5, 2) := by decide +kernel
theorem fl_172_119 : qx_fld 172 119 = some (5, 7) := by decide +kernel
theorem mt_172_173 : qx_mth 172 173 = some (157, 2) := by decide +kernel
theorem dq_173_0 : decode (qx_code 173) 0 = .ok (.aload_n 0, 1) := by decide +kernel
theorem dq_173_1 : decode (qx_code 173) 1 = .ok (.getfield 22, 3) := by decide +kernel
theorem dq_173_4 : decode (qx_code 173) 4 = .ok (.ireturn, 1) := by decide +kernel
theorem fl_173_22 : qx_fld 173 22 = some (5, 9) := by decide +kernel
theorem dq_174_0 : decode (qx_code 174) 0 = .ok (.aload_n 0, 1) := by decide +kernel
theorem dq_174_1 : decode (qx_code 174) 1 = .ok (.getfield 249, 3) := by decide +kernel
theorem dq_174_4 : decode (qx_code 174) 4 = .ok (.ifCond .eq 13, 3) := by decide +kernel
theorem dq_174_7 : decode (qx_code 174) 7 = .ok (.iload_n 1, 1) := by decide +kernel
theorem dq_174_8 : decode (qx_code 174) 8 = .ok (.ifCond .lt 9, 3) := by decide +kernel
theorem dq_174_11 : decode (qx_code 174) 11 = .ok (.iload_n 1, 1) := by decide +kernel
theorem dq_174_12 : decode (qx_code 174) 12 = .ok (.bipush 11, 2) := by decide +kernel
theorem dq_174_14 : decode (qx_code 174) 14 = .ok (.if_icmp .le 5, 3) := by decide +kernel
theorem dq_174_17 : decode (qx_code 174) 17 = .ok (.iconst (-1), 1) := by decide +kernel
theorem dq_174_18 : decode (qx_code 174) 18 = .ok (.ireturn, 1) := by decide +kernel
theorem dq_174_19 : decode (qx_code 174) 19 = .ok (.iload_n 1, 1) := by decide +kernel
theorem dq_174_20 : decode (qx_code 174) 20 = .ok (.iconst 3, 1) := by decide +kernel
theorem dq_174_21 : decode (qx_code 174) 21 = .ok (.if_icmp .ge 10, 3) := by decide +kernel
theorem dq_174_24 : decode (qx_code 174) 24 = .ok (.aload_n 0, 1) := by decide +kernel
theorem dq_174_25 : decode (qx_code 174) 25 = .ok (.getfield 16, 3) := by decide +kernel
theorem dq_174_28 : decode (qx_code 174) 28 = .ok (.iload_n 1, 1) := by decide +kernel
theorem dq_174_29 : decode (qx_code 174) 29 = .ok (.iaload, 1) := by decide +kernel
theorem dq_174_30 : decode (qx_code 174) 30 = .ok (.ireturn, 1) := by decide +kernel
theorem dq_174_31 : decode (qx_code 174) 31 = .ok (.iload_n 1, 1) := by decide +kernel
theorem dq_174_32 : decode (qx_code 174) 32 = .ok (.iconst 3, 1) := by decide +kernel
theorem dq_174_33 : decode (qx_code 174) 33 = .ok (.if_icmp .ne 10, 3) := by decide +kernel
theorem dq_174_36 : decode (qx_code 174) 36 = .ok (.aload_n 0, 1) := by decide +kernel
theorem dq_174_37 : decode (qx_code 174) 37 = .ok (.getfield 16, 3) := by decide +kernel
theorem dq_174_40 : decode (qx_code 174) 40 = .ok (.iconst 5, 1) := by decide +kernel
theorem dq_174_41 : decode (qx_code 174) 41 = .ok (.iaload, 1) := by decide +kernel
theorem dq_174_42 : decode (qx_code 174) 42 = .ok (.ireturn, 1) := by decide +kernel
theorem dq_174_43 : decode (qx_code 174) 43 = .ok (.iload_n 1, 1) := by decide +kernel
theorem dq_174_44 : decode (qx_code 174) 44 = .ok (.iconst 4, 1) := by decide +kernel
theorem dq_174_45 : decode (qx_code 174) 45 = .ok (.if_icmp .eq 8, 3) := by decide +kernel
theorem dq_174_48 : decode (qx_code 174) 48 = .ok (.iload_n 1, 1) := by decide +kernel
theorem dq_174_49 : decode (qx_code 174) 49 = .ok (.iconst 5, 1) := by decide +kernel
theorem dq_174_50 : decode (qx_code 174) 50 = .ok (.if_icmp .ne 13, 3) := by decide +kernel
theorem dq_174_53 : decode (qx_code 174) 53 = .ok (.aload_n 0, 1) := by decide +kernel
theorem dq_174_54 : decode (qx_code 174) 54 = .ok (.getfield 16, 3) := by decide +kernel
theorem dq_174_57 : decode (qx_code 174) 57 = .ok (.bipush 9, 2) := by decide +kernel
theorem dq_174_59 : decode (qx_code 174) 59 = .ok (.iload_n 1, 1) := by decide +kernel
theorem dq_174_60 : decode (qx_code 174) 60 = .ok (.iadd, 1) := by decide +kernel
theorem dq_174_61 : decode (qx_code 174) 61 = .ok (.iaload, 1) := by decide +kernel
theorem dq_174_62 : decode (qx_code 174) 62 = .ok (.ireturn, 1) := by decide +kernel
theorem dq_174_63 : decode (qx_code 174) 63 = .ok (.iload_n 1, 1) := by decide +kernel
theorem dq_174_64 : decode (qx_code 174) 64 = .ok (.bipush 9, 2) := by decide +kernel
theorem dq_174_66 : decode (qx_code 174) 66 = .ok (.if_icmp .ge 14, 3) := by decide +kernel
theorem dq_174_69 : decode (qx_code 174) 69 = .ok (.aload_n 0, 1) := by decide +kernel
theorem dq_174_70 : decode (qx_code 174) 70 = .ok (.getfield 16, 3) := by decide +kernel
theorem dq_174_73 : decode (qx_code 174) 73 = .ok (.iconst 2, 1) := by decide +kernel
theorem dq_174_74 : decode (qx_code 174) 74 = .ok (.iload_n 1, 1) := by decide +kernel
theorem dq_174_75 : decode (qx_code 174) 75 = .ok (.imul, 1) := by decide +kernel
theorem dq_174_76 : decode (qx_code 174) 76 = .ok (.iconst 5, 1) := by decide +kernel
theorem dq_174_77 : decode (qx_code 174) 77 = .ok (.isub, 1) := by decide +kernel
theorem dq_174_78 : decode (qx_code 174) 78 = .ok (.iaload, 1) := by decide +kernel
theorem dq_174_79 : decode (qx_code 174) 79 = .ok (.ireturn, 1) := by decide +kernel
theorem dq_174_80 : decode (qx_code 174) 80 = .ok (.iload_n 1, 1) := by decide +kernel
theorem dq_174_81 : decode (qx_code 174) 81 = .ok (.bipush 9, 2) := by decide +kernel
theorem dq_174_83 : decode (qx_code 174) 83 = .ok (.if_icmp .ne 13, 3) := by decide +kernel
theorem dq_174_86 : decode (qx_code 174) 86 = .ok (.aload_n 0, 1) := by decide +kernel
theorem dq_174_87 : decode (qx_code 174) 87 = .ok (.getfield 16, 3) := by decide +kernel
theorem dq_174_90 : decode (qx_code 174) 90 = .ok (.bipush 15, 2) := by decide +kernel
theorem dq_174_92 : decode (qx_code 174) 92 = .ok (.iaload, 1) := by decide +kernel
theorem dq_174_93 : decode (qx_code 174) 93 = .ok (.goto 26, 3) := by decide +kernel
theorem dq_174_96 : decode (qx_code 174) 96 = .ok (.iload_n 1, 1) := by decide +kernel
theorem dq_174_97 : decode (qx_code 174) 97 = .ok (.bipush 10, 2) := by decide +kernel
theorem dq_174_99 : decode (qx_code 174) 99 = .ok (.if_icmp .ne 13, 3) := by decide +kernel
theorem dq_174_102 : decode (qx_code 174) 102 = .ok (.aload_n 0, 1) := by decide +kernel
theorem dq_174_103 : decode (qx_code 174) 103 = .ok (.getfield 16, 3) := by decide +kernel
theorem dq_174_106 : decode (qx_code 174) 106 = .ok (.bipush 17, 2) := by decide +kernel
theorem dq_174_108 : decode (qx_code 174) 108 = .ok (.iaload, 1) := by decide +kernel
theorem dq_174_109 : decode (qx_code 174) 109 = .ok (.goto 10, 3) := by decide +kernel
theorem dq_174_112 : decode (qx_code 174) 112 = .ok (.aload_n 0, 1) := by decide +kernel
theorem dq_174_113 : decode (qx_code 174) 113 = .ok (.getfield 16, 3) := by decide +kernel
theorem dq_174_116 : decode (qx_code 174) 116 = .ok (.bipush 18, 2) := by decide +kernel
theorem dq_174_118 : decode (qx_code 174) 118 = .ok (.iaload, 1) := by decide +kernel
theorem dq_174_119 : decode (qx_code 174) 119 = .ok (.ireturn, 1) := by decide +kernel
theorem fl_174_249 : qx_fld 174 249 = some (5, 5) := by decide +kernel
theorem fl_174_16 : qx_fld 174 16 = some (5, 3) := by decide +kernel
theorem dq_175_0 : decode (qx_code 175) 0 = .ok (.aload_n 0, 1) := by decide +kernel
theorem dq_175_1 : decode (qx_code 175) 1 = .ok (.iconst 1, 1) := by decide +kernel
theorem dq_175_2 : decode (qx_code 175) 2 = .ok (.putfield 31, 3) := by decide +kernel
theorem dq_175_5 : decode (qx_code 175) 5 = .ok (.iload_n 1, 1) := by decide +kernel
theorem dq_175_6 : decode (qx_code 175) 6 = .ok (.iconst 2, 1) := by decide +kernel
theorem dq_175_7 : decode (qx_code 175) 7 = .ok (.if_icmp .ne 41, 3) := by decide +kernel
theorem dq_175_10 : decode (qx_code 175) 10 = .ok (.aload_n 0, 1) := by decide +kernel
theorem dq_175_11 : decode (qx_code 175) 11 = .ok (.getfield 249, 3) := by decide +kernel
theorem dq_175_14 : decode (qx_code 175) 14 = .ok (.ifCond .eq 15, 3) := by decide +kernel
theorem dq_175_17 : decode (qx_code 175) 17 = .ok (.aload_n 0, 1) := by decide +kernel
theorem dq_175_18 : decode (qx_code 175) 18 = .ok (.bipush 7, 2) := by decide +kernel
theorem dq_175_20 : decode (qx_code 175) 20 = .ok (.iload_n 2, 1) := by decide +kernel
theorem dq_175_21 : decode (qx_code 175) 21 = .ok (.bipush 8, 2) := by decide +kernel
theorem dq_175_23 : decode (qx_code 175) 23 = .ok (.invokevirtual 252, 3) := by decide +kernel
theorem dq_175_26 : decode (qx_code 175) 26 = .ok (.goto 4, 3) := by decide +kernel
theorem dq_175_29 : decode (qx_code 175) 29 = .ok (.iconst (-1), 1) := by decide +kernel
theorem dq_175_30 : decode (qx_code 175) 30 = .ok (.istore_n 3, 1) := by decide +kernel
theorem dq_175_31 : decode (qx_code 175) 31 = .ok (.iload_n 3, 1) := by decide +kernel
theorem dq_175_32 : decode (qx_code 175) 32 = .ok (.ifCond .ge 7, 3) := by decide +kernel
theorem dq_175_35 : decode (qx_code 175) 35 = .ok (.iconst (-1), 1) := by decide +kernel
theorem dq_175_36 : decode (qx_code 175) 36 = .ok (.goto 11, 3) := by decide +kernel
theorem dq_175_39 : decode (qx_code 175) 39 = .ok (.aload_n 0, 1) := by decide +kernel
theorem dq_175_40 : decode (qx_code 175) 40 = .ok (.iload_n 3, 1) := by decide +kernel
theorem dq_175_41 : decode (qx_code 175) 41 = .ok (.bipush 6, 2) := by decide +kernel
theorem dq_175_43 : decode (qx_code 175) 43 = .ok (.iadd, 1) := by decide +kernel
theorem dq_175_44 : decode (qx_code 175) 44 = .ok (.invokevirtual 42, 3) := by decide +kernel
theorem dq_175_47 : decode (qx_code 175) 47 = .ok (.ireturn, 1) := by decide +kernel
theorem dq_175_48 : decode (qx_code 175) 48 = .ok (.aload_n 0, 1) := by decide +kernel
theorem dq_175_49 : decode (qx_code 175) 49 = .ok (.iload_n 1, 1) := by decide +kernel
theorem dq_175_50 : decode (qx_code 175) 50 = .ok (.iload_n 2, 1) := by decide +kernel
theorem dq_175_51 : decode (qx_code 175) 51 = .ok (.invokevirtual 256, 3) := by decide +kernel
theorem dq_175_54 : decode (qx_code 175) 54 = .ok (.istore_n 3, 1) := by decide +kernel
theorem dq_175_55 : decode (qx_code 175) 55 = .ok (.iload_n 3, 1) := by decide +kernel
theorem dq_175_56 : decode (qx_code 175) 56 = .ok (.ifCond .ge 7, 3) := by decide +kernel
theorem dq_175_59 : decode (qx_code 175) 59 = .ok (.iconst (-1), 1) := by decide +kernel
theorem dq_175_60 : decode (qx_code 175) 60 = .ok (.goto 9, 3) := by decide +kernel
theorem dq_175_63 : decode (qx_code 175) 63 = .ok (.aload_n 0, 1) := by decide +kernel
theorem dq_175_64 : decode (qx_code 175) 64 = .ok (.getfield 16, 3) := by decide +kernel
theorem dq_175_67 : decode (qx_code 175) 67 = .ok (.iload_n 3, 1) := by decide +kernel
theorem dq_175_68 : decode (qx_code 175) 68 = .ok (.iaload, 1) := by decide +kernel
theorem dq_175_69 : decode (qx_code 175) 69 = .ok (.ireturn, 1) := by decide +kernel
theorem fl_175_31 : qx_fld 175 31 = some (5, 6) := by decide +kernel
theorem fp_175_31 : qx_fld 175 31 = some (5, 6) ∧ qx_pok 175 31 = true := by decide +kernel
theorem fl_175_249 : qx_fld 175 249 = some (5, 5) := by decide +kernel
theorem mt_175_252 : qx_mth 175 252 = some (176, 3) := by decide +kernel
theorem mt_175_42 : qx_mth 175 42 = some (140, 1) := by decide +kernel
theorem mt_175_256 : qx_mth 175 256 = some (177, 2) := by decide +kernel
theorem fl_175_16 : qx_fld 175 16 = some (5, 3) := by decide +kernel
theorem dq_176_0 : decode (qx_code 176) 0 = .ok (.iload_n 2, 1) := by decide +kernel
theorem dq_176_1 : decode (qx_code 176) 1 = .ok (.ifCond .lt 13, 3) := by decide +kernel
theorem dq_176_4 : decode (qx_code 176) 4 = .ok (.iload_n 2, 1) := by decide +kernel
theorem dq_176_5 : decode (qx_code 176) 5 = .ok (.aload_n 0, 1) := by decide +kernel
theorem dq_176_6 : decode (qx_code 176) 6 = .ok (.getfield 16, 3) := by decide +kernel
theorem dq_176_9 : decode (qx_code 176) 9 = .ok (.iload_n 1, 1) := by decide +kernel
theorem dq_176_10 : decode (qx_code 176) 10 = .ok (.iaload, 1) := by decide +kernel
theorem dq_176_11 : decode (qx_code 176) 11 = .ok (.if_icmp .lt 7, 3) := by decide +kernel
theorem dq_176_14 : decode (qx_code 176) 14 = .ok (.iconst (-1), 1) := by decide +kernel
theorem dq_176_15 : decode (qx_code 176) 15 = .ok (.goto 15, 3) := by decide +kernel
theorem dq_176_18 : decode (qx_code 176) 18 = .ok (.aload_n 0, 1) := by decide +kernel
theorem dq_176_19 : decode (qx_code 176) 19 = .ok (.getfield 16, 3) := by decide +kernel
theorem dq_176_22 : decode (qx_code 176) 22 = .ok (.iload_n 1, 1) := by decide +kernel
theorem dq_176_23 : decode (qx_code 176) 23 = .ok (.iconst 1, 1) := by decide +kernel
theorem dq_176_24 : decode (qx_code 176) 24 = .ok (.iadd, 1) := by decide +kernel
theorem dq_176_25 : decode (qx_code 176) 25 = .ok (.iaload, 1) := by decide +kernel
theorem dq_176_26 : decode (qx_code 176) 26 = .ok (.iload_n 3, 1) := by decide +kernel
theorem dq_176_27 : decode (qx_code 176) 27 = .ok (.iload_n 2, 1) := by decide +kernel
theorem dq_176_28 : decode (qx_code 176) 28 = .ok (.imul, 1) := by decide +kernel
theorem dq_176_29 : decode (qx_code 176) 29 = .ok (.iadd, 1) := by decide +kernel
theorem dq_176_30 : decode (qx_code 176) 30 = .ok (.ireturn, 1) := by decide +kernel
theorem fl_176_16 : qx_fld 176 16 = some (5, 3) := by decide +kernel
theorem dq_177_0 : decode (qx_code 177) 0 = .ok (.aload_n 0, 1) := by decide +kernel
theorem dq_177_1 : decode (qx_code 177) 1 = .ok (.getfield 249, 3) := by decide +kernel
theorem dq_177_4 : decode (qx_code 177) 4 = .ok (.ifCond .eq 29, 3) := by decide +kernel
theorem dq_177_7 : decode (qx_code 177) 7 = .ok (.iload_n 1, 1) := by decide +kernel
theorem dq_177_8 : decode (qx_code 177) 8 = .ok (.ifCond .lt 25, 3) := by decide +kernel
theorem dq_177_11 : decode (qx_code 177) 11 = .ok (.iload_n 1, 1) := by decide +kernel
theorem dq_177_12 : decode (qx_code 177) 12 = .ok (.iconst 2, 1) := by decide +kernel
theorem dq_177_13 : decode (qx_code 177) 13 = .ok (.if_icmp .gt 20, 3) := by decide +kernel
theorem dq_177_16 : decode (qx_code 177) 16 = .ok (.iload_n 2, 1) := by decide +kernel
theorem dq_177_17 : decode (qx_code 177) 17 = .ok (.ifCond .lt 16, 3) := by decide +kernel
theorem dq_177_20 : decode (qx_code 177) 20 = .ok (.iload_n 2, 1) := by decide +kernel
theorem dq_177_21 : decode (qx_code 177) 21 = .ok (.aload_n 0, 1) := by decide +kernel
theorem dq_177_22 : decode (qx_code 177) 22 = .ok (.getfield 16, 3) := by decide +kernel
theorem dq_177_25 : decode (qx_code 177) 25 = .ok (.bipush 13, 2) := by decide +kernel
theorem dq_177_27 : decode (qx_code 177) 27 = .ok (.iload_n 1, 1) := by decide +kernel
theorem dq_177_28 : decode (qx_code 177) 28 = .ok (.iadd, 1) := by decide +kernel
theorem dq_177_29 : decode (qx_code 177) 29 = .ok (.iaload, 1) := by decide +kernel
theorem dq_177_30 : decode (qx_code 177) 30 = .ok (.if_icmp .lt 5, 3) := by decide +kernel
theorem dq_177_33 : decode (qx_code 177) 33 = .ok (.iconst (-1), 1) := by decide +kernel
theorem dq_177_34 : decode (qx_code 177) 34 = .ok (.ireturn, 1) := by decide +kernel
theorem dq_177_35 : decode (qx_code 177) 35 = .ok (.bipush 100, 2) := by decide +kernel
theorem dq_177_37 : decode (qx_code 177) 37 = .ok (.sipush 130, 3) := by decide +kernel
theorem dq_177_40 : decode (qx_code 177) 40 = .ok (.iload_n 1, 1) := by decide +kernel
theorem dq_177_41 : decode (qx_code 177) 41 = .ok (.imul, 1) := by decide +kernel
theorem dq_177_42 : decode (qx_code 177) 42 = .ok (.iadd, 1) := by decide +kernel
theorem dq_177_43 : decode (qx_code 177) 43 = .ok (.bipush 8, 2) := by decide +kernel
theorem dq_177_45 : decode (qx_code 177) 45 = .ok (.iload_n 2, 1) := by decide +kernel
theorem dq_177_46 : decode (qx_code 177) 46 = .ok (.imul, 1) := by decide +kernel
theorem dq_177_47 : decode (qx_code 177) 47 = .ok (.iadd, 1) := by decide +kernel
theorem dq_177_48 : decode (qx_code 177) 48 = .ok (.ireturn, 1) := by decide +kernel
theorem fl_177_249 : qx_fld 177 249 = some (5, 5) := by decide +kernel
theorem fl_177_16 : qx_fld 177 16 = some (5, 3) := by decide +kernel
theorem dq_178_0 : decode (qx_code 178) 0 = .ok (.aload_n 0, 1) := by decide +kernel
theorem dq_178_1 : decode (qx_code 178) 1 = .ok (.iconst 1, 1) := by decide +kernel
theorem dq_178_2 : decode (qx_code 178) 2 = .ok (.putfield 31, 3) := by decide +kernel
theorem dq_178_5 : decode (qx_code 178) 5 = .ok (.aload_n 0, 1) := by decide +kernel
theorem dq_178_6 : decode (qx_code 178) 6 = .ok (.getfield 249, 3) := by decide +kernel
theorem dq_178_9 : decode (qx_code 178) 9 = .ok (.ifCond .eq 17, 3) := by decide +kernel
theorem dq_178_12 : decode (qx_code 178) 12 = .ok (.aload_n 0, 1) := by decide +kernel
theorem dq_178_13 : decode (qx_code 178) 13 = .ok (.aload_n 0, 1) := by decide +kernel
theorem dq_178_14 : decode (qx_code 178) 14 = .ok (.iload_n 1, 1) := by decide +kernel
theorem dq_178_15 : decode (qx_code 178) 15 = .ok (.iload_n 2, 1) := by decide +kernel
theorem dq_178_16 : decode (qx_code 178) 16 = .ok (.invokevirtual 266, 3) := by decide +kernel
theorem dq_178_19 : decode (qx_code 178) 19 = .ok (.iload_n 3, 1) := by decide +kernel
theorem dq_178_20 : decode (qx_code 178) 20 = .ok (.invokevirtual 269, 3) := by decide +kernel
theorem dq_178_23 : decode (qx_code 178) 23 = .ok (.goto 4, 3) := by decide +kernel
theorem dq_178_26 : decode (qx_code 178) 26 = .ok (.iconst (-1), 1) := by decide +kernel
theorem dq_178_27 : decode (qx_code 178) 27 = .ok (.ireturn, 1) := by decide +kernel
theorem fl_178_31 : qx_fld 178 31 = some (5, 6) := by decide +kernel
theorem fp_178_31 : qx_fld 178 31 = some (5, 6) ∧ qx_pok 178 31 = true := by decide +kernel
theorem fl_178_249 : qx_fld 178 249 = some (5, 5) := by decide +kernel
theorem mt_178_266 : qx_mth 178 266 = some (179, 2) := by decide +kernel
theorem mt_178_269 : qx_mth 178 269 = some (182, 2) := by decide +kernel
theorem dq_179_0 : decode (qx_code 179) 0 = .ok (.iload_n 1, 1) := by decide +kernel
theorem dq_179_1 : decode (qx_code 179) 1 = .ok (.iconst 3, 1) := by decide +kernel
theorem dq_179_2 : decode (qx_code 179) 2 = .ok (.if_icmp .lt 9, 3) := by decide +kernel
theorem dq_179_5 : decode (qx_code 179) 5 = .ok (.iload_n 1, 1) := by decide +kernel
theorem dq_179_6 : decode (qx_code 179) 6 = .ok (.bipush 8, 2) := by decide +kernel
theorem dq_179_8 : decode (qx_code 179) 8 = .ok (.if_icmp .le 15, 3) := by decide +kernel
theorem dq_179_11 : decode (qx_code 179) 11 = .ok (.iload_n 1, 1) := by decide +kernel
theorem dq_179_12 : decode (qx_code 179) 12 = .ok (.bipush 10, 2) := by decide +kernel
theorem dq_179_14 : decode (qx_code 179) 14 = .ok (.if_icmp .lt 114, 3) := by decide +kernel
theorem dq_179_17 : decode (qx_code 179) 17 = .ok (.iload_n 1, 1) := by decide +kernel
theorem dq_179_18 : decode (qx_code 179) 18 = .ok (.bipush 12, 2) := by decide +kernel
theorem dq_179_20 : decode (qx_code 179) 20 = .ok (.if_icmp .gt 108, 3) := by decide +kernel
theorem dq_179_23 : decode (qx_code 179) 23 = .ok (.iload_n 1, 1) := by decide +kernel
theorem dq_179_24 : decode (qx_code 179) 24 = .ok (.iconst 3, 1) := by decide +kernel
theorem dq_179_25 : decode (qx_code 179) 25 = .ok (.if_icmp .eq 14, 3) := by decide +kernel
theorem dq_179_28 : decode (qx_code 179) 28 = .ok (.iload_n 1, 1) := by decide +kernel
theorem dq_179_29 : decode (qx_code 179) 29 = .ok (.iconst 4, 1) := by decide +kernel
theorem dq_179_30 : decode (qx_code 179) 30 = .ok (.if_icmp .eq 9, 3) := by decide +kernel
theorem dq_179_33 : decode (qx_code 179) 33 = .ok (.iload_n 1, 1) := by decide +kernel
theorem dq_179_34 : decode (qx_code 179) 34 = .ok (.bipush 7, 2) := by decide +kernel
theorem dq_179_36 : decode (qx_code 179) 36 = .ok (.if_icmp .ne 7, 3) := by decide +kernel
theorem dq_179_39 : decode (qx_code 179) 39 = .ok (.iconst 0, 1) := by decide +kernel
theorem dq_179_40 : decode (qx_code 179) 40 = .ok (.goto 14, 3) := by decide +kernel
theorem dq_179_43 : decode (qx_code 179) 43 = .ok (.iload_n 1, 1) := by decide +kernel
theorem dq_179_44 : decode (qx_code 179) 44 = .ok (.bipush 9, 2) := by decide +kernel
theorem dq_179_46 : decode (qx_code 179) 46 = .ok (.if_icmp .ge 7, 3) := by decide +kernel
theorem dq_179_49 : decode (qx_code 179) 49 = .ok (.iconst 1, 1) := by decide +kernel
theorem dq_179_50 : decode (qx_code 179) 50 = .ok (.goto 4, 3) := by decide +kernel
theorem dq_179_53 : decode (qx_code 179) 53 = .ok (.iconst 2, 1) := by decide +kernel
theorem dq_179_54 : decode (qx_code 179) 54 = .ok (.istore_n 3, 1) := by decide +kernel
theorem dq_179_55 : decode (qx_code 179) 55 = .ok (.aload_n 0, 1) := by decide +kernel
theorem dq_179_56 : decode (qx_code 179) 56 = .ok (.iload_n 3, 1) := by decide +kernel
theorem dq_179_57 : decode (qx_code 179) 57 = .ok (.iload_n 2, 1) := by decide +kernel
theorem dq_179_58 : decode (qx_code 179) 58 = .ok (.invokevirtual 256, 3) := by decide +kernel
theorem dq_179_61 : decode (qx_code 179) 61 = .ok (.istore 4, 2) := by decide +kernel
theorem dq_179_63 : decode (qx_code 179) 63 = .ok (.iload_n 1, 1) := by decide +kernel
theorem dq_179_64 : decode (qx_code 179) 64 = .ok (.bipush 7, 2) := by decide +kernel
theorem dq_179_66 : decode (qx_code 179) 66 = .ok (.if_icmp .eq 15, 3) := by decide +kernel
theorem dq_179_69 : decode (qx_code 179) 69 = .ok (.iload_n 1, 1) := by decide +kernel
theorem dq_179_70 : decode (qx_code 179) 70 = .ok (.bipush 8, 2) := by decide +kernel
theorem dq_179_72 : decode (qx_code 179) 72 = .ok (.if_icmp .eq 9, 3) := by decide +kernel
theorem dq_179_75 : decode (qx_code 179) 75 = .ok (.iload_n 1, 1) := by decide +kernel
theorem dq_179_76 : decode (qx_code 179) 76 = .ok (.bipush 12, 2) := by decide +kernel
theorem dq_179_78 : decode (qx_code 179) 78 = .ok (.if_icmp .ne 7, 3) := by decide +kernel
theorem dq_179_81 : decode (qx_code 179) 81 = .ok (.iconst 3, 1) := by decide +kernel
theorem dq_179_82 : decode (qx_code 179) 82 = .ok (.goto 24, 3) := by decide +kernel
theorem dq_179_85 : decode (qx_code 179) 85 = .ok (.iload_n 1, 1) := by decide +kernel
theorem dq_179_86 : decode (qx_code 179) 86 = .ok (.iconst 3, 1) := by decide +kernel
theorem dq_179_87 : decode (qx_code 179) 87 = .ok (.if_icmp .eq 14, 3) := by decide +kernel
theorem dq_179_90 : decode (qx_code 179) 90 = .ok (.iload_n 1, 1) := by decide +kernel
theorem dq_179_91 : decode (qx_code 179) 91 = .ok (.iconst 5, 1) := by decide +kernel
theorem dq_179_92 : decode (qx_code 179) 92 = .ok (.if_icmp .eq 9, 3) := by decide +kernel
theorem dq_179_95 : decode (qx_code 179) 95 = .ok (.iload_n 1, 1) := by decide +kernel
theorem dq_179_96 : decode (qx_code 179) 96 = .ok (.bipush 10, 2) := by decide +kernel
theorem dq_179_98 : decode (qx_code 179) 98 = .ok (.if_icmp .ne 7, 3) := by decide +kernel
theorem dq_179_101 : decode (qx_code 179) 101 = .ok (.iconst 1, 1) := by decide +kernel
theorem dq_179_102 : decode (qx_code 179) 102 = .ok (.goto 4, 3) := by decide +kernel
theorem dq_179_105 : decode (qx_code 179) 105 = .ok (.iconst 2, 1) := by decide +kernel
theorem dq_179_106 : decode (qx_code 179) 106 = .ok (.istore 5, 2) := by decide +kernel
theorem dq_179_108 : decode (qx_code 179) 108 = .ok (.iload 4, 2) := by decide +kernel
theorem dq_179_110 : decode (qx_code 179) 110 = .ok (.ifCond .ge 7, 3) := by decide +kernel
theorem dq_179_113 : decode (qx_code 179) 113 = .ok (.iconst 0, 1) := by decide +kernel
theorem dq_179_114 : decode (qx_code 179) 114 = .ok (.goto 13, 3) := by decide +kernel
theorem dq_179_117 : decode (qx_code 179) 117 = .ok (.aload_n 0, 1) := by decide +kernel
theorem dq_179_118 : decode (qx_code 179) 118 = .ok (.getfield 16, 3) := by decide +kernel
theorem dq_179_121 : decode (qx_code 179) 121 = .ok (.iload 4, 2) := by decide +kernel
theorem dq_179_123 : decode (qx_code 179) 123 = .ok (.iload 5, 2) := by decide +kernel
theorem dq_179_125 : decode (qx_code 179) 125 = .ok (.iadd, 1) := by decide +kernel
theorem dq_179_126 : decode (qx_code 179) 126 = .ok (.iaload, 1) := by decide +kernel
theorem dq_179_127 : decode (qx_code 179) 127 = .ok (.ireturn, 1) := by decide +kernel
theorem dq_179_128 : decode (qx_code 179) 128 = .ok (.iload_n 1, 1) := by decide +kernel
theorem dq_179_129 : decode (qx_code 179) 129 = .ok (.tableswitch 215 0 18 #[91, 102, 113, 215, 215, 215, 215, 215, 215, 126, 215, 215, 215, 134, 149, 164, 175, 187, 201], 91) := by decide +kernel
theorem dq_179_220 : decode (qx_code 179) 220 = .ok (.aload_n 0, 1) := by decide +kernel
theorem dq_179_221 : decode (qx_code 179) 221 = .ok (.aload_n 0, 1) := by decide +kernel
theorem dq_179_222 : decode (qx_code 179) 222 = .ok (.getfield 16, 3) := by decide +kernel
theorem dq_179_225 : decode (qx_code 179) 225 = .ok (.iconst 3, 1) := by decide +kernel
theorem dq_179_226 : decode (qx_code 179) 226 = .ok (.iaload, 1) := by decide +kernel
theorem dq_179_227 : decode (qx_code 179) 227 = .ok (.invokevirtual 259, 3) := by decide +kernel
theorem dq_179_230 : decode (qx_code 179) 230 = .ok (.ireturn, 1) := by decide +kernel
theorem dq_179_231 : decode (qx_code 179) 231 = .ok (.aload_n 0, 1) := by decide +kernel
theorem dq_179_232 : decode (qx_code 179) 232 = .ok (.aload_n 0, 1) := by decide +kernel
theorem dq_179_233 : decode (qx_code 179) 233 = .ok (.getfield 16, 3) := by decide +kernel
theorem dq_179_236 : decode (qx_code 179) 236 = .ok (.iconst 4, 1) := by decide +kernel
theorem dq_179_237 : decode (qx_code 179) 237 = .ok (.iaload, 1) := by decide +kernel
theorem dq_179_238 : decode (qx_code 179) 238 = .ok (.invokevirtual 259, 3) := by decide +kernel
theorem dq_179_241 : decode (qx_code 179) 241 = .ok (.ireturn, 1) := by decide +kernel
theorem dq_179_242 : decode (qx_code 179) 242 = .ok (.aload_n 0, 1) := by decide +kernel
theorem dq_179_243 : decode (qx_code 179) 243 = .ok (.aload_n 0, 1) := by decide +kernel
theorem dq_179_244 : decode (qx_code 179) 244 = .ok (.iconst 5, 1) := by decide +kernel
theorem dq_179_245 : decode (qx_code 179) 245 = .ok (.iload_n 2, 1) := by decide +kernel
theorem dq_179_246 : decode (qx_code 179) 246 = .ok (.iconst 2, 1) := by decide +kernel
theorem dq_179_247 : decode (qx_code 179) 247 = .ok (.iconst 0, 1) := by decide +kernel
theorem dq_179_248 : decode (qx_code 179) 248 = .ok (.invokevirtual 262, 3) := by decide +kernel
theorem dq_179_251 : decode (qx_code 179) 251 = .ok (.invokevirtual 259, 3) := by decide +kernel
theorem dq_179_254 : decode (qx_code 179) 254 = .ok (.ireturn, 1) := by decide +kernel
theorem dq_179_255 : decode (qx_code 179) 255 = .ok (.aload_n 0, 1) := by decide +kernel
theorem dq_179_256 : decode (qx_code 179) 256 = .ok (.getfield 16, 3) := by decide +kernel
theorem dq_179_259 : decode (qx_code 179) 259 = .ok (.bipush 16, 2) := by decide +kernel
theorem dq_179_261 : decode (qx_code 179) 261 = .ok (.iaload, 1) := by decide +kernel
theorem dq_179_262 : decode (qx_code 179) 262 = .ok (.ireturn, 1) := by decide +kernel
theorem dq_179_263 : decode (qx_code 179) 263 = .ok (.aload_n 0, 1) := by decide +kernel
theorem dq_179_264 : decode (qx_code 179) 264 = .ok (.aload_n 0, 1) := by decide +kernel
theorem dq_179_265 : decode (qx_code 179) 265 = .ok (.bipush 7, 2) := by decide +kernel
theorem dq_179_267 : decode (qx_code 179) 267 = .ok (.iload_n 2, 1) := by decide +kernel
theorem dq_179_268 : decode (qx_code 179) 268 = .ok (.bipush 8, 2) := by decide +kernel
theorem dq_179_270 : decode (qx_code 179) 270 = .ok (.iconst 0, 1) := by decide +kernel
theorem dq_179_271 : decode (qx_code 179) 271 = .ok (.invokevirtual 262, 3) := by decide +kernel
theorem dq_179_274 : decode (qx_code 179) 274 = .ok (.invokevirtual 259, 3) := by decide +kernel
theorem dq_179_277 : decode (qx_code 179) 277 = .ok (.ireturn, 1) := by decide +kernel
theorem dq_179_278 : decode (qx_code 179) 278 = .ok (.aload_n 0, 1) := by decide +kernel
theorem dq_179_279 : decode (qx_code 179) 279 = .ok (.aload_n 0, 1) := by decide +kernel
theorem dq_179_280 : decode (qx_code 179) 280 = .ok (.bipush 7, 2) := by decide +kernel
theorem dq_179_282 : decode (qx_code 179) 282 = .ok (.iload_n 2, 1) := by decide +kernel
theorem dq_179_283 : decode (qx_code 179) 283 = .ok (.bipush 8, 2) := by decide +kernel
theorem dq_179_285 : decode (qx_code 179) 285 = .ok (.iconst 2, 1) := by decide +kernel
theorem dq_179_286 : decode (qx_code 179) 286 = .ok (.invokevirtual 262, 3) := by decide +kernel
theorem dq_179_289 : decode (qx_code 179) 289 = .ok (.invokevirtual 259, 3) := by decide +kernel
theorem dq_179_292 : decode (qx_code 179) 292 = .ok (.ireturn, 1) := by decide +kernel
theorem dq_179_293 : decode (qx_code 179) 293 = .ok (.aload_n 0, 1) := by decide +kernel
theorem dq_179_294 : decode (qx_code 179) 294 = .ok (.bipush 7, 2) := by decide +kernel
theorem dq_179_296 : decode (qx_code 179) 296 = .ok (.iload_n 2, 1) := by decide +kernel
theorem dq_179_297 : decode (qx_code 179) 297 = .ok (.bipush 8, 2) := by decide +kernel
theorem dq_179_299 : decode (qx_code 179) 299 = .ok (.iconst 4, 1) := by decide +kernel
theorem dq_179_300 : decode (qx_code 179) 300 = .ok (.invokevirtual 262, 3) := by decide +kernel
theorem dq_179_303 : decode (qx_code 179) 303 = .ok (.ireturn, 1) := by decide +kernel
theorem dq_179_304 : decode (qx_code 179) 304 = .ok (.aload_n 0, 1) := by decide +kernel
theorem dq_179_305 : decode (qx_code 179) 305 = .ok (.aload_n 0, 1) := by decide +kernel
theorem dq_179_306 : decode (qx_code 179) 306 = .ok (.getfield 16, 3) := by decide +kernel
theorem dq_179_309 : decode (qx_code 179) 309 = .ok (.bipush 19, 2) := by decide +kernel
theorem dq_179_311 : decode (qx_code 179) 311 = .ok (.iaload, 1) := by decide +kernel
theorem dq_179_312 : decode (qx_code 179) 312 = .ok (.invokevirtual 259, 3) := by decide +kernel
theorem dq_179_315 : decode (qx_code 179) 315 = .ok (.ireturn, 1) := by decide +kernel
theorem dq_179_316 : decode (qx_code 179) 316 = .ok (.aload_n 0, 1) := by decide +kernel
theorem dq_179_317 : decode (qx_code 179) 317 = .ok (.aload_n 0, 1) := by decide +kernel
theorem dq_179_318 : decode (qx_code 179) 318 = .ok (.bipush 9, 2) := by decide +kernel
theorem dq_179_320 : decode (qx_code 179) 320 = .ok (.iload_n 2, 1) := by decide +kernel
theorem dq_179_321 : decode (qx_code 179) 321 = .ok (.iconst 2, 1) := by decide +kernel
theorem dq_179_322 : decode (qx_code 179) 322 = .ok (.iconst 0, 1) := by decide +kernel
theorem dq_179_323 : decode (qx_code 179) 323 = .ok (.invokevirtual 262, 3) := by decide +kernel
theorem dq_179_326 : decode (qx_code 179) 326 = .ok (.invokevirtual 259, 3) := by decide +kernel
theorem dq_179_329 : decode (qx_code 179) 329 = .ok (.ireturn, 1) := by decide +kernel
theorem dq_179_330 : decode (qx_code 179) 330 = .ok (.aload_n 0, 1) := by decide +kernel
theorem dq_179_331 : decode (qx_code 179) 331 = .ok (.aload_n 0, 1) := by decide +kernel
theorem dq_179_332 : decode (qx_code 179) 332 = .ok (.bipush 11, 2) := by decide +kernel
theorem dq_179_334 : decode (qx_code 179) 334 = .ok (.iload_n 2, 1) := by decide +kernel
theorem dq_179_335 : decode (qx_code 179) 335 = .ok (.iconst 2, 1) := by decide +kernel
theorem dq_179_336 : decode (qx_code 179) 336 = .ok (.iconst 0, 1) := by decide +kernel
theorem dq_179_337 : decode (qx_code 179) 337 = .ok (.invokevirtual 262, 3) := by decide +kernel
theorem dq_179_340 : decode (qx_code 179) 340 = .ok (.invokevirtual 259, 3) := by decide +kernel
theorem dq_179_343 : decode (qx_code 179) 343 = .ok (.ireturn, 1) := by decide +kernel
theorem dq_179_344 : decode (qx_code 179) 344 = .ok (.iconst 0, 1) := by decide +kernel
theorem dq_179_345 : decode (qx_code 179) 345 = .ok (.ireturn, 1) := by decide +kernel
theorem mt_179_256 : qx_mth 179 256 = some (177, 2) := by decide +kernel
theorem fl_179_16 : qx_fld 179 16 = some (5, 3) := by decide +kernel
theorem mt_179_259 : qx_mth 179 259 = some (180, 1) := by decide +kernel
theorem mt_179_262 : qx_mth 179 262 = some (181, 4) := by decide +kernel
theorem dq_180_0 : decode (qx_code 180) 0 = .ok (.iload_n 1, 1) := by decide +kernel
theorem dq_180_1 : decode (qx_code 180) 1 = .ok (.ifCond .gt 7, 3) := by decide +kernel
theorem dq_180_4 : decode (qx_code 180) 4 = .ok (.iconst 0, 1) := by decide +kernel
theorem dq_180_5 : decode (qx_code 180) 5 = .ok (.goto 8, 3) := by decide +kernel
theorem dq_180_8 : decode (qx_code 180) 8 = .ok (.aload_n 0, 1) := by decide +kernel
theorem dq_180_9 : decode (qx_code 180) 9 = .ok (.iload_n 1, 1) := by decide +kernel
theorem dq_180_10 : decode (qx_code 180) 10 = .ok (.invokevirtual 148, 3) := by decide +kernel
theorem dq_180_13 : decode (qx_code 180) 13 = .ok (.ireturn, 1) := by decide +kernel
theorem mt_180_148 : qx_mth 180 148 = some (139, 1) := by decide +kernel
theorem dq_181_0 : decode (qx_code 181) 0 = .ok (.aload_n 0, 1) := by decide +kernel
theorem dq_181_1 : decode (qx_code 181) 1 = .ok (.iload_n 1, 1) := by decide +kernel
theorem dq_181_2 : decode (qx_code 181) 2 = .ok (.iload_n 2, 1) := by decide +kernel
theorem dq_181_3 : decode (qx_code 181) 3 = .ok (.iload_n 3, 1) := by decide +kernel
theorem dq_181_4 : decode (qx_code 181) 4 = .ok (.invokevirtual 252, 3) := by decide +kernel
theorem dq_181_7 : decode (qx_code 181) 7 = .ok (.istore 5, 2) := by decide +kernel
theorem dq_181_9 : decode (qx_code 181) 9 = .ok (.iload 5, 2) := by decide +kernel
theorem dq_181_11 : decode (qx_code 181) 11 = .ok (.ifCond .ge 7, 3) := by decide +kernel
theorem dq_181_14 : decode (qx_code 181) 14 = .ok (.iconst 0, 1) := by decide +kernel
theorem dq_181_15 : decode (qx_code 181) 15 = .ok (.goto 12, 3) := by decide +kernel
theorem dq_181_18 : decode (qx_code 181) 18 = .ok (.aload_n 0, 1) := by decide +kernel
theorem dq_181_19 : decode (qx_code 181) 19 = .ok (.iload 5, 2) := by decide +kernel
theorem dq_181_21 : decode (qx_code 181) 21 = .ok (.iload 4, 2) := by decide +kernel
theorem dq_181_23 : decode (qx_code 181) 23 = .ok (.iadd, 1) := by decide +kernel
theorem dq_181_24 : decode (qx_code 181) 24 = .ok (.invokevirtual 42, 3) := by decide +kernel
theorem dq_181_27 : decode (qx_code 181) 27 = .ok (.ireturn, 1) := by decide +kernel
theorem mt_181_252 : qx_mth 181 252 = some (176, 3) := by decide +kernel
theorem mt_181_42 : qx_mth 181 42 = some (140, 1) := by decide +kernel
theorem dq_182_0 : decode (qx_code 182) 0 = .ok (.iload_n 1, 1) := by decide +kernel
theorem dq_182_1 : decode (qx_code 182) 1 = .ok (.ifCond .le 16, 3) := by decide +kernel
theorem dq_182_4 : decode (qx_code 182) 4 = .ok (.iload_n 2, 1) := by decide +kernel
theorem dq_182_5 : decode (qx_code 182) 5 = .ok (.ifCond .lt 12, 3) := by decide +kernel
theorem dq_182_8 : decode (qx_code 182) 8 = .ok (.iload_n 2, 1) := by decide +kernel
theorem dq_182_9 : decode (qx_code 182) 9 = .ok (.aload_n 0, 1) := by decide +kernel
theorem dq_182_10 : decode (qx_code 182) 10 = .ok (.iload_n 1, 1) := by decide +kernel
theorem dq_182_11 : decode (qx_code 182) 11 = .ok (.invokevirtual 48, 3) := by decide +kernel
theorem dq_182_14 : decode (qx_code 182) 14 = .ok (.if_icmp .lt 7, 3) := by decide +kernel
theorem dq_182_17 : decode (qx_code 182) 17 = .ok (.iconst (-1), 1) := by decide +kernel
theorem dq_182_18 : decode (qx_code 182) 18 = .ok (.goto 9, 3) := by decide +kernel
theorem dq_182_21 : decode (qx_code 182) 21 = .ok (.aload_n 0, 1) := by decide +kernel
theorem dq_182_22 : decode (qx_code 182) 22 = .ok (.iload_n 1, 1) := by decide +kernel
theorem dq_182_23 : decode (qx_code 182) 23 = .ok (.iload_n 2, 1) := by decide +kernel
theorem dq_182_24 : decode (qx_code 182) 24 = .ok (.invokevirtual 53, 3) := by decide +kernel
theorem dq_182_27 : decode (qx_code 182) 27 = .ok (.ireturn, 1) := by decide +kernel
theorem mt_182_48 : qx_mth 182 48 = some (143, 1) := by decide +kernel
theorem mt_182_53 : qx_mth 182 53 = some (146, 2) := by decide +kernel
theorem dq_183_0 : decode (qx_code 183) 0 = .ok (.aload_n 0, 1) := by decide +kernel
theorem dq_183_1 : decode (qx_code 183) 1 = .ok (.iconst 1, 1) := by decide +kernel
theorem dq_183_2 : decode (qx_code 183) 2 = .ok (.iload_n 1, 1) := by decide +kernel
theorem dq_183_3 : decode (qx_code 183) 3 = .ok (.invokevirtual 256, 3) := by decide +kernel
theorem dq_183_6 : decode (qx_code 183) 6 = .ok (.istore_n 2, 1) := by decide +kernel
theorem dq_183_7 : decode (qx_code 183) 7 = .ok (.iload_n 2, 1) := by decide +kernel
theorem dq_183_8 : decode (qx_code 183) 8 = .ok (.ifCond .ge 7, 3) := by decide +kernel
theorem dq_183_11 : decode (qx_code 183) 11 = .ok (.iconst (-1), 1) := by decide +kernel
theorem dq_183_12 : decode (qx_code 183) 12 = .ok (.goto 12, 3) := by decide +kernel
theorem dq_183_15 : decode (qx_code 183) 15 = .ok (.aload_n 0, 1) := by decide +kernel
theorem dq_183_16 : decode (qx_code 183) 16 = .ok (.getfield 16, 3) := by decide +kernel
theorem dq_183_19 : decode (qx_code 183) 19 = .ok (.iload_n 2, 1) := by decide +kernel
theorem dq_183_20 : decode (qx_code 183) 20 = .ok (.bipush 6, 2) := by decide +kernel
theorem dq_183_22 : decode (qx_code 183) 22 = .ok (.iadd, 1) := by decide +kernel
theorem dq_183_23 : decode (qx_code 183) 23 = .ok (.iaload, 1) := by decide +kernel
theorem dq_183_24 : decode (qx_code 183) 24 = .ok (.ireturn, 1) := by decide +kernel
theorem mt_183_256 : qx_mth 183 256 = some (177, 2) := by decide +kernel
theorem fl_183_16 : qx_fld 183 16 = some (5, 3) := by decide +kernel
theorem dq_184_0 : decode (qx_code 184) 0 = .ok (.aload_n 0, 1) := by decide +kernel
theorem dq_184_1 : decode (qx_code 184) 1 = .ok (.iconst 1, 1) := by decide +kernel
theorem dq_184_2 : decode (qx_code 184) 2 = .ok (.putfield 31, 3) := by decide +kernel
theorem dq_184_5 : decode (qx_code 184) 5 = .ok (.aload_n 0, 1) := by decide +kernel
theorem dq_184_6 : decode (qx_code 184) 6 = .ok (.iconst 1, 1) := by decide +kernel
theorem dq_184_7 : decode (qx_code 184) 7 = .ok (.iload_n 1, 1) := by decide +kernel
theorem dq_184_8 : decode (qx_code 184) 8 = .ok (.invokevirtual 256, 3) := by decide +kernel
theorem dq_184_11 : decode (qx_code 184) 11 = .ok (.istore 4, 2) := by decide +kernel
theorem dq_184_13 : decode (qx_code 184) 13 = .ok (.iload 4, 2) := by decide +kernel
theorem dq_184_15 : decode (qx_code 184) 15 = .ok (.ifCond .ge 7, 3) := by decide +kernel
theorem dq_184_18 : decode (qx_code 184) 18 = .ok (.iconst (-1), 1) := by decide +kernel
theorem dq_184_19 : decode (qx_code 184) 19 = .ok (.goto 24, 3) := by decide +kernel
theorem dq_184_22 : decode (qx_code 184) 22 = .ok (.aload_n 0, 1) := by decide +kernel
theorem dq_184_23 : decode (qx_code 184) 23 = .ok (.aload_n 0, 1) := by decide +kernel
theorem dq_184_24 : decode (qx_code 184) 24 = .ok (.aload_n 0, 1) := by decide +kernel
theorem dq_184_25 : decode (qx_code 184) 25 = .ok (.iload 4, 2) := by decide +kernel
theorem dq_184_27 : decode (qx_code 184) 27 = .ok (.bipush 6, 2) := by decide +kernel
theorem dq_184_29 : decode (qx_code 184) 29 = .ok (.iadd, 1) := by decide +kernel
theorem dq_184_30 : decode (qx_code 184) 30 = .ok (.iload_n 2, 1) := by decide +kernel
theorem dq_184_31 : decode (qx_code 184) 31 = .ok (.iconst 2, 1) := by decide +kernel
theorem dq_184_32 : decode (qx_code 184) 32 = .ok (.iconst 0, 1) := by decide +kernel
theorem dq_184_33 : decode (qx_code 184) 33 = .ok (.invokevirtual 262, 3) := by decide +kernel
theorem dq_184_36 : decode (qx_code 184) 36 = .ok (.invokevirtual 259, 3) := by decide +kernel
theorem dq_184_39 : decode (qx_code 184) 39 = .ok (.iload_n 3, 1) := by decide +kernel
theorem dq_184_40 : decode (qx_code 184) 40 = .ok (.invokevirtual 269, 3) := by decide +kernel
theorem dq_184_43 : decode (qx_code 184) 43 = .ok (.ireturn, 1) := by decide +kernel
theorem fl_184_31 : qx_fld 184 31 = some (5, 6) := by decide +kernel
theorem fp_184_31 : qx_fld 184 31 = some (5, 6) ∧ qx_pok 184 31 = true := by decide +kernel
theorem mt_184_256 : qx_mth 184 256 = some (177, 2) := by decide +kernel
theorem mt_184_262 : qx_mth 184 262 = some (181, 4) := by decide +kernel
theorem mt_184_259 : qx_mth 184 259 = some (180, 1) := by decide +kernel
theorem mt_184_269 : qx_mth 184 269 = some (182, 2) := by decide +kernel
theorem dq_185_0 : decode (qx_code 185) 0 = .ok (.aload_n 0, 1) := by decide +kernel
theorem dq_185_1 : decode (qx_code 185) 1 = .ok (.iconst 1, 1) := by decide +kernel
theorem dq_185_2 : decode (qx_code 185) 2 = .ok (.putfield 31, 3) := by decide +kernel
theorem dq_185_5 : decode (qx_code 185) 5 = .ok (.aload_n 0, 1) := by decide +kernel
theorem dq_185_6 : decode (qx_code 185) 6 = .ok (.iconst 0, 1) := by decide +kernel
theorem dq_185_7 : decode (qx_code 185) 7 = .ok (.iload_n 1, 1) := by decide +kernel
theorem dq_185_8 : decode (qx_code 185) 8 = .ok (.invokevirtual 256, 3) := by decide +kernel
theorem dq_185_11 : decode (qx_code 185) 11 = .ok (.istore_n 2, 1) := by decide +kernel
theorem dq_185_12 : decode (qx_code 185) 12 = .ok (.iload_n 2, 1) := by decide +kernel
theorem dq_185_13 : decode (qx_code 185) 13 = .ok (.ifCond .ge 7, 3) := by decide +kernel
theorem dq_185_16 : decode (qx_code 185) 16 = .ok (.iconst 0, 1) := by decide +kernel
theorem dq_185_17 : decode (qx_code 185) 17 = .ok (.goto 11, 3) := by decide +kernel
theorem dq_185_20 : decode (qx_code 185) 20 = .ok (.aload_n 0, 1) := by decide +kernel
theorem dq_185_21 : decode (qx_code 185) 21 = .ok (.getfield 16, 3) := by decide +kernel
theorem dq_185_24 : decode (qx_code 185) 24 = .ok (.iload_n 2, 1) := by decide +kernel
theorem dq_185_25 : decode (qx_code 185) 25 = .ok (.iconst 5, 1) := by decide +kernel
theorem dq_185_26 : decode (qx_code 185) 26 = .ok (.iadd, 1) := by decide +kernel
theorem dq_185_27 : decode (qx_code 185) 27 = .ok (.iaload, 1) := by decide +kernel
theorem dq_185_28 : decode (qx_code 185) 28 = .ok (.istore_n 3, 1) := by decide +kernel
theorem dq_185_29 : decode (qx_code 185) 29 = .ok (.iload_n 3, 1) := by decide +kernel
theorem dq_185_30 : decode (qx_code 185) 30 = .ok (.ifCond .ne 7, 3) := by decide +kernel
theorem dq_185_33 : decode (qx_code 185) 33 = .ok (.ldc2_w 274, 3) := by decide +kernel
theorem dq_185_36 : decode (qx_code 185) 36 = .ok (.lreturn, 1) := by decide +kernel
theorem dq_185_37 : decode (qx_code 185) 37 = .ok (.aload_n 0, 1) := by decide +kernel
theorem dq_185_38 : decode (qx_code 185) 38 = .ok (.getfield 16, 3) := by decide +kernel
theorem dq_185_41 : decode (qx_code 185) 41 = .ok (.bipush 20, 2) := by decide +kernel
theorem dq_185_43 : decode (qx_code 185) 43 = .ok (.iload_n 3, 1) := by decide +kernel
theorem dq_185_44 : decode (qx_code 185) 44 = .ok (.iadd, 1) := by decide +kernel
theorem dq_185_45 : decode (qx_code 185) 45 = .ok (.iaload, 1) := by decide +kernel
theorem dq_185_46 : decode (qx_code 185) 46 = .ok (.iconst 1, 1) := by decide +kernel
theorem dq_185_47 : decode (qx_code 185) 47 = .ok (.iadd, 1) := by decide +kernel
theorem dq_185_48 : decode (qx_code 185) 48 = .ok (.istore 4, 2) := by decide +kernel
theorem dq_185_50 : decode (qx_code 185) 50 = .ok (.aload_n 0, 1) := by decide +kernel
theorem dq_185_51 : decode (qx_code 185) 51 = .ok (.iload_n 3, 1) := by decide +kernel
theorem dq_185_52 : decode (qx_code 185) 52 = .ok (.invokevirtual 138, 3) := by decide +kernel
theorem dq_185_55 : decode (qx_code 185) 55 = .ok (.istore 5, 2) := by decide +kernel
theorem dq_185_57 : decode (qx_code 185) 57 = .ok (.iload 5, 2) := by decide +kernel
theorem dq_185_59 : decode (qx_code 185) 59 = .ok (.bipush 8, 2) := by decide +kernel
theorem dq_185_61 : decode (qx_code 185) 61 = .ok (.if_icmp .ne 14, 3) := by decide +kernel
theorem dq_185_64 : decode (qx_code 185) 64 = .ok (.aload_n 0, 1) := by decide +kernel
theorem dq_185_65 : decode (qx_code 185) 65 = .ok (.aload_n 0, 1) := by decide +kernel
theorem dq_185_66 : decode (qx_code 185) 66 = .ok (.iload_n 3, 1) := by decide +kernel
theorem dq_185_67 : decode (qx_code 185) 67 = .ok (.invokevirtual 148, 3) := by decide +kernel
theorem dq_185_70 : decode (qx_code 185) 70 = .ok (.invokevirtual 48, 3) := by decide +kernel
theorem dq_185_73 : decode (qx_code 185) 73 = .ok (.i2l, 1) := by decide +kernel
theorem dq_185_74 : decode (qx_code 185) 74 = .ok (.lreturn, 1) := by decide +kernel
theorem dq_185_75 : decode (qx_code 185) 75 = .ok (.iload 5, 2) := by decide +kernel
theorem dq_185_77 : decode (qx_code 185) 77 = .ok (.iconst 5, 1) := by decide +kernel
theorem dq_185_78 : decode (qx_code 185) 78 = .ok (.if_icmp .ge 12, 3) := by decide +kernel
theorem dq_185_81 : decode (qx_code 185) 81 = .ok (.aload_n 0, 1) := by decide +kernel
theorem dq_185_82 : decode (qx_code 185) 82 = .ok (.iload 4, 2) := by decide +kernel
theorem dq_185_84 : decode (qx_code 185) 84 = .ok (.invokevirtual 276, 3) := by decide +kernel
theorem dq_185_87 : decode (qx_code 185) 87 = .ok (.l2i, 1) := by decide +kernel
theorem dq_185_88 : decode (qx_code 185) 88 = .ok (.i2l, 1) := by decide +kernel
theorem dq_185_89 : decode (qx_code 185) 89 = .ok (.lreturn, 1) := by decide +kernel
theorem dq_185_90 : decode (qx_code 185) 90 = .ok (.aload_n 0, 1) := by decide +kernel
theorem dq_185_91 : decode (qx_code 185) 91 = .ok (.iload 4, 2) := by decide +kernel
theorem dq_185_93 : decode (qx_code 185) 93 = .ok (.invokevirtual 276, 3) := by decide +kernel
theorem dq_185_96 : decode (qx_code 185) 96 = .ok (.bipush 32, 2) := by decide +kernel
theorem dq_185_98 : decode (qx_code 185) 98 = .ok (.lshl, 1) := by decide +kernel
theorem dq_185_99 : decode (qx_code 185) 99 = .ok (.aload_n 0, 1) := by decide +kernel
theorem dq_185_100 : decode (qx_code 185) 100 = .ok (.iload 4, 2) := by decide +kernel
theorem dq_185_102 : decode (qx_code 185) 102 = .ok (.iconst 4, 1) := by decide +kernel
theorem dq_185_103 : decode (qx_code 185) 103 = .ok (.iadd, 1) := by decide +kernel
theorem dq_185_104 : decode (qx_code 185) 104 = .ok (.invokevirtual 276, 3) := by decide +kernel
theorem dq_185_107 : decode (qx_code 185) 107 = .ok (.ladd, 1) := by decide +kernel
theorem dq_185_108 : decode (qx_code 185) 108 = .ok (.lstore 6, 2) := by decide +kernel
theorem dq_185_110 : decode (qx_code 185) 110 = .ok (.lload 6, 2) := by decide +kernel
theorem dq_185_112 : decode (qx_code 185) 112 = .ok (.ldc2_w 274, 3) := by decide +kernel
theorem dq_185_115 : decode (qx_code 185) 115 = .ok (.lcmp, 1) := by decide +kernel
theorem dq_185_116 : decode (qx_code 185) 116 = .ok (.ifCond .ge 17, 3) := by decide +kernel
theorem dq_185_119 : decode (qx_code 185) 119 = .ok (.lload 6, 2) := by decide +kernel
theorem dq_185_121 : decode (qx_code 185) 121 = .ok (.ldc2_w 280, 3) := by decide +kernel
theorem dq_185_124 : decode (qx_code 185) 124 = .ok (.lcmp, 1) := by decide +kernel
theorem dq_185_125 : decode (qx_code 185) 125 = .ok (.ifCond .le 8, 3) := by decide +kernel
theorem dq_185_128 : decode (qx_code 185) 128 = .ok (.lload 6, 2) := by decide +kernel
theorem dq_185_130 : decode (qx_code 185) 130 = .ok (.goto 6, 3) := by decide +kernel
theorem dq_185_133 : decode (qx_code 185) 133 = .ok (.ldc2_w 274, 3) := by decide +kernel
theorem dq_185_136 : decode (qx_code 185) 136 = .ok (.lreturn, 1) := by decide +kernel
theorem fl_185_31 : qx_fld 185 31 = some (5, 6) := by decide +kernel
theorem fp_185_31 : qx_fld 185 31 = some (5, 6) ∧ qx_pok 185 31 = true := by decide +kernel
theorem mt_185_256 : qx_mth 185 256 = some (177, 2) := by decide +kernel
theorem fl_185_16 : qx_fld 185 16 = some (5, 3) := by decide +kernel
theorem mt_185_138 : qx_mth 185 138 = some (136, 1) := by decide +kernel
theorem mt_185_148 : qx_mth 185 148 = some (139, 1) := by decide +kernel
theorem mt_185_48 : qx_mth 185 48 = some (143, 1) := by decide +kernel
theorem mt_185_276 : qx_mth 185 276 = some (186, 1) := by decide +kernel
theorem dq_186_0 : decode (qx_code 186) 0 = .ok (.aload_n 0, 1) := by decide +kernel
theorem dq_186_1 : decode (qx_code 186) 1 = .ok (.iload_n 1, 1) := by decide +kernel
theorem dq_186_2 : decode (qx_code 186) 2 = .ok (.invokevirtual 42, 3) := by decide +kernel
theorem dq_186_5 : decode (qx_code 186) 5 = .ok (.i2l, 1) := by decide +kernel
theorem dq_186_6 : decode (qx_code 186) 6 = .ok (.ldc2_w 272, 3) := by decide +kernel
theorem dq_186_9 : decode (qx_code 186) 9 = .ok (.lmul, 1) := by decide +kernel
theorem dq_186_10 : decode (qx_code 186) 10 = .ok (.aload_n 0, 1) := by decide +kernel
theorem dq_186_11 : decode (qx_code 186) 11 = .ok (.iload_n 1, 1) := by decide +kernel
theorem dq_186_12 : decode (qx_code 186) 12 = .ok (.iconst 2, 1) := by decide +kernel
theorem dq_186_13 : decode (qx_code 186) 13 = .ok (.iadd, 1) := by decide +kernel
theorem dq_186_14 : decode (qx_code 186) 14 = .ok (.invokevirtual 42, 3) := by decide +kernel
theorem dq_186_17 : decode (qx_code 186) 17 = .ok (.i2l, 1) := by decide +kernel
theorem dq_186_18 : decode (qx_code 186) 18 = .ok (.ladd, 1) := by decide +kernel
theorem dq_186_19 : decode (qx_code 186) 19 = .ok (.lreturn, 1) := by decide +kernel
theorem mt_186_42 : qx_mth 186 42 = some (140, 1) := by decide +kernel
theorem dq_187_0 : decode (qx_code 187) 0 = .ok (.aload_n 0, 1) := by decide +kernel
theorem dq_187_1 : decode (qx_code 187) 1 = .ok (.iload_n 1, 1) := by decide +kernel
theorem dq_187_2 : decode (qx_code 187) 2 = .ok (.iload_n 2, 1) := by decide +kernel
theorem dq_187_3 : decode (qx_code 187) 3 = .ok (.invokevirtual 256, 3) := by decide +kernel
theorem dq_187_6 : decode (qx_code 187) 6 = .ok (.istore_n 3, 1) := by decide +kernel
theorem dq_187_7 : decode (qx_code 187) 7 = .ok (.iload_n 3, 1) := by decide +kernel
theorem dq_187_8 : decode (qx_code 187) 8 = .ok (.ifCond .ge 7, 3) := by decide +kernel
theorem dq_187_11 : decode (qx_code 187) 11 = .ok (.iconst (-1), 1) := by decide +kernel
theorem dq_187_12 : decode (qx_code 187) 12 = .ok (.goto 11, 3) := by decide +kernel
theorem dq_187_15 : decode (qx_code 187) 15 = .ok (.aload_n 0, 1) := by decide +kernel
theorem dq_187_16 : decode (qx_code 187) 16 = .ok (.getfield 16, 3) := by decide +kernel
theorem dq_187_19 : decode (qx_code 187) 19 = .ok (.iload_n 3, 1) := by decide +kernel
theorem dq_187_20 : decode (qx_code 187) 20 = .ok (.iconst 4, 1) := by decide +kernel
theorem dq_187_21 : decode (qx_code 187) 21 = .ok (.iadd, 1) := by decide +kernel
theorem dq_187_22 : decode (qx_code 187) 22 = .ok (.iaload, 1) := by decide +kernel
theorem dq_187_23 : decode (qx_code 187) 23 = .ok (.ireturn, 1) := by decide +kernel
theorem mt_187_256 : qx_mth 187 256 = some (177, 2) := by decide +kernel
theorem fl_187_16 : qx_fld 187 16 = some (5, 3) := by decide +kernel
