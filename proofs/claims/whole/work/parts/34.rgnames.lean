theorem dq_8_0 : decode (qx_code 8) 0 = .ok (.aload_n 0, 1) := by decide +kernel
theorem dq_8_1 : decode (qx_code 8) 1 = .ok (.invokespecial 3, 3) := by decide +kernel
theorem dq_8_4 : decode (qx_code 8) 4 = .ok (.aload_n 0, 1) := by decide +kernel
theorem dq_8_5 : decode (qx_code 8) 5 = .ok (.aload_n 1, 1) := by decide +kernel
theorem dq_8_6 : decode (qx_code 8) 6 = .ok (.putfield 9, 3) := by decide +kernel
theorem dq_8_9 : decode (qx_code 8) 9 = .ok (.aload_n 0, 1) := by decide +kernel
theorem dq_8_10 : decode (qx_code 8) 10 = .ok (.aload_n 1, 1) := by decide +kernel
theorem dq_8_11 : decode (qx_code 8) 11 = .ok (.getfield 15, 3) := by decide +kernel
theorem dq_8_14 : decode (qx_code 8) 14 = .ok (.putfield 21, 3) := by decide +kernel
theorem dq_8_17 : decode (qx_code 8) 17 = .ok (.aload_n 0, 1) := by decide +kernel
theorem dq_8_18 : decode (qx_code 8) 18 = .ok (.aload_n 1, 1) := by decide +kernel
theorem dq_8_19 : decode (qx_code 8) 19 = .ok (.getfield 22, 3) := by decide +kernel
theorem dq_8_22 : decode (qx_code 8) 22 = .ok (.putfield 26, 3) := by decide +kernel
theorem dq_8_25 : decode (qx_code 8) 25 = .ok (.return_, 1) := by decide +kernel
theorem fl_8_9 : qx_fld 8 9 = some (4, 0) := by decide +kernel
theorem fp_8_9 : qx_fld 8 9 = some (4, 0) ∧ qx_pok 8 9 = true := by decide +kernel
theorem fl_8_15 : qx_fld 8 15 = some (1, 0) := by decide +kernel
theorem fl_8_21 : qx_fld 8 21 = some (4, 1) := by decide +kernel
theorem fp_8_21 : qx_fld 8 21 = some (4, 1) ∧ qx_pok 8 21 = true := by decide +kernel
theorem fl_8_22 : qx_fld 8 22 = some (1, 1) := by decide +kernel
theorem fl_8_26 : qx_fld 8 26 = some (4, 2) := by decide +kernel
theorem fp_8_26 : qx_fld 8 26 = some (4, 2) ∧ qx_pok 8 26 = true := by decide +kernel
theorem dq_13_0 : decode (qx_code 13) 0 = .ok (.aload_n 0, 1) := by decide +kernel
theorem dq_13_1 : decode (qx_code 13) 1 = .ok (.getfield 26, 3) := by decide +kernel
theorem dq_13_4 : decode (qx_code 13) 4 = .ok (.aload_n 0, 1) := by decide +kernel
theorem dq_13_5 : decode (qx_code 13) 5 = .ok (.getfield 26, 3) := by decide +kernel
theorem dq_13_8 : decode (qx_code 13) 8 = .ok (.iconst 4, 1) := by decide +kernel
theorem dq_13_9 : decode (qx_code 13) 9 = .ok (.invokevirtual 27, 3) := by decide +kernel
theorem dq_13_12 : decode (qx_code 13) 12 = .ok (.ldc2_w 33, 3) := by decide +kernel
theorem dq_13_15 : decode (qx_code 13) 15 = .ok (.lcmp, 1) := by decide +kernel
theorem dq_13_16 : decode (qx_code 13) 16 = .ok (.ifCond .ne 7, 3) := by decide +kernel
theorem dq_13_19 : decode (qx_code 13) 19 = .ok (.iconst 1, 1) := by decide +kernel
theorem dq_13_20 : decode (qx_code 13) 20 = .ok (.goto 4, 3) := by decide +kernel
theorem dq_13_23 : decode (qx_code 13) 23 = .ok (.iconst 0, 1) := by decide +kernel
theorem dq_13_24 : decode (qx_code 13) 24 = .ok (.iconst 2, 1) := by decide +kernel
theorem dq_13_25 : decode (qx_code 13) 25 = .ok (.iconst 0, 1) := by decide +kernel
theorem dq_13_26 : decode (qx_code 13) 26 = .ok (.invokevirtual 35, 3) := by decide +kernel
theorem dq_13_29 : decode (qx_code 13) 29 = .ok (.aload_n 0, 1) := by decide +kernel
theorem dq_13_30 : decode (qx_code 13) 30 = .ok (.getfield 26, 3) := by decide +kernel
theorem dq_13_33 : decode (qx_code 13) 33 = .ok (.iconst 2, 1) := by decide +kernel
theorem dq_13_34 : decode (qx_code 13) 34 = .ok (.invokevirtual 27, 3) := by decide +kernel
theorem dq_13_37 : decode (qx_code 13) 37 = .ok (.pop2, 1) := by decide +kernel
theorem dq_13_38 : decode (qx_code 13) 38 = .ok (.aload_n 0, 1) := by decide +kernel
theorem dq_13_39 : decode (qx_code 13) 39 = .ok (.getfield 26, 3) := by decide +kernel
theorem dq_13_42 : decode (qx_code 13) 42 = .ok (.invokevirtual 39, 3) := by decide +kernel
theorem dq_13_45 : decode (qx_code 13) 45 = .ok (.istore_n 1, 1) := by decide +kernel
theorem dq_13_46 : decode (qx_code 13) 46 = .ok (.aload_n 0, 1) := by decide +kernel
theorem dq_13_47 : decode (qx_code 13) 47 = .ok (.getfield 26, 3) := by decide +kernel
theorem dq_13_50 : decode (qx_code 13) 50 = .ok (.iload_n 1, 1) := by decide +kernel
theorem dq_13_51 : decode (qx_code 13) 51 = .ok (.bipush 45, 2) := by decide +kernel
theorem dq_13_53 : decode (qx_code 13) 53 = .ok (.if_icmp .lt 13, 3) := by decide +kernel
theorem dq_13_56 : decode (qx_code 13) 56 = .ok (.iload_n 1, 1) := by decide +kernel
theorem dq_13_57 : decode (qx_code 13) 57 = .ok (.bipush 65, 2) := by decide +kernel
theorem dq_13_59 : decode (qx_code 13) 59 = .ok (.if_icmp .gt 7, 3) := by decide +kernel
theorem dq_13_62 : decode (qx_code 13) 62 = .ok (.iconst 1, 1) := by decide +kernel
theorem dq_13_63 : decode (qx_code 13) 63 = .ok (.goto 4, 3) := by decide +kernel
theorem dq_13_66 : decode (qx_code 13) 66 = .ok (.iconst 0, 1) := by decide +kernel
theorem dq_13_67 : decode (qx_code 13) 67 = .ok (.iconst 3, 1) := by decide +kernel
theorem dq_13_68 : decode (qx_code 13) 68 = .ok (.bipush 6, 2) := by decide +kernel
theorem dq_13_70 : decode (qx_code 13) 70 = .ok (.invokevirtual 35, 3) := by decide +kernel
theorem dq_13_73 : decode (qx_code 13) 73 = .ok (.return_, 1) := by decide +kernel
theorem fl_13_26 : qx_fld 13 26 = some (4, 2) := by decide +kernel
theorem mt_13_27 : qx_mth 13 27 = some (14, 1) := by decide +kernel
theorem mt_13_35 : qx_mth 13 35 = some (15, 3) := by decide +kernel
theorem mt_13_39 : qx_mth 13 39 = some (17, 0) := by decide +kernel
theorem dq_18_0 : decode (qx_code 18) 0 = .ok (.aload_n 0, 1) := by decide +kernel
theorem dq_18_1 : decode (qx_code 18) 1 = .ok (.getfield 26, 3) := by decide +kernel
theorem dq_18_4 : decode (qx_code 18) 4 = .ok (.invokevirtual 39, 3) := by decide +kernel
theorem dq_18_7 : decode (qx_code 18) 7 = .ok (.istore_n 1, 1) := by decide +kernel
theorem dq_18_8 : decode (qx_code 18) 8 = .ok (.aload_n 0, 1) := by decide +kernel
theorem dq_18_9 : decode (qx_code 18) 9 = .ok (.getfield 26, 3) := by decide +kernel
theorem dq_18_12 : decode (qx_code 18) 12 = .ok (.iload_n 1, 1) := by decide +kernel
theorem dq_18_13 : decode (qx_code 18) 13 = .ok (.iconst 1, 1) := by decide +kernel
theorem dq_18_14 : decode (qx_code 18) 14 = .ok (.if_icmp .lt 13, 3) := by decide +kernel
theorem dq_18_17 : decode (qx_code 18) 17 = .ok (.iload_n 1, 1) := by decide +kernel
theorem dq_18_18 : decode (qx_code 18) 18 = .ok (.bipush 64, 2) := by decide +kernel
theorem dq_18_20 : decode (qx_code 18) 20 = .ok (.if_icmp .gt 7, 3) := by decide +kernel
theorem dq_18_23 : decode (qx_code 18) 23 = .ok (.iconst 1, 1) := by decide +kernel
theorem dq_18_24 : decode (qx_code 18) 24 = .ok (.goto 4, 3) := by decide +kernel
theorem dq_18_27 : decode (qx_code 18) 27 = .ok (.iconst 0, 1) := by decide +kernel
theorem dq_18_28 : decode (qx_code 18) 28 = .ok (.iconst 4, 1) := by decide +kernel
theorem dq_18_29 : decode (qx_code 18) 29 = .ok (.bipush 8, 2) := by decide +kernel
theorem dq_18_31 : decode (qx_code 18) 31 = .ok (.invokevirtual 35, 3) := by decide +kernel
theorem dq_18_34 : decode (qx_code 18) 34 = .ok (.aload_n 0, 1) := by decide +kernel
theorem dq_18_35 : decode (qx_code 18) 35 = .ok (.getfield 21, 3) := by decide +kernel
theorem dq_18_38 : decode (qx_code 18) 38 = .ok (.iload_n 1, 1) := by decide +kernel
theorem dq_18_39 : decode (qx_code 18) 39 = .ok (.invokevirtual 45, 3) := by decide +kernel
theorem dq_18_42 : decode (qx_code 18) 42 = .ok (.aload_n 0, 1) := by decide +kernel
theorem dq_18_43 : decode (qx_code 18) 43 = .ok (.getfield 21, 3) := by decide +kernel
theorem dq_18_46 : decode (qx_code 18) 46 = .ok (.invokevirtual 49, 3) := by decide +kernel
theorem dq_18_49 : decode (qx_code 18) 49 = .ok (.return_, 1) := by decide +kernel
theorem fl_18_26 : qx_fld 18 26 = some (4, 2) := by decide +kernel
theorem mt_18_39 : qx_mth 18 39 = some (17, 0) := by decide +kernel
theorem mt_18_35 : qx_mth 18 35 = some (15, 3) := by decide +kernel
theorem fl_18_21 : qx_fld 18 21 = some (4, 1) := by decide +kernel
theorem mt_18_45 : qx_mth 18 45 = some (19, 1) := by decide +kernel
theorem mt_18_49 : qx_mth 18 49 = some (24, 0) := by decide +kernel
theorem dq_64_0 : decode (qx_code 64) 0 = .ok (.aload_n 0, 1) := by decide +kernel
theorem dq_64_1 : decode (qx_code 64) 1 = .ok (.getfield 9, 3) := by decide +kernel
theorem dq_64_4 : decode (qx_code 64) 4 = .ok (.aload_n 0, 1) := by decide +kernel
theorem dq_64_5 : decode (qx_code 64) 5 = .ok (.getfield 26, 3) := by decide +kernel
theorem dq_64_8 : decode (qx_code 64) 8 = .ok (.getfield 52, 3) := by decide +kernel
theorem dq_64_11 : decode (qx_code 64) 11 = .ok (.putfield 56, 3) := by decide +kernel
theorem dq_64_14 : decode (qx_code 64) 14 = .ok (.aload_n 0, 1) := by decide +kernel
theorem dq_64_15 : decode (qx_code 64) 15 = .ok (.getfield 26, 3) := by decide +kernel
theorem dq_64_18 : decode (qx_code 64) 18 = .ok (.aload_n 0, 1) := by decide +kernel
theorem dq_64_19 : decode (qx_code 64) 19 = .ok (.getfield 26, 3) := by decide +kernel
theorem dq_64_22 : decode (qx_code 64) 22 = .ok (.invokevirtual 39, 3) := by decide +kernel
theorem dq_64_25 : decode (qx_code 64) 25 = .ok (.invokestatic 59, 3) := by decide +kernel
theorem dq_64_28 : decode (qx_code 64) 28 = .ok (.bipush 6, 2) := by decide +kernel
theorem dq_64_30 : decode (qx_code 64) 30 = .ok (.aload_n 0, 1) := by decide +kernel
theorem dq_64_31 : decode (qx_code 64) 31 = .ok (.getfield 9, 3) := by decide +kernel
theorem dq_64_34 : decode (qx_code 64) 34 = .ok (.getfield 56, 3) := by decide +kernel
theorem dq_64_37 : decode (qx_code 64) 37 = .ok (.invokevirtual 35, 3) := by decide +kernel
theorem dq_64_40 : decode (qx_code 64) 40 = .ok (.aload_n 0, 1) := by decide +kernel
theorem dq_64_41 : decode (qx_code 64) 41 = .ok (.iconst 0, 1) := by decide +kernel
theorem dq_64_42 : decode (qx_code 64) 42 = .ok (.invokevirtual 65, 3) := by decide +kernel
theorem dq_64_45 : decode (qx_code 64) 45 = .ok (.aload_n 0, 1) := by decide +kernel
theorem dq_64_46 : decode (qx_code 64) 46 = .ok (.iconst 1, 1) := by decide +kernel
theorem dq_64_47 : decode (qx_code 64) 47 = .ok (.invokevirtual 65, 3) := by decide +kernel
theorem dq_64_50 : decode (qx_code 64) 50 = .ok (.aload_n 0, 1) := by decide +kernel
theorem dq_64_51 : decode (qx_code 64) 51 = .ok (.getfield 26, 3) := by decide +kernel
theorem dq_64_54 : decode (qx_code 64) 54 = .ok (.invokevirtual 39, 3) := by decide +kernel
theorem dq_64_57 : decode (qx_code 64) 57 = .ok (.istore_n 1, 1) := by decide +kernel
theorem dq_64_58 : decode (qx_code 64) 58 = .ok (.iconst 0, 1) := by decide +kernel
theorem dq_64_59 : decode (qx_code 64) 59 = .ok (.istore_n 2, 1) := by decide +kernel
theorem dq_64_60 : decode (qx_code 64) 60 = .ok (.iload_n 2, 1) := by decide +kernel
theorem dq_64_61 : decode (qx_code 64) 61 = .ok (.iload_n 1, 1) := by decide +kernel
theorem dq_64_62 : decode (qx_code 64) 62 = .ok (.if_icmp .ge 24, 3) := by decide +kernel
theorem dq_64_65 : decode (qx_code 64) 65 = .ok (.aload_n 0, 1) := by decide +kernel
theorem dq_64_66 : decode (qx_code 64) 66 = .ok (.getfield 26, 3) := by decide +kernel
theorem dq_64_69 : decode (qx_code 64) 69 = .ok (.invokevirtual 69, 3) := by decide +kernel
theorem dq_64_72 : decode (qx_code 64) 72 = .ok (.ifCond .eq 14, 3) := by decide +kernel
theorem dq_64_75 : decode (qx_code 64) 75 = .ok (.aload_n 0, 1) := by decide +kernel
theorem dq_64_76 : decode (qx_code 64) 76 = .ok (.iload_n 2, 1) := by decide +kernel
theorem dq_64_77 : decode (qx_code 64) 77 = .ok (.invokevirtual 73, 3) := by decide +kernel
theorem dq_64_80 : decode (qx_code 64) 80 = .ok (.iinc 2 1, 3) := by decide +kernel
theorem dq_64_83 : decode (qx_code 64) 83 = .ok (.goto (-23), 3) := by decide +kernel
theorem dq_64_86 : decode (qx_code 64) 86 = .ok (.return_, 1) := by decide +kernel
theorem fl_64_9 : qx_fld 64 9 = some (4, 0) := by decide +kernel
theorem fl_64_26 : qx_fld 64 26 = some (4, 2) := by decide +kernel
theorem fl_64_52 : qx_fld 64 52 = some (3, 2) := by decide +kernel
theorem fl_64_56 : qx_fld 64 56 = some (1, 2) := by decide +kernel
theorem fp_64_56 : qx_fld 64 56 = some (1, 2) ∧ qx_pok 64 56 = true := by decide +kernel
theorem mt_64_39 : qx_mth 64 39 = some (17, 0) := by decide +kernel
theorem mt_64_59 : qx_mth 64 59 = some (65, 1) := by decide +kernel
theorem mt_64_35 : qx_mth 64 35 = some (15, 3) := by decide +kernel
theorem mt_64_65 : qx_mth 64 65 = some (69, 1) := by decide +kernel
theorem mt_64_69 : qx_mth 64 69 = some (20, 0) := by decide +kernel
theorem mt_64_73 : qx_mth 64 73 = some (73, 1) := by decide +kernel
theorem dq_73_0 : decode (qx_code 73) 0 = .ok (.aload_n 0, 1) := by decide +kernel
theorem dq_73_1 : decode (qx_code 73) 1 = .ok (.getfield 26, 3) := by decide +kernel
theorem dq_73_4 : decode (qx_code 73) 4 = .ok (.getfield 52, 3) := by decide +kernel
theorem dq_73_7 : decode (qx_code 73) 7 = .ok (.istore_n 2, 1) := by decide +kernel
theorem dq_73_8 : decode (qx_code 73) 8 = .ok (.aload_n 0, 1) := by decide +kernel
theorem dq_73_9 : decode (qx_code 73) 9 = .ok (.iconst 0, 1) := by decide +kernel
theorem dq_73_10 : decode (qx_code 73) 10 = .ok (.invokevirtual 65, 3) := by decide +kernel
theorem dq_73_13 : decode (qx_code 73) 13 = .ok (.aload_n 0, 1) := by decide +kernel
theorem dq_73_14 : decode (qx_code 73) 14 = .ok (.getfield 9, 3) := by decide +kernel
theorem dq_73_17 : decode (qx_code 73) 17 = .ok (.iload_n 1, 1) := by decide +kernel
theorem dq_73_18 : decode (qx_code 73) 18 = .ok (.invokevirtual 76, 3) := by decide +kernel
theorem dq_73_21 : decode (qx_code 73) 21 = .ok (.istore_n 3, 1) := by decide +kernel
theorem dq_73_22 : decode (qx_code 73) 22 = .ok (.iconst 0, 1) := by decide +kernel
theorem dq_73_23 : decode (qx_code 73) 23 = .ok (.istore 4, 2) := by decide +kernel
theorem dq_73_25 : decode (qx_code 73) 25 = .ok (.iload 4, 2) := by decide +kernel
theorem dq_73_27 : decode (qx_code 73) 27 = .ok (.iload_n 1, 1) := by decide +kernel
theorem dq_73_28 : decode (qx_code 73) 28 = .ok (.if_icmp .ge 54, 3) := by decide +kernel
theorem dq_73_31 : decode (qx_code 73) 31 = .ok (.aload_n 0, 1) := by decide +kernel
theorem dq_73_32 : decode (qx_code 73) 32 = .ok (.getfield 26, 3) := by decide +kernel
theorem dq_73_35 : decode (qx_code 73) 35 = .ok (.invokevirtual 69, 3) := by decide +kernel
theorem dq_73_38 : decode (qx_code 73) 38 = .ok (.ifCond .eq 44, 3) := by decide +kernel
theorem dq_73_41 : decode (qx_code 73) 41 = .ok (.aload_n 0, 1) := by decide +kernel
theorem dq_73_42 : decode (qx_code 73) 42 = .ok (.getfield 26, 3) := by decide +kernel
theorem dq_73_45 : decode (qx_code 73) 45 = .ok (.aload_n 0, 1) := by decide +kernel
theorem dq_73_46 : decode (qx_code 73) 46 = .ok (.getfield 21, 3) := by decide +kernel
theorem dq_73_49 : decode (qx_code 73) 49 = .ok (.aload_n 0, 1) := by decide +kernel
theorem dq_73_50 : decode (qx_code 73) 50 = .ok (.getfield 9, 3) := by decide +kernel
theorem dq_73_53 : decode (qx_code 73) 53 = .ok (.iload 4, 2) := by decide +kernel
theorem dq_73_55 : decode (qx_code 73) 55 = .ok (.invokevirtual 76, 3) := by decide +kernel
theorem dq_73_58 : decode (qx_code 73) 58 = .ok (.iload_n 3, 1) := by decide +kernel
theorem dq_73_59 : decode (qx_code 73) 59 = .ok (.invokevirtual 80, 3) := by decide +kernel
theorem dq_73_62 : decode (qx_code 73) 62 = .ok (.ifCond .ne 7, 3) := by decide +kernel
theorem dq_73_65 : decode (qx_code 73) 65 = .ok (.iconst 1, 1) := by decide +kernel
theorem dq_73_66 : decode (qx_code 73) 66 = .ok (.goto 4, 3) := by decide +kernel
theorem dq_73_69 : decode (qx_code 73) 69 = .ok (.iconst 0, 1) := by decide +kernel
theorem dq_73_70 : decode (qx_code 73) 70 = .ok (.bipush 9, 2) := by decide +kernel
theorem dq_73_72 : decode (qx_code 73) 72 = .ok (.iload_n 2, 1) := by decide +kernel
theorem dq_73_73 : decode (qx_code 73) 73 = .ok (.invokevirtual 35, 3) := by decide +kernel
theorem dq_73_76 : decode (qx_code 73) 76 = .ok (.iinc 4 1, 3) := by decide +kernel
theorem dq_73_79 : decode (qx_code 73) 79 = .ok (.goto (-54), 3) := by decide +kernel
theorem dq_73_82 : decode (qx_code 73) 82 = .ok (.return_, 1) := by decide +kernel
theorem fl_73_26 : qx_fld 73 26 = some (4, 2) := by decide +kernel
theorem fl_73_52 : qx_fld 73 52 = some (3, 2) := by decide +kernel
theorem mt_73_65 : qx_mth 73 65 = some (69, 1) := by decide +kernel
theorem fl_73_9 : qx_fld 73 9 = some (4, 0) := by decide +kernel
theorem mt_73_76 : qx_mth 73 76 = some (74, 1) := by decide +kernel
theorem mt_73_69 : qx_mth 73 69 = some (20, 0) := by decide +kernel
theorem fl_73_21 : qx_fld 73 21 = some (4, 1) := by decide +kernel
theorem mt_73_80 : qx_mth 73 80 = some (76, 2) := by decide +kernel
theorem mt_73_35 : qx_mth 73 35 = some (15, 3) := by decide +kernel
theorem dq_69_0 : decode (qx_code 69) 0 = .ok (.aload_n 0, 1) := by decide +kernel
theorem dq_69_1 : decode (qx_code 69) 1 = .ok (.getfield 26, 3) := by decide +kernel
theorem dq_69_4 : decode (qx_code 69) 4 = .ok (.getfield 52, 3) := by decide +kernel
theorem dq_69_7 : decode (qx_code 69) 7 = .ok (.istore_n 2, 1) := by decide +kernel
theorem dq_69_8 : decode (qx_code 69) 8 = .ok (.aload_n 0, 1) := by decide +kernel
theorem dq_69_9 : decode (qx_code 69) 9 = .ok (.bipush 7, 2) := by decide +kernel
theorem dq_69_11 : decode (qx_code 69) 11 = .ok (.iload_n 1, 1) := by decide +kernel
theorem dq_69_12 : decode (qx_code 69) 12 = .ok (.invokevirtual 84, 3) := by decide +kernel
theorem dq_69_15 : decode (qx_code 69) 15 = .ok (.istore_n 3, 1) := by decide +kernel
theorem dq_69_16 : decode (qx_code 69) 16 = .ok (.aload_n 0, 1) := by decide +kernel
theorem dq_69_17 : decode (qx_code 69) 17 = .ok (.getfield 26, 3) := by decide +kernel
theorem dq_69_20 : decode (qx_code 69) 20 = .ok (.iload_n 1, 1) := by decide +kernel
theorem dq_69_21 : decode (qx_code 69) 21 = .ok (.ifCond .eq 7, 3) := by decide +kernel
theorem dq_69_24 : decode (qx_code 69) 24 = .ok (.iload_n 3, 1) := by decide +kernel
theorem dq_69_25 : decode (qx_code 69) 25 = .ok (.ifCond .eq 14, 3) := by decide +kernel
theorem dq_69_28 : decode (qx_code 69) 28 = .ok (.aload_n 0, 1) := by decide +kernel
theorem dq_69_29 : decode (qx_code 69) 29 = .ok (.getfield 21, 3) := by decide +kernel
theorem dq_69_32 : decode (qx_code 69) 32 = .ok (.iload_n 3, 1) := by decide +kernel
theorem dq_69_33 : decode (qx_code 69) 33 = .ok (.invokevirtual 88, 3) := by decide +kernel
theorem dq_69_36 : decode (qx_code 69) 36 = .ok (.ifCond .eq 7, 3) := by decide +kernel
theorem dq_69_39 : decode (qx_code 69) 39 = .ok (.iconst 1, 1) := by decide +kernel
theorem dq_69_40 : decode (qx_code 69) 40 = .ok (.goto 4, 3) := by decide +kernel
theorem dq_69_43 : decode (qx_code 69) 43 = .ok (.iconst 0, 1) := by decide +kernel
theorem dq_69_44 : decode (qx_code 69) 44 = .ok (.bipush 7, 2) := by decide +kernel
theorem dq_69_46 : decode (qx_code 69) 46 = .ok (.iload_n 2, 1) := by decide +kernel
theorem dq_69_47 : decode (qx_code 69) 47 = .ok (.invokevirtual 35, 3) := by decide +kernel
theorem dq_69_50 : decode (qx_code 69) 50 = .ok (.return_, 1) := by decide +kernel
theorem fl_69_26 : qx_fld 69 26 = some (4, 2) := by decide +kernel
theorem fl_69_52 : qx_fld 69 52 = some (3, 2) := by decide +kernel
theorem mt_69_84 : qx_mth 69 84 = some (70, 2) := by decide +kernel
theorem fl_69_21 : qx_fld 69 21 = some (4, 1) := by decide +kernel
theorem mt_69_88 : qx_mth 69 88 = some (71, 1) := by decide +kernel
theorem mt_69_35 : qx_mth 69 35 = some (15, 3) := by decide +kernel
theorem dq_70_0 : decode (qx_code 70) 0 = .ok (.aload_n 0, 1) := by decide +kernel
theorem dq_70_1 : decode (qx_code 70) 1 = .ok (.getfield 26, 3) := by decide +kernel
theorem dq_70_4 : decode (qx_code 70) 4 = .ok (.getfield 52, 3) := by decide +kernel
theorem dq_70_7 : decode (qx_code 70) 7 = .ok (.istore_n 3, 1) := by decide +kernel
theorem dq_70_8 : decode (qx_code 70) 8 = .ok (.aload_n 0, 1) := by decide +kernel
theorem dq_70_9 : decode (qx_code 70) 9 = .ok (.getfield 26, 3) := by decide +kernel
theorem dq_70_12 : decode (qx_code 70) 12 = .ok (.iconst 2, 1) := by decide +kernel
theorem dq_70_13 : decode (qx_code 70) 13 = .ok (.invokevirtual 27, 3) := by decide +kernel
theorem dq_70_16 : decode (qx_code 70) 16 = .ok (.l2i, 1) := by decide +kernel
theorem dq_70_17 : decode (qx_code 70) 17 = .ok (.istore 4, 2) := by decide +kernel
theorem dq_70_19 : decode (qx_code 70) 19 = .ok (.aload_n 0, 1) := by decide +kernel
theorem dq_70_20 : decode (qx_code 70) 20 = .ok (.getfield 26, 3) := by decide +kernel
theorem dq_70_23 : decode (qx_code 70) 23 = .ok (.iload_n 2, 1) := by decide +kernel
theorem dq_70_24 : decode (qx_code 70) 24 = .ok (.ifCond .eq 8, 3) := by decide +kernel
theorem dq_70_27 : decode (qx_code 70) 27 = .ok (.iload 4, 2) := by decide +kernel
theorem dq_70_29 : decode (qx_code 70) 29 = .ok (.ifCond .eq 16, 3) := by decide +kernel
theorem dq_70_32 : decode (qx_code 70) 32 = .ok (.aload_n 0, 1) := by decide +kernel
theorem dq_70_33 : decode (qx_code 70) 33 = .ok (.getfield 21, 3) := by decide +kernel
theorem dq_70_36 : decode (qx_code 70) 36 = .ok (.iload 4, 2) := by decide +kernel
theorem dq_70_38 : decode (qx_code 70) 38 = .ok (.iload_n 1, 1) := by decide +kernel
theorem dq_70_39 : decode (qx_code 70) 39 = .ok (.invokevirtual 91, 3) := by decide +kernel
theorem dq_70_42 : decode (qx_code 70) 42 = .ok (.ifCond .eq 7, 3) := by decide +kernel
theorem dq_70_45 : decode (qx_code 70) 45 = .ok (.iconst 1, 1) := by decide +kernel
theorem dq_70_46 : decode (qx_code 70) 46 = .ok (.goto 4, 3) := by decide +kernel
theorem dq_70_49 : decode (qx_code 70) 49 = .ok (.iconst 0, 1) := by decide +kernel
theorem dq_70_50 : decode (qx_code 70) 50 = .ok (.iconst 5, 1) := by decide +kernel
theorem dq_70_51 : decode (qx_code 70) 51 = .ok (.iload_n 3, 1) := by decide +kernel
theorem dq_70_52 : decode (qx_code 70) 52 = .ok (.invokevirtual 35, 3) := by decide +kernel
theorem dq_70_55 : decode (qx_code 70) 55 = .ok (.iload 4, 2) := by decide +kernel
theorem dq_70_57 : decode (qx_code 70) 57 = .ok (.ireturn, 1) := by decide +kernel
theorem fl_70_26 : qx_fld 70 26 = some (4, 2) := by decide +kernel
theorem fl_70_52 : qx_fld 70 52 = some (3, 2) := by decide +kernel
theorem mt_70_27 : qx_mth 70 27 = some (14, 1) := by decide +kernel
theorem fl_70_21 : qx_fld 70 21 = some (4, 1) := by decide +kernel
theorem mt_70_91 : qx_mth 70 91 = some (55, 2) := by decide +kernel
theorem mt_70_35 : qx_mth 70 35 = some (15, 3) := by decide +kernel
theorem dq_77_0 : decode (qx_code 77) 0 = .ok (.aload_n 0, 1) := by decide +kernel
theorem dq_77_1 : decode (qx_code 77) 1 = .ok (.getfield 26, 3) := by decide +kernel
theorem dq_77_4 : decode (qx_code 77) 4 = .ok (.getfield 52, 3) := by decide +kernel
theorem dq_77_7 : decode (qx_code 77) 7 = .ok (.istore_n 2, 1) := by decide +kernel
theorem dq_77_8 : decode (qx_code 77) 8 = .ok (.aload_n 0, 1) := by decide +kernel
theorem dq_77_9 : decode (qx_code 77) 9 = .ok (.getfield 26, 3) := by decide +kernel
theorem dq_77_12 : decode (qx_code 77) 12 = .ok (.invokevirtual 39, 3) := by decide +kernel
theorem dq_77_15 : decode (qx_code 77) 15 = .ok (.istore_n 3, 1) := by decide +kernel
theorem dq_77_16 : decode (qx_code 77) 16 = .ok (.aload_n 0, 1) := by decide +kernel
theorem dq_77_17 : decode (qx_code 77) 17 = .ok (.getfield 26, 3) := by decide +kernel
theorem dq_77_20 : decode (qx_code 77) 20 = .ok (.iload_n 3, 1) := by decide +kernel
theorem dq_77_21 : decode (qx_code 77) 21 = .ok (.bipush 16, 2) := by decide +kernel
theorem dq_77_23 : decode (qx_code 77) 23 = .ok (.if_icmp .gt 7, 3) := by decide +kernel
theorem dq_77_26 : decode (qx_code 77) 26 = .ok (.iconst 1, 1) := by decide +kernel
theorem dq_77_27 : decode (qx_code 77) 27 = .ok (.goto 4, 3) := by decide +kernel
theorem dq_77_30 : decode (qx_code 77) 30 = .ok (.iconst 0, 1) := by decide +kernel
theorem dq_77_31 : decode (qx_code 77) 31 = .ok (.bipush 12, 2) := by decide +kernel
theorem dq_77_33 : decode (qx_code 77) 33 = .ok (.iload_n 2, 1) := by decide +kernel
theorem dq_77_34 : decode (qx_code 77) 34 = .ok (.invokevirtual 35, 3) := by decide +kernel
theorem dq_77_37 : decode (qx_code 77) 37 = .ok (.iconst 0, 1) := by decide +kernel
theorem dq_77_38 : decode (qx_code 77) 38 = .ok (.istore 4, 2) := by decide +kernel
theorem dq_77_40 : decode (qx_code 77) 40 = .ok (.iload 4, 2) := by decide +kernel
theorem dq_77_42 : decode (qx_code 77) 42 = .ok (.iload_n 3, 1) := by decide +kernel
theorem dq_77_43 : decode (qx_code 77) 43 = .ok (.if_icmp .ge 33, 3) := by decide +kernel
theorem dq_77_46 : decode (qx_code 77) 46 = .ok (.aload_n 0, 1) := by decide +kernel
theorem dq_77_47 : decode (qx_code 77) 47 = .ok (.getfield 26, 3) := by decide +kernel
theorem dq_77_50 : decode (qx_code 77) 50 = .ok (.invokevirtual 69, 3) := by decide +kernel
theorem dq_77_53 : decode (qx_code 77) 53 = .ok (.ifCond .eq 23, 3) := by decide +kernel
theorem dq_77_56 : decode (qx_code 77) 56 = .ok (.aload_n 0, 1) := by decide +kernel
theorem dq_77_57 : decode (qx_code 77) 57 = .ok (.iload_n 1, 1) := by decide +kernel
theorem dq_77_58 : decode (qx_code 77) 58 = .ok (.iload 4, 2) := by decide +kernel
theorem dq_77_60 : decode (qx_code 77) 60 = .ok (.invokevirtual 94, 3) := by decide +kernel
theorem dq_77_63 : decode (qx_code 77) 63 = .ok (.aload_n 0, 1) := by decide +kernel
theorem dq_77_64 : decode (qx_code 77) 64 = .ok (.iload_n 1, 1) := by decide +kernel
theorem dq_77_65 : decode (qx_code 77) 65 = .ok (.iload 4, 2) := by decide +kernel
theorem dq_77_67 : decode (qx_code 77) 67 = .ok (.invokevirtual 98, 3) := by decide +kernel
theorem dq_77_70 : decode (qx_code 77) 70 = .ok (.iinc 4 1, 3) := by decide +kernel
theorem dq_77_73 : decode (qx_code 77) 73 = .ok (.goto (-33), 3) := by decide +kernel
theorem dq_77_76 : decode (qx_code 77) 76 = .ok (.return_, 1) := by decide +kernel
theorem fl_77_26 : qx_fld 77 26 = some (4, 2) := by decide +kernel
theorem fl_77_52 : qx_fld 77 52 = some (3, 2) := by decide +kernel
theorem mt_77_39 : qx_mth 77 39 = some (17, 0) := by decide +kernel
theorem mt_77_35 : qx_mth 77 35 = some (15, 3) := by decide +kernel
theorem mt_77_69 : qx_mth 77 69 = some (20, 0) := by decide +kernel
theorem mt_77_94 : qx_mth 77 94 = some (78, 2) := by decide +kernel
theorem mt_77_98 : qx_mth 77 98 = some (90, 2) := by decide +kernel
theorem dq_78_0 : decode (qx_code 78) 0 = .ok (.aload_n 0, 1) := by decide +kernel
theorem dq_78_1 : decode (qx_code 78) 1 = .ok (.getfield 26, 3) := by decide +kernel
theorem dq_78_4 : decode (qx_code 78) 4 = .ok (.getfield 52, 3) := by decide +kernel
theorem dq_78_7 : decode (qx_code 78) 7 = .ok (.istore_n 3, 1) := by decide +kernel
theorem dq_78_8 : decode (qx_code 78) 8 = .ok (.aload_n 0, 1) := by decide +kernel
theorem dq_78_9 : decode (qx_code 78) 9 = .ok (.getfield 26, 3) := by decide +kernel
theorem dq_78_12 : decode (qx_code 78) 12 = .ok (.invokevirtual 39, 3) := by decide +kernel
theorem dq_78_15 : decode (qx_code 78) 15 = .ok (.istore 4, 2) := by decide +kernel
theorem dq_78_17 : decode (qx_code 78) 17 = .ok (.aload_n 0, 1) := by decide +kernel
theorem dq_78_18 : decode (qx_code 78) 18 = .ok (.iload_n 1, 1) := by decide +kernel
theorem dq_78_19 : decode (qx_code 78) 19 = .ok (.iload_n 2, 1) := by decide +kernel
theorem dq_78_20 : decode (qx_code 78) 20 = .ok (.invokevirtual 101, 3) := by decide +kernel
theorem dq_78_23 : decode (qx_code 78) 23 = .ok (.aload_n 0, 1) := by decide +kernel
theorem dq_78_24 : decode (qx_code 78) 24 = .ok (.getfield 26, 3) := by decide +kernel
theorem dq_78_27 : decode (qx_code 78) 27 = .ok (.aload_n 0, 1) := by decide +kernel
theorem dq_78_28 : decode (qx_code 78) 28 = .ok (.iload_n 1, 1) := by decide +kernel
theorem dq_78_29 : decode (qx_code 78) 29 = .ok (.iload_n 2, 1) := by decide +kernel
theorem dq_78_30 : decode (qx_code 78) 30 = .ok (.iload 4, 2) := by decide +kernel
theorem dq_78_32 : decode (qx_code 78) 32 = .ok (.invokevirtual 104, 3) := by decide +kernel
theorem dq_78_35 : decode (qx_code 78) 35 = .ok (.bipush 6, 2) := by decide +kernel
theorem dq_78_37 : decode (qx_code 78) 37 = .ok (.iload_n 3, 1) := by decide +kernel
theorem dq_78_38 : decode (qx_code 78) 38 = .ok (.invokevirtual 35, 3) := by decide +kernel
theorem dq_78_41 : decode (qx_code 78) 41 = .ok (.iconst 0, 1) := by decide +kernel
theorem dq_78_42 : decode (qx_code 78) 42 = .ok (.istore 5, 2) := by decide +kernel
theorem dq_78_44 : decode (qx_code 78) 44 = .ok (.iload 5, 2) := by decide +kernel
theorem dq_78_46 : decode (qx_code 78) 46 = .ok (.iload_n 2, 1) := by decide +kernel
theorem dq_78_47 : decode (qx_code 78) 47 = .ok (.if_icmp .ge 104, 3) := by decide +kernel
theorem dq_78_50 : decode (qx_code 78) 50 = .ok (.aload_n 0, 1) := by decide +kernel
theorem dq_78_51 : decode (qx_code 78) 51 = .ok (.getfield 26, 3) := by decide +kernel
theorem dq_78_54 : decode (qx_code 78) 54 = .ok (.invokevirtual 69, 3) := by decide +kernel
theorem dq_78_57 : decode (qx_code 78) 57 = .ok (.ifCond .eq 94, 3) := by decide +kernel
theorem dq_78_60 : decode (qx_code 78) 60 = .ok (.aload_n 0, 1) := by decide +kernel
theorem dq_78_61 : decode (qx_code 78) 61 = .ok (.getfield 21, 3) := by decide +kernel
theorem dq_78_64 : decode (qx_code 78) 64 = .ok (.aload_n 0, 1) := by decide +kernel
theorem dq_78_65 : decode (qx_code 78) 65 = .ok (.getfield 9, 3) := by decide +kernel
theorem dq_78_68 : decode (qx_code 78) 68 = .ok (.iload_n 1, 1) := by decide +kernel
theorem dq_78_69 : decode (qx_code 78) 69 = .ok (.iload 5, 2) := by decide +kernel
theorem dq_78_71 : decode (qx_code 78) 71 = .ok (.invokevirtual 108, 3) := by decide +kernel
theorem dq_78_74 : decode (qx_code 78) 74 = .ok (.aload_n 0, 1) := by decide +kernel
theorem dq_78_75 : decode (qx_code 78) 75 = .ok (.getfield 9, 3) := by decide +kernel
theorem dq_78_78 : decode (qx_code 78) 78 = .ok (.iload_n 1, 1) := by decide +kernel
theorem dq_78_79 : decode (qx_code 78) 79 = .ok (.iload_n 2, 1) := by decide +kernel
theorem dq_78_80 : decode (qx_code 78) 80 = .ok (.invokevirtual 108, 3) := by decide +kernel
theorem dq_78_83 : decode (qx_code 78) 83 = .ok (.invokevirtual 80, 3) := by decide +kernel
theorem dq_78_86 : decode (qx_code 78) 86 = .ok (.ifCond .eq 36, 3) := by decide +kernel
theorem dq_78_89 : decode (qx_code 78) 89 = .ok (.aload_n 0, 1) := by decide +kernel
theorem dq_78_90 : decode (qx_code 78) 90 = .ok (.getfield 21, 3) := by decide +kernel
theorem dq_78_93 : decode (qx_code 78) 93 = .ok (.aload_n 0, 1) := by decide +kernel
theorem dq_78_94 : decode (qx_code 78) 94 = .ok (.getfield 9, 3) := by decide +kernel
theorem dq_78_97 : decode (qx_code 78) 97 = .ok (.iload_n 1, 1) := by decide +kernel
theorem dq_78_98 : decode (qx_code 78) 98 = .ok (.iload 5, 2) := by decide +kernel
theorem dq_78_100 : decode (qx_code 78) 100 = .ok (.invokevirtual 112, 3) := by decide +kernel
theorem dq_78_103 : decode (qx_code 78) 103 = .ok (.aload_n 0, 1) := by decide +kernel
theorem dq_78_104 : decode (qx_code 78) 104 = .ok (.getfield 9, 3) := by decide +kernel
theorem dq_78_107 : decode (qx_code 78) 107 = .ok (.iload_n 1, 1) := by decide +kernel
theorem dq_78_108 : decode (qx_code 78) 108 = .ok (.iload_n 2, 1) := by decide +kernel
theorem dq_78_109 : decode (qx_code 78) 109 = .ok (.invokevirtual 112, 3) := by decide +kernel
theorem dq_78_112 : decode (qx_code 78) 112 = .ok (.invokevirtual 80, 3) := by decide +kernel
theorem dq_78_115 : decode (qx_code 78) 115 = .ok (.ifCond .eq 7, 3) := by decide +kernel
theorem dq_78_118 : decode (qx_code 78) 118 = .ok (.iconst 1, 1) := by decide +kernel
theorem dq_78_119 : decode (qx_code 78) 119 = .ok (.goto 4, 3) := by decide +kernel
theorem dq_78_122 : decode (qx_code 78) 122 = .ok (.iconst 0, 1) := by decide +kernel
theorem dq_78_123 : decode (qx_code 78) 123 = .ok (.istore 6, 2) := by decide +kernel
theorem dq_78_125 : decode (qx_code 78) 125 = .ok (.aload_n 0, 1) := by decide +kernel
theorem dq_78_126 : decode (qx_code 78) 126 = .ok (.getfield 26, 3) := by decide +kernel
theorem dq_78_129 : decode (qx_code 78) 129 = .ok (.iload 6, 2) := by decide +kernel
theorem dq_78_131 : decode (qx_code 78) 131 = .ok (.ifCond .ne 7, 3) := by decide +kernel
theorem dq_78_134 : decode (qx_code 78) 134 = .ok (.iconst 1, 1) := by decide +kernel
theorem dq_78_135 : decode (qx_code 78) 135 = .ok (.goto 4, 3) := by decide +kernel
theorem dq_78_138 : decode (qx_code 78) 138 = .ok (.iconst 0, 1) := by decide +kernel
theorem dq_78_139 : decode (qx_code 78) 139 = .ok (.bipush 9, 2) := by decide +kernel
theorem dq_78_141 : decode (qx_code 78) 141 = .ok (.iload_n 3, 1) := by decide +kernel
theorem dq_78_142 : decode (qx_code 78) 142 = .ok (.invokevirtual 35, 3) := by decide +kernel
theorem dq_78_145 : decode (qx_code 78) 145 = .ok (.iinc 5 1, 3) := by decide +kernel
theorem dq_78_148 : decode (qx_code 78) 148 = .ok (.goto (-104), 3) := by decide +kernel
theorem dq_78_151 : decode (qx_code 78) 151 = .ok (.return_, 1) := by decide +kernel
theorem fl_78_26 : qx_fld 78 26 = some (4, 2) := by decide +kernel
theorem fl_78_52 : qx_fld 78 52 = some (3, 2) := by decide +kernel
theorem mt_78_39 : qx_mth 78 39 = some (17, 0) := by decide +kernel
theorem mt_78_101 : qx_mth 78 101 = some (79, 2) := by decide +kernel
theorem mt_78_104 : qx_mth 78 104 = some (81, 3) := by decide +kernel
theorem mt_78_35 : qx_mth 78 35 = some (15, 3) := by decide +kernel
theorem mt_78_69 : qx_mth 78 69 = some (20, 0) := by decide +kernel
theorem fl_78_21 : qx_fld 78 21 = some (4, 1) := by decide +kernel
theorem fl_78_9 : qx_fld 78 9 = some (4, 0) := by decide +kernel
theorem mt_78_108 : qx_mth 78 108 = some (86, 2) := by decide +kernel
theorem mt_78_80 : qx_mth 78 80 = some (76, 2) := by decide +kernel
theorem mt_78_112 : qx_mth 78 112 = some (89, 2) := by decide +kernel
theorem dq_79_0 : decode (qx_code 79) 0 = .ok (.aload_n 0, 1) := by decide +kernel
theorem dq_79_1 : decode (qx_code 79) 1 = .ok (.getfield 26, 3) := by decide +kernel
theorem dq_79_4 : decode (qx_code 79) 4 = .ok (.getfield 52, 3) := by decide +kernel
theorem dq_79_7 : decode (qx_code 79) 7 = .ok (.istore_n 3, 1) := by decide +kernel
theorem dq_79_8 : decode (qx_code 79) 8 = .ok (.aload_n 0, 1) := by decide +kernel
theorem dq_79_9 : decode (qx_code 79) 9 = .ok (.getfield 26, 3) := by decide +kernel
theorem dq_79_12 : decode (qx_code 79) 12 = .ok (.invokevirtual 39, 3) := by decide +kernel
theorem dq_79_15 : decode (qx_code 79) 15 = .ok (.istore 4, 2) := by decide +kernel
theorem dq_79_17 : decode (qx_code 79) 17 = .ok (.aload_n 0, 1) := by decide +kernel
theorem dq_79_18 : decode (qx_code 79) 18 = .ok (.getfield 26, 3) := by decide +kernel
theorem dq_79_21 : decode (qx_code 79) 21 = .ok (.invokevirtual 39, 3) := by decide +kernel
theorem dq_79_24 : decode (qx_code 79) 24 = .ok (.istore 5, 2) := by decide +kernel
theorem dq_79_26 : decode (qx_code 79) 26 = .ok (.aload_n 0, 1) := by decide +kernel
theorem dq_79_27 : decode (qx_code 79) 27 = .ok (.getfield 9, 3) := by decide +kernel
theorem dq_79_30 : decode (qx_code 79) 30 = .ok (.iload_n 1, 1) := by decide +kernel
theorem dq_79_31 : decode (qx_code 79) 31 = .ok (.iload_n 2, 1) := by decide +kernel
theorem dq_79_32 : decode (qx_code 79) 32 = .ok (.iload_n 3, 1) := by decide +kernel
theorem dq_79_33 : decode (qx_code 79) 33 = .ok (.invokevirtual 115, 3) := by decide +kernel
theorem dq_79_36 : decode (qx_code 79) 36 = .ok (.aload_n 0, 1) := by decide +kernel
theorem dq_79_37 : decode (qx_code 79) 37 = .ok (.getfield 26, 3) := by decide +kernel
theorem dq_79_40 : decode (qx_code 79) 40 = .ok (.aload_n 0, 1) := by decide +kernel
theorem dq_79_41 : decode (qx_code 79) 41 = .ok (.getfield 21, 3) := by decide +kernel
theorem dq_79_44 : decode (qx_code 79) 44 = .ok (.iload 4, 2) := by decide +kernel
theorem dq_79_46 : decode (qx_code 79) 46 = .ok (.iconst 1, 1) := by decide +kernel
theorem dq_79_47 : decode (qx_code 79) 47 = .ok (.invokevirtual 91, 3) := by decide +kernel
theorem dq_79_50 : decode (qx_code 79) 50 = .ok (.iconst 5, 1) := by decide +kernel
theorem dq_79_51 : decode (qx_code 79) 51 = .ok (.iload_n 3, 1) := by decide +kernel
theorem dq_79_52 : decode (qx_code 79) 52 = .ok (.invokevirtual 35, 3) := by decide +kernel
theorem dq_79_55 : decode (qx_code 79) 55 = .ok (.aload_n 0, 1) := by decide +kernel
theorem dq_79_56 : decode (qx_code 79) 56 = .ok (.getfield 26, 3) := by decide +kernel
theorem dq_79_59 : decode (qx_code 79) 59 = .ok (.aload_n 0, 1) := by decide +kernel
theorem dq_79_60 : decode (qx_code 79) 60 = .ok (.getfield 21, 3) := by decide +kernel
theorem dq_79_63 : decode (qx_code 79) 63 = .ok (.iload 5, 2) := by decide +kernel
theorem dq_79_65 : decode (qx_code 79) 65 = .ok (.iconst 1, 1) := by decide +kernel
theorem dq_79_66 : decode (qx_code 79) 66 = .ok (.invokevirtual 91, 3) := by decide +kernel
theorem dq_79_69 : decode (qx_code 79) 69 = .ok (.iconst 5, 1) := by decide +kernel
theorem dq_79_70 : decode (qx_code 79) 70 = .ok (.iload_n 3, 1) := by decide +kernel
theorem dq_79_71 : decode (qx_code 79) 71 = .ok (.iconst 2, 1) := by decide +kernel
theorem dq_79_72 : decode (qx_code 79) 72 = .ok (.iadd, 1) := by decide +kernel
theorem dq_79_73 : decode (qx_code 79) 73 = .ok (.invokevirtual 35, 3) := by decide +kernel
theorem dq_79_76 : decode (qx_code 79) 76 = .ok (.iload_n 1, 1) := by decide +kernel
theorem dq_79_77 : decode (qx_code 79) 77 = .ok (.iconst 1, 1) := by decide +kernel
theorem dq_79_78 : decode (qx_code 79) 78 = .ok (.if_icmp .ne 7, 3) := by decide +kernel
theorem dq_79_81 : decode (qx_code 79) 81 = .ok (.iconst 1, 1) := by decide +kernel
theorem dq_79_82 : decode (qx_code 79) 82 = .ok (.goto 4, 3) := by decide +kernel
theorem dq_79_85 : decode (qx_code 79) 85 = .ok (.iconst 0, 1) := by decide +kernel
theorem dq_79_86 : decode (qx_code 79) 86 = .ok (.istore 6, 2) := by decide +kernel
theorem dq_79_88 : decode (qx_code 79) 88 = .ok (.iload 6, 2) := by decide +kernel
theorem dq_79_90 : decode (qx_code 79) 90 = .ok (.ifCond .eq 35, 3) := by decide +kernel
theorem dq_79_93 : decode (qx_code 79) 93 = .ok (.aload_n 0, 1) := by decide +kernel
theorem dq_79_94 : decode (qx_code 79) 94 = .ok (.getfield 21, 3) := by decide +kernel
theorem dq_79_97 : decode (qx_code 79) 97 = .ok (.iload 4, 2) := by decide +kernel
theorem dq_79_99 : decode (qx_code 79) 99 = .ok (.ldc 119, 2) := by decide +kernel
theorem dq_79_101 : decode (qx_code 79) 101 = .ok (.invokevirtual 120, 3) := by decide +kernel
theorem dq_79_104 : decode (qx_code 79) 104 = .ok (.ifCond .ne 17, 3) := by decide +kernel
theorem dq_79_107 : decode (qx_code 79) 107 = .ok (.aload_n 0, 1) := by decide +kernel
theorem dq_79_108 : decode (qx_code 79) 108 = .ok (.getfield 21, 3) := by decide +kernel
theorem dq_79_111 : decode (qx_code 79) 111 = .ok (.iload 4, 2) := by decide +kernel
theorem dq_79_113 : decode (qx_code 79) 113 = .ok (.ldc 124, 2) := by decide +kernel
theorem dq_79_115 : decode (qx_code 79) 115 = .ok (.invokevirtual 120, 3) := by decide +kernel
theorem dq_79_118 : decode (qx_code 79) 118 = .ok (.ifCond .eq 7, 3) := by decide +kernel
theorem dq_79_121 : decode (qx_code 79) 121 = .ok (.iconst 1, 1) := by decide +kernel
theorem dq_79_122 : decode (qx_code 79) 122 = .ok (.goto 4, 3) := by decide +kernel
theorem dq_79_125 : decode (qx_code 79) 125 = .ok (.iconst 0, 1) := by decide +kernel
theorem dq_79_126 : decode (qx_code 79) 126 = .ok (.istore 7, 2) := by decide +kernel
theorem dq_79_128 : decode (qx_code 79) 128 = .ok (.aload_n 0, 1) := by decide +kernel
theorem dq_79_129 : decode (qx_code 79) 129 = .ok (.getfield 26, 3) := by decide +kernel
theorem dq_79_132 : decode (qx_code 79) 132 = .ok (.iload 7, 2) := by decide +kernel
theorem dq_79_134 : decode (qx_code 79) 134 = .ok (.ifCond .ne 17, 3) := by decide +kernel
theorem dq_79_137 : decode (qx_code 79) 137 = .ok (.aload_n 0, 1) := by decide +kernel
theorem dq_79_138 : decode (qx_code 79) 138 = .ok (.getfield 21, 3) := by decide +kernel
theorem dq_79_141 : decode (qx_code 79) 141 = .ok (.iload 4, 2) := by decide +kernel
theorem dq_79_143 : decode (qx_code 79) 143 = .ok (.bipush 16, 2) := by decide +kernel
theorem dq_79_145 : decode (qx_code 79) 145 = .ok (.invokevirtual 128, 3) := by decide +kernel
theorem dq_79_148 : decode (qx_code 79) 148 = .ok (.ifCond .eq 7, 3) := by decide +kernel
theorem dq_79_151 : decode (qx_code 79) 151 = .ok (.iconst 1, 1) := by decide +kernel
theorem dq_79_152 : decode (qx_code 79) 152 = .ok (.goto 4, 3) := by decide +kernel
theorem dq_79_155 : decode (qx_code 79) 155 = .ok (.iconst 0, 1) := by decide +kernel
theorem dq_79_156 : decode (qx_code 79) 156 = .ok (.bipush 7, 2) := by decide +kernel
theorem dq_79_158 : decode (qx_code 79) 158 = .ok (.iload_n 3, 1) := by decide +kernel
theorem dq_79_159 : decode (qx_code 79) 159 = .ok (.invokevirtual 35, 3) := by decide +kernel
theorem dq_79_162 : decode (qx_code 79) 162 = .ok (.aload_n 0, 1) := by decide +kernel
theorem dq_79_163 : decode (qx_code 79) 163 = .ok (.getfield 26, 3) := by decide +kernel
theorem dq_79_166 : decode (qx_code 79) 166 = .ok (.aload_n 0, 1) := by decide +kernel
theorem dq_79_167 : decode (qx_code 79) 167 = .ok (.getfield 21, 3) := by decide +kernel
theorem dq_79_170 : decode (qx_code 79) 170 = .ok (.iload 5, 2) := by decide +kernel
theorem dq_79_172 : decode (qx_code 79) 172 = .ok (.iload 6, 2) := by decide +kernel
theorem dq_79_174 : decode (qx_code 79) 174 = .ok (.ifCond .eq 8, 3) := by decide +kernel
theorem dq_79_177 : decode (qx_code 79) 177 = .ok (.bipush 8, 2) := by decide +kernel
theorem dq_79_179 : decode (qx_code 79) 179 = .ok (.goto 4, 3) := by decide +kernel
theorem dq_79_182 : decode (qx_code 79) 182 = .ok (.iconst 4, 1) := by decide +kernel
theorem dq_79_183 : decode (qx_code 79) 183 = .ok (.invokevirtual 128, 3) := by decide +kernel
theorem dq_79_186 : decode (qx_code 79) 186 = .ok (.bipush 8, 2) := by decide +kernel
theorem dq_79_188 : decode (qx_code 79) 188 = .ok (.iload_n 3, 1) := by decide +kernel
theorem dq_79_189 : decode (qx_code 79) 189 = .ok (.iconst 2, 1) := by decide +kernel
theorem dq_79_190 : decode (qx_code 79) 190 = .ok (.iadd, 1) := by decide +kernel
theorem dq_79_191 : decode (qx_code 79) 191 = .ok (.invokevirtual 35, 3) := by decide +kernel
theorem dq_79_194 : decode (qx_code 79) 194 = .ok (.return_, 1) := by decide +kernel
theorem fl_79_26 : qx_fld 79 26 = some (4, 2) := by decide +kernel
theorem fl_79_52 : qx_fld 79 52 = some (3, 2) := by decide +kernel
theorem mt_79_39 : qx_mth 79 39 = some (17, 0) := by decide +kernel
theorem fl_79_9 : qx_fld 79 9 = some (4, 0) := by decide +kernel
theorem mt_79_115 : qx_mth 79 115 = some (80, 3) := by decide +kernel
theorem fl_79_21 : qx_fld 79 21 = some (4, 1) := by decide +kernel
theorem mt_79_91 : qx_mth 79 91 = some (55, 2) := by decide +kernel
theorem mt_79_35 : qx_mth 79 35 = some (15, 3) := by decide +kernel
theorem mt_79_120 : qx_mth 79 120 = some (57, 2) := by decide +kernel
theorem mt_79_128 : qx_mth 79 128 = some (56, 2) := by decide +kernel
theorem dq_81_0 : decode (qx_code 81) 0 = .ok (.aload_n 0, 1) := by decide +kernel
theorem dq_81_1 : decode (qx_code 81) 1 = .ok (.getfield 9, 3) := by decide +kernel
theorem dq_81_4 : decode (qx_code 81) 4 = .ok (.invokevirtual 131, 3) := by decide +kernel
theorem dq_81_7 : decode (qx_code 81) 7 = .ok (.invokestatic 134, 3) := by decide +kernel
theorem dq_81_10 : decode (qx_code 81) 10 = .ok (.istore 4, 2) := by decide +kernel
theorem dq_81_12 : decode (qx_code 81) 12 = .ok (.iload_n 1, 1) := by decide +kernel
theorem dq_81_13 : decode (qx_code 81) 13 = .ok (.ifCond .ne 10, 3) := by decide +kernel
theorem dq_81_16 : decode (qx_code 81) 16 = .ok (.iload_n 3, 1) := by decide +kernel
theorem dq_81_17 : decode (qx_code 81) 17 = .ok (.iload 4, 2) := by decide +kernel
theorem dq_81_19 : decode (qx_code 81) 19 = .ok (.invokestatic 137, 3) := by decide +kernel
theorem dq_81_22 : decode (qx_code 81) 22 = .ok (.ireturn, 1) := by decide +kernel
theorem dq_81_23 : decode (qx_code 81) 23 = .ok (.aload_n 0, 1) := by decide +kernel
theorem dq_81_24 : decode (qx_code 81) 24 = .ok (.getfield 9, 3) := by decide +kernel
theorem dq_81_27 : decode (qx_code 81) 27 = .ok (.iload_n 1, 1) := by decide +kernel
theorem dq_81_28 : decode (qx_code 81) 28 = .ok (.iload_n 2, 1) := by decide +kernel
theorem dq_81_29 : decode (qx_code 81) 29 = .ok (.invokevirtual 108, 3) := by decide +kernel
theorem dq_81_32 : decode (qx_code 81) 32 = .ok (.istore 5, 2) := by decide +kernel
theorem dq_81_34 : decode (qx_code 81) 34 = .ok (.aload_n 0, 1) := by decide +kernel
theorem dq_81_35 : decode (qx_code 81) 35 = .ok (.getfield 21, 3) := by decide +kernel
theorem dq_81_38 : decode (qx_code 81) 38 = .ok (.iload 5, 2) := by decide +kernel
theorem dq_81_40 : decode (qx_code 81) 40 = .ok (.ldc 124, 2) := by decide +kernel
theorem dq_81_42 : decode (qx_code 81) 42 = .ok (.invokevirtual 120, 3) := by decide +kernel
theorem dq_81_45 : decode (qx_code 81) 45 = .ok (.ifCond .ne 23, 3) := by decide +kernel
theorem dq_81_48 : decode (qx_code 81) 48 = .ok (.iload_n 3, 1) := by decide +kernel
theorem dq_81_49 : decode (qx_code 81) 49 = .ok (.iload 4, 2) := by decide +kernel
theorem dq_81_51 : decode (qx_code 81) 51 = .ok (.aload_n 0, 1) := by decide +kernel
theorem dq_81_52 : decode (qx_code 81) 52 = .ok (.getfield 21, 3) := by decide +kernel
theorem dq_81_55 : decode (qx_code 81) 55 = .ok (.iload 5, 2) := by decide +kernel
theorem dq_81_57 : decode (qx_code 81) 57 = .ok (.ldc 119, 2) := by decide +kernel
theorem dq_81_59 : decode (qx_code 81) 59 = .ok (.invokevirtual 120, 3) := by decide +kernel
theorem dq_81_62 : decode (qx_code 81) 62 = .ok (.invokestatic 141, 3) := by decide +kernel
theorem dq_81_65 : decode (qx_code 81) 65 = .ok (.ifCond .eq 7, 3) := by decide +kernel
theorem dq_81_68 : decode (qx_code 81) 68 = .ok (.iconst 1, 1) := by decide +kernel
theorem dq_81_69 : decode (qx_code 81) 69 = .ok (.goto 4, 3) := by decide +kernel
theorem dq_81_72 : decode (qx_code 81) 72 = .ok (.iconst 0, 1) := by decide +kernel
theorem dq_81_73 : decode (qx_code 81) 73 = .ok (.ireturn, 1) := by decide +kernel
theorem fl_81_9 : qx_fld 81 9 = some (4, 0) := by decide +kernel
theorem mt_81_131 : qx_mth 81 131 = some (82, 0) := by decide +kernel
theorem mt_81_134 : qx_mth 81 134 = some (66, 1) := by decide +kernel
theorem mt_81_137 : qx_mth 81 137 = some (83, 2) := by decide +kernel
theorem mt_81_108 : qx_mth 81 108 = some (86, 2) := by decide +kernel
theorem fl_81_21 : qx_fld 81 21 = some (4, 1) := by decide +kernel
theorem mt_81_120 : qx_mth 81 120 = some (57, 2) := by decide +kernel
theorem mt_81_141 : qx_mth 81 141 = some (88, 3) := by decide +kernel
theorem dq_102_0 : decode (qx_code 102) 0 = .ok (.aload_n 0, 1) := by decide +kernel
theorem dq_102_1 : decode (qx_code 102) 1 = .ok (.getfield 26, 3) := by decide +kernel
theorem dq_102_4 : decode (qx_code 102) 4 = .ok (.invokevirtual 39, 3) := by decide +kernel
theorem dq_102_7 : decode (qx_code 102) 7 = .ok (.istore_n 1, 1) := by decide +kernel
theorem dq_102_8 : decode (qx_code 102) 8 = .ok (.iconst 0, 1) := by decide +kernel
theorem dq_102_9 : decode (qx_code 102) 9 = .ok (.istore_n 2, 1) := by decide +kernel
theorem dq_102_10 : decode (qx_code 102) 10 = .ok (.iload_n 2, 1) := by decide +kernel
theorem dq_102_11 : decode (qx_code 102) 11 = .ok (.iload_n 1, 1) := by decide +kernel
theorem dq_102_12 : decode (qx_code 102) 12 = .ok (.if_icmp .ge 70, 3) := by decide +kernel
theorem dq_102_15 : decode (qx_code 102) 15 = .ok (.aload_n 0, 1) := by decide +kernel
theorem dq_102_16 : decode (qx_code 102) 16 = .ok (.getfield 26, 3) := by decide +kernel
theorem dq_102_19 : decode (qx_code 102) 19 = .ok (.invokevirtual 69, 3) := by decide +kernel
theorem dq_102_22 : decode (qx_code 102) 22 = .ok (.ifCond .eq 60, 3) := by decide +kernel
theorem dq_102_25 : decode (qx_code 102) 25 = .ok (.aload_n 0, 1) := by decide +kernel
theorem dq_102_26 : decode (qx_code 102) 26 = .ok (.iconst 3, 1) := by decide +kernel
theorem dq_102_27 : decode (qx_code 102) 27 = .ok (.iconst 0, 1) := by decide +kernel
theorem dq_102_28 : decode (qx_code 102) 28 = .ok (.invokevirtual 145, 3) := by decide +kernel
theorem dq_102_31 : decode (qx_code 102) 31 = .ok (.astore_n 3, 1) := by decide +kernel
theorem dq_102_32 : decode (qx_code 102) 32 = .ok (.aload_n 3, 1) := by decide +kernel
theorem dq_102_33 : decode (qx_code 102) 33 = .ok (.getstatic 149, 3) := by decide +kernel
theorem dq_102_36 : decode (qx_code 102) 36 = .ok (.if_acmp .ne 10, 3) := by decide +kernel
theorem dq_102_39 : decode (qx_code 102) 39 = .ok (.aload_n 0, 1) := by decide +kernel
theorem dq_102_40 : decode (qx_code 102) 40 = .ok (.invokevirtual 155, 3) := by decide +kernel
theorem dq_102_43 : decode (qx_code 102) 43 = .ok (.goto 33, 3) := by decide +kernel
theorem dq_102_46 : decode (qx_code 102) 46 = .ok (.aload_n 3, 1) := by decide +kernel
theorem dq_102_47 : decode (qx_code 102) 47 = .ok (.ifnull 18, 3) := by decide +kernel
theorem dq_102_50 : decode (qx_code 102) 50 = .ok (.aload_n 3, 1) := by decide +kernel
theorem dq_102_51 : decode (qx_code 102) 51 = .ok (.invokevirtual 158, 3) := by decide +kernel
theorem dq_102_54 : decode (qx_code 102) 54 = .ok (.ifCond .eq 11, 3) := by decide +kernel
theorem dq_102_57 : decode (qx_code 102) 57 = .ok (.aload_n 0, 1) := by decide +kernel
theorem dq_102_58 : decode (qx_code 102) 58 = .ok (.aload_n 3, 1) := by decide +kernel
theorem dq_102_59 : decode (qx_code 102) 59 = .ok (.invokevirtual 161, 3) := by decide +kernel
theorem dq_102_62 : decode (qx_code 102) 62 = .ok (.goto 14, 3) := by decide +kernel
theorem dq_102_65 : decode (qx_code 102) 65 = .ok (.aload_n 3, 1) := by decide +kernel
theorem dq_102_66 : decode (qx_code 102) 66 = .ok (.ifnull 10, 3) := by decide +kernel
theorem dq_102_69 : decode (qx_code 102) 69 = .ok (.aload_n 0, 1) := by decide +kernel
theorem dq_102_70 : decode (qx_code 102) 70 = .ok (.iconst 3, 1) := by decide +kernel
theorem dq_102_71 : decode (qx_code 102) 71 = .ok (.iconst 0, 1) := by decide +kernel
theorem dq_102_72 : decode (qx_code 102) 72 = .ok (.aload_n 3, 1) := by decide +kernel
theorem dq_102_73 : decode (qx_code 102) 73 = .ok (.invokevirtual 165, 3) := by decide +kernel
theorem dq_102_76 : decode (qx_code 102) 76 = .ok (.iinc 2 1, 3) := by decide +kernel
theorem dq_102_79 : decode (qx_code 102) 79 = .ok (.goto (-69), 3) := by decide +kernel
theorem dq_102_82 : decode (qx_code 102) 82 = .ok (.return_, 1) := by decide +kernel
theorem fl_102_26 : qx_fld 102 26 = some (4, 2) := by decide +kernel
theorem mt_102_39 : qx_mth 102 39 = some (17, 0) := by decide +kernel
theorem mt_102_69 : qx_mth 102 69 = some (20, 0) := by decide +kernel
theorem mt_102_145 : qx_mth 102 145 = some (91, 2) := by decide +kernel
theorem mt_102_155 : qx_mth 102 155 = some (103, 0) := by decide +kernel
theorem mt_102_158 : qx_mth 102 158 = some (96, 0) := by decide +kernel
theorem mt_102_161 : qx_mth 102 161 = some (97, 1) := by decide +kernel
theorem mt_102_165 : qx_mth 102 165 = some (98, 3) := by decide +kernel
theorem dq_90_0 : decode (qx_code 90) 0 = .ok (.aload_n 0, 1) := by decide +kernel
theorem dq_90_1 : decode (qx_code 90) 1 = .ok (.getfield 26, 3) := by decide +kernel
theorem dq_90_4 : decode (qx_code 90) 4 = .ok (.invokevirtual 39, 3) := by decide +kernel
theorem dq_90_7 : decode (qx_code 90) 7 = .ok (.istore_n 3, 1) := by decide +kernel
theorem dq_90_8 : decode (qx_code 90) 8 = .ok (.iconst 0, 1) := by decide +kernel
theorem dq_90_9 : decode (qx_code 90) 9 = .ok (.istore 4, 2) := by decide +kernel
theorem dq_90_11 : decode (qx_code 90) 11 = .ok (.iload 4, 2) := by decide +kernel
theorem dq_90_13 : decode (qx_code 90) 13 = .ok (.iload_n 3, 1) := by decide +kernel
theorem dq_90_14 : decode (qx_code 90) 14 = .ok (.if_icmp .ge 62, 3) := by decide +kernel
theorem dq_90_17 : decode (qx_code 90) 17 = .ok (.aload_n 0, 1) := by decide +kernel
theorem dq_90_18 : decode (qx_code 90) 18 = .ok (.getfield 26, 3) := by decide +kernel
theorem dq_90_21 : decode (qx_code 90) 21 = .ok (.invokevirtual 69, 3) := by decide +kernel
theorem dq_90_24 : decode (qx_code 90) 24 = .ok (.ifCond .eq 52, 3) := by decide +kernel
theorem dq_90_27 : decode (qx_code 90) 27 = .ok (.aload_n 0, 1) := by decide +kernel
theorem dq_90_28 : decode (qx_code 90) 28 = .ok (.iload_n 1, 1) := by decide +kernel
theorem dq_90_29 : decode (qx_code 90) 29 = .ok (.iload_n 2, 1) := by decide +kernel
theorem dq_90_30 : decode (qx_code 90) 30 = .ok (.invokevirtual 145, 3) := by decide +kernel
theorem dq_90_33 : decode (qx_code 90) 33 = .ok (.astore 5, 2) := by decide +kernel
theorem dq_90_35 : decode (qx_code 90) 35 = .ok (.aload 5, 2) := by decide +kernel
theorem dq_90_37 : decode (qx_code 90) 37 = .ok (.ifnull 20, 3) := by decide +kernel
theorem dq_90_40 : decode (qx_code 90) 40 = .ok (.aload 5, 2) := by decide +kernel
theorem dq_90_42 : decode (qx_code 90) 42 = .ok (.invokevirtual 158, 3) := by decide +kernel
theorem dq_90_45 : decode (qx_code 90) 45 = .ok (.ifCond .eq 12, 3) := by decide +kernel
theorem dq_90_48 : decode (qx_code 90) 48 = .ok (.aload_n 0, 1) := by decide +kernel
theorem dq_90_49 : decode (qx_code 90) 49 = .ok (.aload 5, 2) := by decide +kernel
theorem dq_90_51 : decode (qx_code 90) 51 = .ok (.invokevirtual 161, 3) := by decide +kernel
theorem dq_90_54 : decode (qx_code 90) 54 = .ok (.goto 16, 3) := by decide +kernel
theorem dq_90_57 : decode (qx_code 90) 57 = .ok (.aload 5, 2) := by decide +kernel
theorem dq_90_59 : decode (qx_code 90) 59 = .ok (.ifnull 11, 3) := by decide +kernel
theorem dq_90_62 : decode (qx_code 90) 62 = .ok (.aload_n 0, 1) := by decide +kernel
theorem dq_90_63 : decode (qx_code 90) 63 = .ok (.iload_n 1, 1) := by decide +kernel
theorem dq_90_64 : decode (qx_code 90) 64 = .ok (.iload_n 2, 1) := by decide +kernel
theorem dq_90_65 : decode (qx_code 90) 65 = .ok (.aload 5, 2) := by decide +kernel
theorem dq_90_67 : decode (qx_code 90) 67 = .ok (.invokevirtual 165, 3) := by decide +kernel
theorem dq_90_70 : decode (qx_code 90) 70 = .ok (.iinc 4 1, 3) := by decide +kernel
theorem dq_90_73 : decode (qx_code 90) 73 = .ok (.goto (-62), 3) := by decide +kernel
theorem dq_90_76 : decode (qx_code 90) 76 = .ok (.return_, 1) := by decide +kernel
theorem fl_90_26 : qx_fld 90 26 = some (4, 2) := by decide +kernel
theorem mt_90_39 : qx_mth 90 39 = some (17, 0) := by decide +kernel
theorem mt_90_69 : qx_mth 90 69 = some (20, 0) := by decide +kernel
theorem mt_90_145 : qx_mth 90 145 = some (91, 2) := by decide +kernel
theorem mt_90_158 : qx_mth 90 158 = some (96, 0) := by decide +kernel
theorem mt_90_161 : qx_mth 90 161 = some (97, 1) := by decide +kernel
theorem mt_90_165 : qx_mth 90 165 = some (98, 3) := by decide +kernel
theorem dq_91_0 : decode (qx_code 91) 0 = .ok (.aload_n 0, 1) := by decide +kernel
theorem dq_91_1 : decode (qx_code 91) 1 = .ok (.getfield 26, 3) := by decide +kernel
theorem dq_91_4 : decode (qx_code 91) 4 = .ok (.getfield 52, 3) := by decide +kernel
theorem dq_91_7 : decode (qx_code 91) 7 = .ok (.istore_n 3, 1) := by decide +kernel
theorem dq_91_8 : decode (qx_code 91) 8 = .ok (.aload_n 0, 1) := by decide +kernel
theorem dq_91_9 : decode (qx_code 91) 9 = .ok (.iconst 1, 1) := by decide +kernel
theorem dq_91_10 : decode (qx_code 91) 10 = .ok (.iconst 0, 1) := by decide +kernel
theorem dq_91_11 : decode (qx_code 91) 11 = .ok (.invokevirtual 84, 3) := by decide +kernel
theorem dq_91_14 : decode (qx_code 91) 14 = .ok (.istore 4, 2) := by decide +kernel
theorem dq_91_16 : decode (qx_code 91) 16 = .ok (.aload_n 0, 1) := by decide +kernel
theorem dq_91_17 : decode (qx_code 91) 17 = .ok (.getfield 26, 3) := by decide +kernel
theorem dq_91_20 : decode (qx_code 91) 20 = .ok (.iconst 4, 1) := by decide +kernel
theorem dq_91_21 : decode (qx_code 91) 21 = .ok (.invokevirtual 27, 3) := by decide +kernel
theorem dq_91_24 : decode (qx_code 91) 24 = .ok (.lstore 5, 2) := by decide +kernel
theorem dq_91_26 : decode (qx_code 91) 26 = .ok (.aload_n 0, 1) := by decide +kernel
theorem dq_91_27 : decode (qx_code 91) 27 = .ok (.getfield 21, 3) := by decide +kernel
theorem dq_91_30 : decode (qx_code 91) 30 = .ok (.iload 4, 2) := by decide +kernel
theorem dq_91_32 : decode (qx_code 91) 32 = .ok (.iload_n 1, 1) := by decide +kernel
theorem dq_91_33 : decode (qx_code 91) 33 = .ok (.invokestatic 169, 3) := by decide +kernel
theorem dq_91_36 : decode (qx_code 91) 36 = .ok (.astore 7, 2) := by decide +kernel
theorem dq_91_38 : decode (qx_code 91) 38 = .ok (.aload 7, 2) := by decide +kernel
theorem dq_91_40 : decode (qx_code 91) 40 = .ok (.ifnonnull 14, 3) := by decide +kernel
theorem dq_91_43 : decode (qx_code 91) 43 = .ok (.aload_n 0, 1) := by decide +kernel
theorem dq_91_44 : decode (qx_code 91) 44 = .ok (.getfield 26, 3) := by decide +kernel
theorem dq_91_47 : decode (qx_code 91) 47 = .ok (.lload 5, 2) := by decide +kernel
theorem dq_91_49 : decode (qx_code 91) 49 = .ok (.invokevirtual 173, 3) := by decide +kernel
theorem dq_91_52 : decode (qx_code 91) 52 = .ok (.aconst_null, 1) := by decide +kernel
theorem dq_91_53 : decode (qx_code 91) 53 = .ok (.areturn, 1) := by decide +kernel
theorem dq_91_54 : decode (qx_code 91) 54 = .ok (.aload_n 0, 1) := by decide +kernel
theorem dq_91_55 : decode (qx_code 91) 55 = .ok (.getfield 26, 3) := by decide +kernel
theorem dq_91_58 : decode (qx_code 91) 58 = .ok (.aload_n 0, 1) := by decide +kernel
theorem dq_91_59 : decode (qx_code 91) 59 = .ok (.getfield 9, 3) := by decide +kernel
theorem dq_91_62 : decode (qx_code 91) 62 = .ok (.iload_n 1, 1) := by decide +kernel
theorem dq_91_63 : decode (qx_code 91) 63 = .ok (.iload_n 2, 1) := by decide +kernel
theorem dq_91_64 : decode (qx_code 91) 64 = .ok (.aload 7, 2) := by decide +kernel
theorem dq_91_66 : decode (qx_code 91) 66 = .ok (.invokevirtual 177, 3) := by decide +kernel
theorem dq_91_69 : decode (qx_code 91) 69 = .ok (.ifCond .ne 7, 3) := by decide +kernel
theorem dq_91_72 : decode (qx_code 91) 72 = .ok (.iconst 1, 1) := by decide +kernel
theorem dq_91_73 : decode (qx_code 91) 73 = .ok (.goto 4, 3) := by decide +kernel
theorem dq_91_76 : decode (qx_code 91) 76 = .ok (.iconst 0, 1) := by decide +kernel
theorem dq_91_77 : decode (qx_code 91) 77 = .ok (.bipush 9, 2) := by decide +kernel
theorem dq_91_79 : decode (qx_code 91) 79 = .ok (.iload_n 3, 1) := by decide +kernel
theorem dq_91_80 : decode (qx_code 91) 80 = .ok (.invokevirtual 35, 3) := by decide +kernel
theorem dq_91_83 : decode (qx_code 91) 83 = .ok (.aload_n 0, 1) := by decide +kernel
theorem dq_91_84 : decode (qx_code 91) 84 = .ok (.getfield 9, 3) := by decide +kernel
theorem dq_91_87 : decode (qx_code 91) 87 = .ok (.iload_n 1, 1) := by decide +kernel
theorem dq_91_88 : decode (qx_code 91) 88 = .ok (.iload_n 2, 1) := by decide +kernel
theorem dq_91_89 : decode (qx_code 91) 89 = .ok (.aload 7, 2) := by decide +kernel
theorem dq_91_91 : decode (qx_code 91) 91 = .ok (.aload_n 0, 1) := by decide +kernel
theorem dq_91_92 : decode (qx_code 91) 92 = .ok (.getfield 26, 3) := by decide +kernel
theorem dq_91_95 : decode (qx_code 91) 95 = .ok (.getfield 52, 3) := by decide +kernel
theorem dq_91_98 : decode (qx_code 91) 98 = .ok (.invokevirtual 181, 3) := by decide +kernel
theorem dq_91_101 : decode (qx_code 91) 101 = .ok (.aload 7, 2) := by decide +kernel
theorem dq_91_103 : decode (qx_code 91) 103 = .ok (.areturn, 1) := by decide +kernel
theorem fl_91_26 : qx_fld 91 26 = some (4, 2) := by decide +kernel
theorem fl_91_52 : qx_fld 91 52 = some (3, 2) := by decide +kernel
theorem mt_91_84 : qx_mth 91 84 = some (70, 2) := by decide +kernel
theorem mt_91_27 : qx_mth 91 27 = some (14, 1) := by decide +kernel
theorem fl_91_21 : qx_fld 91 21 = some (4, 1) := by decide +kernel
theorem mt_91_169 : qx_mth 91 169 = some (92, 3) := by decide +kernel
theorem mt_91_173 : qx_mth 91 173 = some (23, 1) := by decide +kernel
theorem fl_91_9 : qx_fld 91 9 = some (4, 0) := by decide +kernel
theorem mt_91_177 : qx_mth 91 177 = some (93, 3) := by decide +kernel
theorem mt_91_35 : qx_mth 91 35 = some (15, 3) := by decide +kernel
theorem mt_91_181 : qx_mth 91 181 = some (95, 4) := by decide +kernel
theorem dq_98_0 : decode (qx_code 98) 0 = .ok (.aload_n 3, 1) := by decide +kernel
theorem dq_98_1 : decode (qx_code 98) 1 = .ok (.getstatic 185, 3) := by decide +kernel
theorem dq_98_4 : decode (qx_code 98) 4 = .ok (.if_acmp .ne 9, 3) := by decide +kernel
theorem dq_98_7 : decode (qx_code 98) 7 = .ok (.aload_n 0, 1) := by decide +kernel
theorem dq_98_8 : decode (qx_code 98) 8 = .ok (.lconst 0, 1) := by decide +kernel
theorem dq_98_9 : decode (qx_code 98) 9 = .ok (.invokevirtual 188, 3) := by decide +kernel
theorem dq_98_12 : decode (qx_code 98) 12 = .ok (.return_, 1) := by decide +kernel
theorem dq_98_13 : decode (qx_code 98) 13 = .ok (.aload_n 3, 1) := by decide +kernel
theorem dq_98_14 : decode (qx_code 98) 14 = .ok (.getstatic 191, 3) := by decide +kernel
theorem dq_98_17 : decode (qx_code 98) 17 = .ok (.if_acmp .ne 7, 3) := by decide +kernel
theorem dq_98_20 : decode (qx_code 98) 20 = .ok (.iconst 1, 1) := by decide +kernel
theorem dq_98_21 : decode (qx_code 98) 21 = .ok (.goto 4, 3) := by decide +kernel
theorem dq_98_24 : decode (qx_code 98) 24 = .ok (.iconst 0, 1) := by decide +kernel
theorem dq_98_25 : decode (qx_code 98) 25 = .ok (.istore 4, 2) := by decide +kernel
theorem dq_98_27 : decode (qx_code 98) 27 = .ok (.aload_n 0, 1) := by decide +kernel
theorem dq_98_28 : decode (qx_code 98) 28 = .ok (.ldc2_w 194, 3) := by decide +kernel
theorem dq_98_31 : decode (qx_code 98) 31 = .ok (.invokevirtual 188, 3) := by decide +kernel
theorem dq_98_34 : decode (qx_code 98) 34 = .ok (.aload_n 0, 1) := by decide +kernel
theorem dq_98_35 : decode (qx_code 98) 35 = .ok (.iload 4, 2) := by decide +kernel
theorem dq_98_37 : decode (qx_code 98) 37 = .ok (.ifCond .eq 22, 3) := by decide +kernel
theorem dq_98_40 : decode (qx_code 98) 40 = .ok (.aload_n 0, 1) := by decide +kernel
theorem dq_98_41 : decode (qx_code 98) 41 = .ok (.getfield 21, 3) := by decide +kernel
theorem dq_98_44 : decode (qx_code 98) 44 = .ok (.aload_n 0, 1) := by decide +kernel
theorem dq_98_45 : decode (qx_code 98) 45 = .ok (.getfield 9, 3) := by decide +kernel
theorem dq_98_48 : decode (qx_code 98) 48 = .ok (.iload_n 1, 1) := by decide +kernel
theorem dq_98_49 : decode (qx_code 98) 49 = .ok (.iload_n 2, 1) := by decide +kernel
theorem dq_98_50 : decode (qx_code 98) 50 = .ok (.invokevirtual 112, 3) := by decide +kernel
theorem dq_98_53 : decode (qx_code 98) 53 = .ok (.invokevirtual 196, 3) := by decide +kernel
theorem dq_98_56 : decode (qx_code 98) 56 = .ok (.goto 7, 3) := by decide +kernel
theorem dq_98_59 : decode (qx_code 98) 59 = .ok (.aload_n 3, 1) := by decide +kernel
theorem dq_98_60 : decode (qx_code 98) 60 = .ok (.getfield 199, 3) := by decide +kernel
theorem dq_98_63 : decode (qx_code 98) 63 = .ok (.iconst 0, 1) := by decide +kernel
theorem dq_98_64 : decode (qx_code 98) 64 = .ok (.invokevirtual 84, 3) := by decide +kernel
theorem dq_98_67 : decode (qx_code 98) 67 = .ok (.pop, 1) := by decide +kernel
theorem dq_98_68 : decode (qx_code 98) 68 = .ok (.return_, 1) := by decide +kernel
theorem mt_98_188 : qx_mth 98 188 = some (99, 1) := by decide +kernel
theorem fl_98_21 : qx_fld 98 21 = some (4, 1) := by decide +kernel
theorem fl_98_9 : qx_fld 98 9 = some (4, 0) := by decide +kernel
theorem mt_98_112 : qx_mth 98 112 = some (89, 2) := by decide +kernel
theorem mt_98_196 : qx_mth 98 196 = some (100, 1) := by decide +kernel
theorem fl_98_199 : qx_fld 98 199 = some (6, 3) := by decide +kernel
theorem mt_98_84 : qx_mth 98 84 = some (70, 2) := by decide +kernel
theorem dq_99_0 : decode (qx_code 99) 0 = .ok (.aload_n 0, 1) := by decide +kernel
theorem dq_99_1 : decode (qx_code 99) 1 = .ok (.getfield 26, 3) := by decide +kernel
theorem dq_99_4 : decode (qx_code 99) 4 = .ok (.getfield 52, 3) := by decide +kernel
theorem dq_99_7 : decode (qx_code 99) 7 = .ok (.iconst 4, 1) := by decide +kernel
theorem dq_99_8 : decode (qx_code 99) 8 = .ok (.isub, 1) := by decide +kernel
theorem dq_99_9 : decode (qx_code 99) 9 = .ok (.istore_n 3, 1) := by decide +kernel
theorem dq_99_10 : decode (qx_code 99) 10 = .ok (.aload_n 0, 1) := by decide +kernel
theorem dq_99_11 : decode (qx_code 99) 11 = .ok (.getfield 26, 3) := by decide +kernel
theorem dq_99_14 : decode (qx_code 99) 14 = .ok (.aload_n 0, 1) := by decide +kernel
theorem dq_99_15 : decode (qx_code 99) 15 = .ok (.getfield 26, 3) := by decide +kernel
theorem dq_99_18 : decode (qx_code 99) 18 = .ok (.iload_n 3, 1) := by decide +kernel
theorem dq_99_19 : decode (qx_code 99) 19 = .ok (.iconst 4, 1) := by decide +kernel
theorem dq_99_20 : decode (qx_code 99) 20 = .ok (.invokevirtual 202, 3) := by decide +kernel
theorem dq_99_23 : decode (qx_code 99) 23 = .ok (.lload_n 1, 1) := by decide +kernel
theorem dq_99_24 : decode (qx_code 99) 24 = .ok (.lcmp, 1) := by decide +kernel
theorem dq_99_25 : decode (qx_code 99) 25 = .ok (.ifCond .ne 7, 3) := by decide +kernel
theorem dq_99_28 : decode (qx_code 99) 28 = .ok (.iconst 1, 1) := by decide +kernel
theorem dq_99_29 : decode (qx_code 99) 29 = .ok (.goto 4, 3) := by decide +kernel
theorem dq_99_32 : decode (qx_code 99) 32 = .ok (.iconst 0, 1) := by decide +kernel
theorem dq_99_33 : decode (qx_code 99) 33 = .ok (.bipush 10, 2) := by decide +kernel
theorem dq_99_35 : decode (qx_code 99) 35 = .ok (.iload_n 3, 1) := by decide +kernel
theorem dq_99_36 : decode (qx_code 99) 36 = .ok (.invokevirtual 35, 3) := by decide +kernel
theorem dq_99_39 : decode (qx_code 99) 39 = .ok (.return_, 1) := by decide +kernel
theorem fl_99_26 : qx_fld 99 26 = some (4, 2) := by decide +kernel
theorem fl_99_52 : qx_fld 99 52 = some (3, 2) := by decide +kernel
theorem mt_99_202 : qx_mth 99 202 = some (16, 2) := by decide +kernel
theorem mt_99_35 : qx_mth 99 35 = some (15, 3) := by decide +kernel
theorem dq_97_0 : decode (qx_code 97) 0 = .ok (.aload_n 0, 1) := by decide +kernel
theorem dq_97_1 : decode (qx_code 97) 1 = .ok (.getfield 26, 3) := by decide +kernel
theorem dq_97_4 : decode (qx_code 97) 4 = .ok (.getfield 52, 3) := by decide +kernel
theorem dq_97_7 : decode (qx_code 97) 7 = .ok (.iconst 4, 1) := by decide +kernel
theorem dq_97_8 : decode (qx_code 97) 8 = .ok (.isub, 1) := by decide +kernel
theorem dq_97_9 : decode (qx_code 97) 9 = .ok (.istore_n 2, 1) := by decide +kernel
theorem dq_97_10 : decode (qx_code 97) 10 = .ok (.aload_n 0, 1) := by decide +kernel
theorem dq_97_11 : decode (qx_code 97) 11 = .ok (.getfield 26, 3) := by decide +kernel
theorem dq_97_14 : decode (qx_code 97) 14 = .ok (.iload_n 2, 1) := by decide +kernel
theorem dq_97_15 : decode (qx_code 97) 15 = .ok (.iconst 4, 1) := by decide +kernel
theorem dq_97_16 : decode (qx_code 97) 16 = .ok (.invokevirtual 202, 3) := by decide +kernel
theorem dq_97_19 : decode (qx_code 97) 19 = .ok (.lstore_n 3, 1) := by decide +kernel
theorem dq_97_20 : decode (qx_code 97) 20 = .ok (.aload_n 0, 1) := by decide +kernel
theorem dq_97_21 : decode (qx_code 97) 21 = .ok (.getfield 26, 3) := by decide +kernel
theorem dq_97_24 : decode (qx_code 97) 24 = .ok (.lload_n 3, 1) := by decide +kernel
theorem dq_97_25 : decode (qx_code 97) 25 = .ok (.ldc2_w 194, 3) := by decide +kernel
theorem dq_97_28 : decode (qx_code 97) 28 = .ok (.lcmp, 1) := by decide +kernel
theorem dq_97_29 : decode (qx_code 97) 29 = .ok (.ifCond .lt 7, 3) := by decide +kernel
theorem dq_97_32 : decode (qx_code 97) 32 = .ok (.iconst 1, 1) := by decide +kernel
theorem dq_97_33 : decode (qx_code 97) 33 = .ok (.goto 4, 3) := by decide +kernel
theorem dq_97_36 : decode (qx_code 97) 36 = .ok (.iconst 0, 1) := by decide +kernel
theorem dq_97_37 : decode (qx_code 97) 37 = .ok (.bipush 10, 2) := by decide +kernel
theorem dq_97_39 : decode (qx_code 97) 39 = .ok (.iload_n 2, 1) := by decide +kernel
theorem dq_97_40 : decode (qx_code 97) 40 = .ok (.invokevirtual 35, 3) := by decide +kernel
theorem dq_97_43 : decode (qx_code 97) 43 = .ok (.aload_n 0, 1) := by decide +kernel
theorem dq_97_44 : decode (qx_code 97) 44 = .ok (.getfield 26, 3) := by decide +kernel
theorem dq_97_47 : decode (qx_code 97) 47 = .ok (.iconst 2, 1) := by decide +kernel
theorem dq_97_48 : decode (qx_code 97) 48 = .ok (.invokevirtual 27, 3) := by decide +kernel
theorem dq_97_51 : decode (qx_code 97) 51 = .ok (.l2i, 1) := by decide +kernel
theorem dq_97_52 : decode (qx_code 97) 52 = .ok (.istore 5, 2) := by decide +kernel
theorem dq_97_54 : decode (qx_code 97) 54 = .ok (.aload_n 0, 1) := by decide +kernel
theorem dq_97_55 : decode (qx_code 97) 55 = .ok (.getfield 26, 3) := by decide +kernel
theorem dq_97_58 : decode (qx_code 97) 58 = .ok (.lload_n 3, 1) := by decide +kernel
theorem dq_97_59 : decode (qx_code 97) 59 = .ok (.iconst 2, 1) := by decide +kernel
theorem dq_97_60 : decode (qx_code 97) 60 = .ok (.iload 5, 2) := by decide +kernel
theorem dq_97_62 : decode (qx_code 97) 62 = .ok (.aload_n 1, 1) := by decide +kernel
theorem dq_97_63 : decode (qx_code 97) 63 = .ok (.getfield 206, 3) := by decide +kernel
theorem dq_97_66 : decode (qx_code 97) 66 = .ok (.imul, 1) := by decide +kernel
theorem dq_97_67 : decode (qx_code 97) 67 = .ok (.iadd, 1) := by decide +kernel
theorem dq_97_68 : decode (qx_code 97) 68 = .ok (.i2l, 1) := by decide +kernel
theorem dq_97_69 : decode (qx_code 97) 69 = .ok (.lcmp, 1) := by decide +kernel
theorem dq_97_70 : decode (qx_code 97) 70 = .ok (.ifCond .ne 7, 3) := by decide +kernel
theorem dq_97_73 : decode (qx_code 97) 73 = .ok (.iconst 1, 1) := by decide +kernel
theorem dq_97_74 : decode (qx_code 97) 74 = .ok (.goto 4, 3) := by decide +kernel
theorem dq_97_77 : decode (qx_code 97) 77 = .ok (.iconst 0, 1) := by decide +kernel
theorem dq_97_78 : decode (qx_code 97) 78 = .ok (.bipush 10, 2) := by decide +kernel
theorem dq_97_80 : decode (qx_code 97) 80 = .ok (.iload_n 2, 1) := by decide +kernel
theorem dq_97_81 : decode (qx_code 97) 81 = .ok (.invokevirtual 35, 3) := by decide +kernel
theorem dq_97_84 : decode (qx_code 97) 84 = .ok (.iconst 0, 1) := by decide +kernel
theorem dq_97_85 : decode (qx_code 97) 85 = .ok (.istore 6, 2) := by decide +kernel
theorem dq_97_87 : decode (qx_code 97) 87 = .ok (.iload 6, 2) := by decide +kernel
theorem dq_97_89 : decode (qx_code 97) 89 = .ok (.iload 5, 2) := by decide +kernel
theorem dq_97_91 : decode (qx_code 97) 91 = .ok (.if_icmp .ge 60, 3) := by decide +kernel
theorem dq_97_94 : decode (qx_code 97) 94 = .ok (.aload_n 0, 1) := by decide +kernel
theorem dq_97_95 : decode (qx_code 97) 95 = .ok (.getfield 26, 3) := by decide +kernel
theorem dq_97_98 : decode (qx_code 97) 98 = .ok (.invokevirtual 69, 3) := by decide +kernel
theorem dq_97_101 : decode (qx_code 97) 101 = .ok (.ifCond .eq 50, 3) := by decide +kernel
theorem dq_97_104 : decode (qx_code 97) 104 = .ok (.aload_n 0, 1) := by decide +kernel
theorem dq_97_105 : decode (qx_code 97) 105 = .ok (.aload_n 1, 1) := by decide +kernel
theorem dq_97_106 : decode (qx_code 97) 106 = .ok (.getfield 199, 3) := by decide +kernel
theorem dq_97_109 : decode (qx_code 97) 109 = .ok (.iconst 0, 1) := by decide +kernel
theorem dq_97_110 : decode (qx_code 97) 110 = .ok (.invokevirtual 84, 3) := by decide +kernel
theorem dq_97_113 : decode (qx_code 97) 113 = .ok (.pop, 1) := by decide +kernel
theorem dq_97_114 : decode (qx_code 97) 114 = .ok (.aload_n 1, 1) := by decide +kernel
theorem dq_97_115 : decode (qx_code 97) 115 = .ok (.getstatic 209, 3) := by decide +kernel
theorem dq_97_118 : decode (qx_code 97) 118 = .ok (.if_acmp .ne 27, 3) := by decide +kernel
theorem dq_97_121 : decode (qx_code 97) 121 = .ok (.aload_n 0, 1) := by decide +kernel
theorem dq_97_122 : decode (qx_code 97) 122 = .ok (.bipush 7, 2) := by decide +kernel
theorem dq_97_124 : decode (qx_code 97) 124 = .ok (.iconst 1, 1) := by decide +kernel
theorem dq_97_125 : decode (qx_code 97) 125 = .ok (.invokevirtual 84, 3) := by decide +kernel
theorem dq_97_128 : decode (qx_code 97) 128 = .ok (.pop, 1) := by decide +kernel
theorem dq_97_129 : decode (qx_code 97) 129 = .ok (.aload_n 0, 1) := by decide +kernel
theorem dq_97_130 : decode (qx_code 97) 130 = .ok (.iconst 1, 1) := by decide +kernel
theorem dq_97_131 : decode (qx_code 97) 131 = .ok (.iconst 1, 1) := by decide +kernel
theorem dq_97_132 : decode (qx_code 97) 132 = .ok (.invokevirtual 84, 3) := by decide +kernel
theorem dq_97_135 : decode (qx_code 97) 135 = .ok (.pop, 1) := by decide +kernel
theorem dq_97_136 : decode (qx_code 97) 136 = .ok (.aload_n 0, 1) := by decide +kernel
theorem dq_97_137 : decode (qx_code 97) 137 = .ok (.getfield 26, 3) := by decide +kernel
theorem dq_97_140 : decode (qx_code 97) 140 = .ok (.iconst 2, 1) := by decide +kernel
theorem dq_97_141 : decode (qx_code 97) 141 = .ok (.invokevirtual 27, 3) := by decide +kernel
theorem dq_97_144 : decode (qx_code 97) 144 = .ok (.pop2, 1) := by decide +kernel
theorem dq_97_145 : decode (qx_code 97) 145 = .ok (.iinc 6 1, 3) := by decide +kernel
theorem dq_97_148 : decode (qx_code 97) 148 = .ok (.goto (-61), 3) := by decide +kernel
theorem dq_97_151 : decode (qx_code 97) 151 = .ok (.return_, 1) := by decide +kernel
theorem fl_97_26 : qx_fld 97 26 = some (4, 2) := by decide +kernel
theorem fl_97_52 : qx_fld 97 52 = some (3, 2) := by decide +kernel
theorem mt_97_202 : qx_mth 97 202 = some (16, 2) := by decide +kernel
theorem mt_97_35 : qx_mth 97 35 = some (15, 3) := by decide +kernel
theorem mt_97_27 : qx_mth 97 27 = some (14, 1) := by decide +kernel
theorem fl_97_206 : qx_fld 97 206 = some (6, 4) := by decide +kernel
theorem mt_97_69 : qx_mth 97 69 = some (20, 0) := by decide +kernel
theorem fl_97_199 : qx_fld 97 199 = some (6, 3) := by decide +kernel
theorem mt_97_84 : qx_mth 97 84 = some (70, 2) := by decide +kernel
theorem dq_103_0 : decode (qx_code 103) 0 = .ok (.aload_n 0, 1) := by decide +kernel
theorem dq_103_1 : decode (qx_code 103) 1 = .ok (.getfield 26, 3) := by decide +kernel
theorem dq_103_4 : decode (qx_code 103) 4 = .ok (.getfield 52, 3) := by decide +kernel
theorem dq_103_7 : decode (qx_code 103) 7 = .ok (.istore_n 1, 1) := by decide +kernel
theorem dq_103_8 : decode (qx_code 103) 8 = .ok (.iload_n 1, 1) := by decide +kernel
theorem dq_103_9 : decode (qx_code 103) 9 = .ok (.iconst 4, 1) := by decide +kernel
theorem dq_103_10 : decode (qx_code 103) 10 = .ok (.isub, 1) := by decide +kernel
theorem dq_103_11 : decode (qx_code 103) 11 = .ok (.istore_n 2, 1) := by decide +kernel
theorem dq_103_12 : decode (qx_code 103) 12 = .ok (.aload_n 0, 1) := by decide +kernel
theorem dq_103_13 : decode (qx_code 103) 13 = .ok (.getfield 26, 3) := by decide +kernel
theorem dq_103_16 : decode (qx_code 103) 16 = .ok (.iload_n 2, 1) := by decide +kernel
theorem dq_103_17 : decode (qx_code 103) 17 = .ok (.iconst 4, 1) := by decide +kernel
theorem dq_103_18 : decode (qx_code 103) 18 = .ok (.invokevirtual 202, 3) := by decide +kernel
theorem dq_103_21 : decode (qx_code 103) 21 = .ok (.lstore_n 3, 1) := by decide +kernel
theorem dq_103_22 : decode (qx_code 103) 22 = .ok (.aload_n 0, 1) := by decide +kernel
theorem dq_103_23 : decode (qx_code 103) 23 = .ok (.getfield 26, 3) := by decide +kernel
theorem dq_103_26 : decode (qx_code 103) 26 = .ok (.lload_n 3, 1) := by decide +kernel
theorem dq_103_27 : decode (qx_code 103) 27 = .ok (.ldc2_w 194, 3) := by decide +kernel
theorem dq_103_30 : decode (qx_code 103) 30 = .ok (.lcmp, 1) := by decide +kernel
theorem dq_103_31 : decode (qx_code 103) 31 = .ok (.ifCond .lt 7, 3) := by decide +kernel
theorem dq_103_34 : decode (qx_code 103) 34 = .ok (.iconst 1, 1) := by decide +kernel
theorem dq_103_35 : decode (qx_code 103) 35 = .ok (.goto 4, 3) := by decide +kernel
theorem dq_103_38 : decode (qx_code 103) 38 = .ok (.iconst 0, 1) := by decide +kernel
theorem dq_103_39 : decode (qx_code 103) 39 = .ok (.bipush 10, 2) := by decide +kernel
theorem dq_103_41 : decode (qx_code 103) 41 = .ok (.iload_n 2, 1) := by decide +kernel
theorem dq_103_42 : decode (qx_code 103) 42 = .ok (.invokevirtual 35, 3) := by decide +kernel
theorem dq_103_45 : decode (qx_code 103) 45 = .ok (.aload_n 0, 1) := by decide +kernel
theorem dq_103_46 : decode (qx_code 103) 46 = .ok (.getfield 26, 3) := by decide +kernel
theorem dq_103_49 : decode (qx_code 103) 49 = .ok (.invokevirtual 39, 3) := by decide +kernel
theorem dq_103_52 : decode (qx_code 103) 52 = .ok (.istore 5, 2) := by decide +kernel
theorem dq_103_54 : decode (qx_code 103) 54 = .ok (.aload_n 0, 1) := by decide +kernel
theorem dq_103_55 : decode (qx_code 103) 55 = .ok (.getfield 26, 3) := by decide +kernel
theorem dq_103_58 : decode (qx_code 103) 58 = .ok (.iload 5, 2) := by decide +kernel
theorem dq_103_60 : decode (qx_code 103) 60 = .ok (.bipush 16, 2) := by decide +kernel
theorem dq_103_62 : decode (qx_code 103) 62 = .ok (.if_icmp .gt 7, 3) := by decide +kernel
theorem dq_103_65 : decode (qx_code 103) 65 = .ok (.iconst 1, 1) := by decide +kernel
theorem dq_103_66 : decode (qx_code 103) 66 = .ok (.goto 4, 3) := by decide +kernel
theorem dq_103_69 : decode (qx_code 103) 69 = .ok (.iconst 0, 1) := by decide +kernel
theorem dq_103_70 : decode (qx_code 103) 70 = .ok (.bipush 12, 2) := by decide +kernel
theorem dq_103_72 : decode (qx_code 103) 72 = .ok (.iload_n 1, 1) := by decide +kernel
theorem dq_103_73 : decode (qx_code 103) 73 = .ok (.invokevirtual 35, 3) := by decide +kernel
theorem dq_103_76 : decode (qx_code 103) 76 = .ok (.iconst 0, 1) := by decide +kernel
theorem dq_103_77 : decode (qx_code 103) 77 = .ok (.istore 6, 2) := by decide +kernel
theorem dq_103_79 : decode (qx_code 103) 79 = .ok (.iload 6, 2) := by decide +kernel
theorem dq_103_81 : decode (qx_code 103) 81 = .ok (.iload 5, 2) := by decide +kernel
theorem dq_103_83 : decode (qx_code 103) 83 = .ok (.if_icmp .ge 33, 3) := by decide +kernel
theorem dq_103_86 : decode (qx_code 103) 86 = .ok (.aload_n 0, 1) := by decide +kernel
theorem dq_103_87 : decode (qx_code 103) 87 = .ok (.getfield 26, 3) := by decide +kernel
theorem dq_103_90 : decode (qx_code 103) 90 = .ok (.invokevirtual 69, 3) := by decide +kernel
theorem dq_103_93 : decode (qx_code 103) 93 = .ok (.ifCond .eq 23, 3) := by decide +kernel
theorem dq_103_96 : decode (qx_code 103) 96 = .ok (.aload_n 0, 1) := by decide +kernel
theorem dq_103_97 : decode (qx_code 103) 97 = .ok (.iconst 2, 1) := by decide +kernel
theorem dq_103_98 : decode (qx_code 103) 98 = .ok (.iload 6, 2) := by decide +kernel
theorem dq_103_100 : decode (qx_code 103) 100 = .ok (.invokevirtual 101, 3) := by decide +kernel
theorem dq_103_103 : decode (qx_code 103) 103 = .ok (.aload_n 0, 1) := by decide +kernel
theorem dq_103_104 : decode (qx_code 103) 104 = .ok (.iconst 2, 1) := by decide +kernel
theorem dq_103_105 : decode (qx_code 103) 105 = .ok (.iload 6, 2) := by decide +kernel
theorem dq_103_107 : decode (qx_code 103) 107 = .ok (.invokevirtual 98, 3) := by decide +kernel
theorem dq_103_110 : decode (qx_code 103) 110 = .ok (.iinc 6 1, 3) := by decide +kernel
theorem dq_103_113 : decode (qx_code 103) 113 = .ok (.goto (-34), 3) := by decide +kernel
theorem dq_103_116 : decode (qx_code 103) 116 = .ok (.aload_n 0, 1) := by decide +kernel
theorem dq_103_117 : decode (qx_code 103) 117 = .ok (.getfield 26, 3) := by decide +kernel
theorem dq_103_120 : decode (qx_code 103) 120 = .ok (.lload_n 3, 1) := by decide +kernel
theorem dq_103_121 : decode (qx_code 103) 121 = .ok (.aload_n 0, 1) := by decide +kernel
theorem dq_103_122 : decode (qx_code 103) 122 = .ok (.getfield 26, 3) := by decide +kernel
theorem dq_103_125 : decode (qx_code 103) 125 = .ok (.getfield 52, 3) := by decide +kernel
theorem dq_103_128 : decode (qx_code 103) 128 = .ok (.iload_n 1, 1) := by decide +kernel
theorem dq_103_129 : decode (qx_code 103) 129 = .ok (.isub, 1) := by decide +kernel
theorem dq_103_130 : decode (qx_code 103) 130 = .ok (.i2l, 1) := by decide +kernel
theorem dq_103_131 : decode (qx_code 103) 131 = .ok (.lcmp, 1) := by decide +kernel
theorem dq_103_132 : decode (qx_code 103) 132 = .ok (.ifCond .ne 7, 3) := by decide +kernel
theorem dq_103_135 : decode (qx_code 103) 135 = .ok (.iconst 1, 1) := by decide +kernel
theorem dq_103_136 : decode (qx_code 103) 136 = .ok (.goto 4, 3) := by decide +kernel
theorem dq_103_139 : decode (qx_code 103) 139 = .ok (.iconst 0, 1) := by decide +kernel
theorem dq_103_140 : decode (qx_code 103) 140 = .ok (.bipush 10, 2) := by decide +kernel
theorem dq_103_142 : decode (qx_code 103) 142 = .ok (.iload_n 2, 1) := by decide +kernel
theorem dq_103_143 : decode (qx_code 103) 143 = .ok (.invokevirtual 35, 3) := by decide +kernel
theorem dq_103_146 : decode (qx_code 103) 146 = .ok (.return_, 1) := by decide +kernel
theorem fl_103_26 : qx_fld 103 26 = some (4, 2) := by decide +kernel
theorem fl_103_52 : qx_fld 103 52 = some (3, 2) := by decide +kernel
theorem mt_103_202 : qx_mth 103 202 = some (16, 2) := by decide +kernel
theorem mt_103_35 : qx_mth 103 35 = some (15, 3) := by decide +kernel
theorem mt_103_39 : qx_mth 103 39 = some (17, 0) := by decide +kernel
theorem mt_103_69 : qx_mth 103 69 = some (20, 0) := by decide +kernel
theorem mt_103_101 : qx_mth 103 101 = some (79, 2) := by decide +kernel
theorem mt_103_98 : qx_mth 103 98 = some (90, 2) := by decide +kernel
theorem dq_104_0 : decode (qx_code 104) 0 = .ok (.aload_n 0, 1) := by decide +kernel
theorem dq_104_1 : decode (qx_code 104) 1 = .ok (.getfield 26, 3) := by decide +kernel
theorem dq_104_4 : decode (qx_code 104) 4 = .ok (.aload_n 0, 1) := by decide +kernel
theorem dq_104_5 : decode (qx_code 104) 5 = .ok (.getfield 26, 3) := by decide +kernel
theorem dq_104_8 : decode (qx_code 104) 8 = .ok (.getfield 52, 3) := by decide +kernel
theorem dq_104_11 : decode (qx_code 104) 11 = .ok (.aload_n 0, 1) := by decide +kernel
theorem dq_104_12 : decode (qx_code 104) 12 = .ok (.getfield 26, 3) := by decide +kernel
theorem dq_104_15 : decode (qx_code 104) 15 = .ok (.getfield 212, 3) := by decide +kernel
theorem dq_104_18 : decode (qx_code 104) 18 = .ok (.if_icmp .ne 7, 3) := by decide +kernel
theorem dq_104_21 : decode (qx_code 104) 21 = .ok (.iconst 1, 1) := by decide +kernel
theorem dq_104_22 : decode (qx_code 104) 22 = .ok (.goto 4, 3) := by decide +kernel
theorem dq_104_25 : decode (qx_code 104) 25 = .ok (.iconst 0, 1) := by decide +kernel
theorem dq_104_26 : decode (qx_code 104) 26 = .ok (.bipush 11, 2) := by decide +kernel
theorem dq_104_28 : decode (qx_code 104) 28 = .ok (.aload_n 0, 1) := by decide +kernel
theorem dq_104_29 : decode (qx_code 104) 29 = .ok (.getfield 26, 3) := by decide +kernel
theorem dq_104_32 : decode (qx_code 104) 32 = .ok (.getfield 52, 3) := by decide +kernel
theorem dq_104_35 : decode (qx_code 104) 35 = .ok (.invokevirtual 35, 3) := by decide +kernel
theorem dq_104_38 : decode (qx_code 104) 38 = .ok (.return_, 1) := by decide +kernel
theorem fl_104_26 : qx_fld 104 26 = some (4, 2) := by decide +kernel
theorem fl_104_52 : qx_fld 104 52 = some (3, 2) := by decide +kernel
theorem fl_104_212 : qx_fld 104 212 = some (3, 1) := by decide +kernel
theorem mt_104_35 : qx_mth 104 35 = some (15, 3) := by decide +kernel
