theorem dq_2_0 : decode (qx_code 2) 0 = .ok (.aload_n 0, 1) := by decide +kernel
theorem dq_2_1 : decode (qx_code 2) 1 = .ok (.invokespecial 3, 3) := by decide +kernel
theorem dq_2_4 : decode (qx_code 2) 4 = .ok (.aload_n 0, 1) := by decide +kernel
theorem dq_2_5 : decode (qx_code 2) 5 = .ok (.new 9, 3) := by decide +kernel
theorem dq_2_8 : decode (qx_code 2) 8 = .ok (.dup, 1) := by decide +kernel
theorem dq_2_9 : decode (qx_code 2) 9 = .ok (.invokespecial 11, 3) := by decide +kernel
theorem dq_2_12 : decode (qx_code 2) 12 = .ok (.putfield 12, 3) := by decide +kernel
theorem dq_2_15 : decode (qx_code 2) 15 = .ok (.aload_n 0, 1) := by decide +kernel
theorem dq_2_16 : decode (qx_code 2) 16 = .ok (.bipush 64, 2) := by decide +kernel
theorem dq_2_18 : decode (qx_code 2) 18 = .ok (.newarray .int, 2) := by decide +kernel
theorem dq_2_20 : decode (qx_code 2) 20 = .ok (.putfield 18, 3) := by decide +kernel
theorem dq_2_23 : decode (qx_code 2) 23 = .ok (.aload_n 0, 1) := by decide +kernel
theorem dq_2_24 : decode (qx_code 2) 24 = .ok (.bipush 64, 2) := by decide +kernel
theorem dq_2_26 : decode (qx_code 2) 26 = .ok (.newarray .int, 2) := by decide +kernel
theorem dq_2_28 : decode (qx_code 2) 28 = .ok (.putfield 22, 3) := by decide +kernel
theorem dq_2_31 : decode (qx_code 2) 31 = .ok (.aload_n 0, 1) := by decide +kernel
theorem dq_2_32 : decode (qx_code 2) 32 = .ok (.bipush 64, 2) := by decide +kernel
theorem dq_2_34 : decode (qx_code 2) 34 = .ok (.newarray .int, 2) := by decide +kernel
theorem dq_2_36 : decode (qx_code 2) 36 = .ok (.putfield 25, 3) := by decide +kernel
theorem dq_2_39 : decode (qx_code 2) 39 = .ok (.aload_n 0, 1) := by decide +kernel
theorem dq_2_40 : decode (qx_code 2) 40 = .ok (.bipush 64, 2) := by decide +kernel
theorem dq_2_42 : decode (qx_code 2) 42 = .ok (.newarray .int, 2) := by decide +kernel
theorem dq_2_44 : decode (qx_code 2) 44 = .ok (.putfield 28, 3) := by decide +kernel
theorem dq_2_47 : decode (qx_code 2) 47 = .ok (.return_, 1) := by decide +kernel
theorem mt_2_11 : qx_mth 2 11 = some (3, 0) := by decide +kernel
theorem fl_2_12 : qx_fld 2 12 = some (2, 0) := by decide +kernel
theorem fp_2_12 : qx_fld 2 12 = some (2, 0) ∧ qx_pok 2 12 = true := by decide +kernel
theorem fl_2_18 : qx_fld 2 18 = some (2, 1) := by decide +kernel
theorem fp_2_18 : qx_fld 2 18 = some (2, 1) ∧ qx_pok 2 18 = true := by decide +kernel
theorem fl_2_22 : qx_fld 2 22 = some (2, 2) := by decide +kernel
theorem fp_2_22 : qx_fld 2 22 = some (2, 2) ∧ qx_pok 2 22 = true := by decide +kernel
theorem fl_2_25 : qx_fld 2 25 = some (2, 3) := by decide +kernel
theorem fp_2_25 : qx_fld 2 25 = some (2, 3) ∧ qx_pok 2 25 = true := by decide +kernel
theorem fl_2_28 : qx_fld 2 28 = some (2, 4) := by decide +kernel
theorem fp_2_28 : qx_fld 2 28 = some (2, 4) ∧ qx_pok 2 28 = true := by decide +kernel
theorem dq_1_0 : decode (qx_code 1) 0 = .ok (.aload_n 0, 1) := by decide +kernel
theorem dq_1_1 : decode (qx_code 1) 1 = .ok (.invokespecial 5, 3) := by decide +kernel
theorem dq_1_4 : decode (qx_code 1) 4 = .ok (.aload_n 0, 1) := by decide +kernel
theorem dq_1_5 : decode (qx_code 1) 5 = .ok (.new 11, 3) := by decide +kernel
theorem dq_1_8 : decode (qx_code 1) 8 = .ok (.dup, 1) := by decide +kernel
theorem dq_1_9 : decode (qx_code 1) 9 = .ok (.invokespecial 13, 3) := by decide +kernel
theorem dq_1_12 : decode (qx_code 1) 12 = .ok (.putfield 14, 3) := by decide +kernel
theorem dq_1_15 : decode (qx_code 1) 15 = .ok (.aload_n 0, 1) := by decide +kernel
theorem dq_1_16 : decode (qx_code 1) 16 = .ok (.aload_n 0, 1) := by decide +kernel
theorem dq_1_17 : decode (qx_code 1) 17 = .ok (.getfield 14, 3) := by decide +kernel
theorem dq_1_20 : decode (qx_code 1) 20 = .ok (.getfield 18, 3) := by decide +kernel
theorem dq_1_23 : decode (qx_code 1) 23 = .ok (.putfield 22, 3) := by decide +kernel
theorem dq_1_26 : decode (qx_code 1) 26 = .ok (.aload_n 0, 1) := by decide +kernel
theorem dq_1_27 : decode (qx_code 1) 27 = .ok (.iconst 0, 1) := by decide +kernel
theorem dq_1_28 : decode (qx_code 1) 28 = .ok (.putfield 23, 3) := by decide +kernel
theorem dq_1_31 : decode (qx_code 1) 31 = .ok (.aload_n 0, 1) := by decide +kernel
theorem dq_1_32 : decode (qx_code 1) 32 = .ok (.iconst 4, 1) := by decide +kernel
theorem dq_1_33 : decode (qx_code 1) 33 = .ok (.newarray .int, 2) := by decide +kernel
theorem dq_1_35 : decode (qx_code 1) 35 = .ok (.putfield 27, 3) := by decide +kernel
theorem dq_1_38 : decode (qx_code 1) 38 = .ok (.aload_n 0, 1) := by decide +kernel
theorem dq_1_39 : decode (qx_code 1) 39 = .ok (.bipush 49, 2) := by decide +kernel
theorem dq_1_41 : decode (qx_code 1) 41 = .ok (.newarray .int, 2) := by decide +kernel
theorem dq_1_43 : decode (qx_code 1) 43 = .ok (.putfield 31, 3) := by decide +kernel
theorem dq_1_46 : decode (qx_code 1) 46 = .ok (.aload_n 0, 1) := by decide +kernel
theorem dq_1_47 : decode (qx_code 1) 47 = .ok (.sipush 441, 3) := by decide +kernel
theorem dq_1_50 : decode (qx_code 1) 50 = .ok (.newarray .int, 2) := by decide +kernel
theorem dq_1_52 : decode (qx_code 1) 52 = .ok (.putfield 36, 3) := by decide +kernel
theorem dq_1_55 : decode (qx_code 1) 55 = .ok (.return_, 1) := by decide +kernel
theorem mt_1_13 : qx_mth 1 13 = some (2, 0) := by decide +kernel
theorem fl_1_14 : qx_fld 1 14 = some (1, 0) := by decide +kernel
theorem fp_1_14 : qx_fld 1 14 = some (1, 0) ∧ qx_pok 1 14 = true := by decide +kernel
theorem fl_1_18 : qx_fld 1 18 = some (2, 0) := by decide +kernel
theorem fl_1_22 : qx_fld 1 22 = some (1, 1) := by decide +kernel
theorem fp_1_22 : qx_fld 1 22 = some (1, 1) ∧ qx_pok 1 22 = true := by decide +kernel
theorem fl_1_23 : qx_fld 1 23 = some (1, 2) := by decide +kernel
theorem fp_1_23 : qx_fld 1 23 = some (1, 2) ∧ qx_pok 1 23 = true := by decide +kernel
theorem fl_1_27 : qx_fld 1 27 = some (1, 3) := by decide +kernel
theorem fp_1_27 : qx_fld 1 27 = some (1, 3) ∧ qx_pok 1 27 = true := by decide +kernel
theorem fl_1_31 : qx_fld 1 31 = some (1, 4) := by decide +kernel
theorem fp_1_31 : qx_fld 1 31 = some (1, 4) ∧ qx_pok 1 31 = true := by decide +kernel
theorem fl_1_36 : qx_fld 1 36 = some (1, 5) := by decide +kernel
theorem fp_1_36 : qx_fld 1 36 = some (1, 5) ∧ qx_pok 1 36 = true := by decide +kernel
theorem dq_0_0 : decode (qx_code 0) 0 = .ok (.aload_n 0, 1) := by decide +kernel
theorem dq_0_1 : decode (qx_code 0) 1 = .ok (.invokespecial 1, 3) := by decide +kernel
theorem dq_0_4 : decode (qx_code 0) 4 = .ok (.aload_n 0, 1) := by decide +kernel
theorem dq_0_5 : decode (qx_code 0) 5 = .ok (.sipush 480, 3) := by decide +kernel
theorem dq_0_8 : decode (qx_code 0) 8 = .ok (.newarray .byte, 2) := by decide +kernel
theorem dq_0_10 : decode (qx_code 0) 10 = .ok (.putfield 9, 3) := by decide +kernel
theorem dq_0_13 : decode (qx_code 0) 13 = .ok (.aload_n 0, 1) := by decide +kernel
theorem dq_0_14 : decode (qx_code 0) 14 = .ok (.iconst 0, 1) := by decide +kernel
theorem dq_0_15 : decode (qx_code 0) 15 = .ok (.putfield 13, 3) := by decide +kernel
theorem dq_0_18 : decode (qx_code 0) 18 = .ok (.aload_n 0, 1) := by decide +kernel
theorem dq_0_19 : decode (qx_code 0) 19 = .ok (.iconst (-1), 1) := by decide +kernel
theorem dq_0_20 : decode (qx_code 0) 20 = .ok (.putfield 17, 3) := by decide +kernel
theorem dq_0_23 : decode (qx_code 0) 23 = .ok (.aload_n 0, 1) := by decide +kernel
theorem dq_0_24 : decode (qx_code 0) 24 = .ok (.aconst_null, 1) := by decide +kernel
theorem dq_0_25 : decode (qx_code 0) 25 = .ok (.putfield 20, 3) := by decide +kernel
theorem dq_0_28 : decode (qx_code 0) 28 = .ok (.aload_n 0, 1) := by decide +kernel
theorem dq_0_29 : decode (qx_code 0) 29 = .ok (.new 24, 3) := by decide +kernel
theorem dq_0_32 : decode (qx_code 0) 32 = .ok (.dup, 1) := by decide +kernel
theorem dq_0_33 : decode (qx_code 0) 33 = .ok (.invokespecial 26, 3) := by decide +kernel
theorem dq_0_36 : decode (qx_code 0) 36 = .ok (.putfield 27, 3) := by decide +kernel
theorem dq_0_39 : decode (qx_code 0) 39 = .ok (.return_, 1) := by decide +kernel
theorem fl_0_9 : qx_fld 0 9 = some (0, 0) := by decide +kernel
theorem fp_0_9 : qx_fld 0 9 = some (0, 0) ∧ qx_pok 0 9 = true := by decide +kernel
theorem fl_0_13 : qx_fld 0 13 = some (0, 1) := by decide +kernel
theorem fp_0_13 : qx_fld 0 13 = some (0, 1) ∧ qx_pok 0 13 = true := by decide +kernel
theorem fl_0_17 : qx_fld 0 17 = some (0, 2) := by decide +kernel
theorem fp_0_17 : qx_fld 0 17 = some (0, 2) ∧ qx_pok 0 17 = true := by decide +kernel
theorem fl_0_20 : qx_fld 0 20 = some (0, 3) := by decide +kernel
theorem fp_0_20 : qx_fld 0 20 = some (0, 3) ∧ qx_pok 0 20 = true := by decide +kernel
theorem mt_0_26 : qx_mth 0 26 = some (1, 0) := by decide +kernel
theorem fl_0_27 : qx_fld 0 27 = some (0, 4) := by decide +kernel
theorem fp_0_27 : qx_fld 0 27 = some (0, 4) ∧ qx_pok 0 27 = true := by decide +kernel
theorem dq_105_0 : decode (qx_code 105) 0 = .ok (.aload_n 0, 1) := by decide +kernel
theorem dq_105_1 : decode (qx_code 105) 1 = .ok (.getfield 20, 3) := by decide +kernel
theorem dq_105_4 : decode (qx_code 105) 4 = .ok (.astore_n 1, 1) := by decide +kernel
theorem dq_105_5 : decode (qx_code 105) 5 = .ok (.aload_n 0, 1) := by decide +kernel
theorem dq_105_6 : decode (qx_code 105) 6 = .ok (.aload_n 0, 1) := by decide +kernel
theorem dq_105_7 : decode (qx_code 105) 7 = .ok (.getfield 27, 3) := by decide +kernel
theorem dq_105_10 : decode (qx_code 105) 10 = .ok (.putfield 20, 3) := by decide +kernel
theorem dq_105_13 : decode (qx_code 105) 13 = .ok (.aload_n 0, 1) := by decide +kernel
theorem dq_105_14 : decode (qx_code 105) 14 = .ok (.aload_n 1, 1) := by decide +kernel
theorem dq_105_15 : decode (qx_code 105) 15 = .ok (.ifnonnull 13, 3) := by decide +kernel
theorem dq_105_18 : decode (qx_code 105) 18 = .ok (.new 24, 3) := by decide +kernel
theorem dq_105_21 : decode (qx_code 105) 21 = .ok (.dup, 1) := by decide +kernel
theorem dq_105_22 : decode (qx_code 105) 22 = .ok (.invokespecial 26, 3) := by decide +kernel
theorem dq_105_25 : decode (qx_code 105) 25 = .ok (.goto 4, 3) := by decide +kernel
theorem dq_105_28 : decode (qx_code 105) 28 = .ok (.aload_n 1, 1) := by decide +kernel
theorem dq_105_29 : decode (qx_code 105) 29 = .ok (.putfield 27, 3) := by decide +kernel
theorem dq_105_32 : decode (qx_code 105) 32 = .ok (.return_, 1) := by decide +kernel
theorem fl_105_20 : qx_fld 105 20 = some (0, 3) := by decide +kernel
theorem fl_105_27 : qx_fld 105 27 = some (0, 4) := by decide +kernel
theorem fp_105_20 : qx_fld 105 20 = some (0, 3) ∧ qx_pok 105 20 = true := by decide +kernel
theorem mt_105_26 : qx_mth 105 26 = some (1, 0) := by decide +kernel
theorem fp_105_27 : qx_fld 105 27 = some (0, 4) ∧ qx_pok 105 27 = true := by decide +kernel
theorem dq_4_0 : decode (qx_code 4) 0 = .ok (.iload_n 3, 1) := by decide +kernel
theorem dq_4_1 : decode (qx_code 4) 1 = .ok (.iconst 1, 1) := by decide +kernel
theorem dq_4_2 : decode (qx_code 4) 2 = .ok (.if_icmp .lt 21, 3) := by decide +kernel
theorem dq_4_5 : decode (qx_code 4) 5 = .ok (.iload_n 3, 1) := by decide +kernel
theorem dq_4_6 : decode (qx_code 4) 6 = .ok (.bipush 8, 2) := by decide +kernel
theorem dq_4_8 : decode (qx_code 4) 8 = .ok (.if_icmp .gt 15, 3) := by decide +kernel
theorem dq_4_11 : decode (qx_code 4) 11 = .ok (.aload_n 0, 1) := by decide +kernel
theorem dq_4_12 : decode (qx_code 4) 12 = .ok (.getfield 13, 3) := by decide +kernel
theorem dq_4_15 : decode (qx_code 4) 15 = .ok (.iload_n 3, 1) := by decide +kernel
theorem dq_4_16 : decode (qx_code 4) 16 = .ok (.iadd, 1) := by decide +kernel
theorem dq_4_17 : decode (qx_code 4) 17 = .ok (.sipush 480, 3) := by decide +kernel
theorem dq_4_20 : decode (qx_code 4) 20 = .ok (.if_icmp .le 5, 3) := by decide +kernel
theorem dq_4_23 : decode (qx_code 4) 23 = .ok (.iconst (-1), 1) := by decide +kernel
theorem dq_4_24 : decode (qx_code 4) 24 = .ok (.ireturn, 1) := by decide +kernel
theorem dq_4_25 : decode (qx_code 4) 25 = .ok (.iconst 0, 1) := by decide +kernel
theorem dq_4_26 : decode (qx_code 4) 26 = .ok (.istore 4, 2) := by decide +kernel
theorem dq_4_28 : decode (qx_code 4) 28 = .ok (.iload 4, 2) := by decide +kernel
theorem dq_4_30 : decode (qx_code 4) 30 = .ok (.iload_n 3, 1) := by decide +kernel
theorem dq_4_31 : decode (qx_code 4) 31 = .ok (.if_icmp .ge 34, 3) := by decide +kernel
theorem dq_4_34 : decode (qx_code 4) 34 = .ok (.aload_n 0, 1) := by decide +kernel
theorem dq_4_35 : decode (qx_code 4) 35 = .ok (.getfield 9, 3) := by decide +kernel
theorem dq_4_38 : decode (qx_code 4) 38 = .ok (.aload_n 0, 1) := by decide +kernel
theorem dq_4_39 : decode (qx_code 4) 39 = .ok (.getfield 13, 3) := by decide +kernel
theorem dq_4_42 : decode (qx_code 4) 42 = .ok (.iload 4, 2) := by decide +kernel
theorem dq_4_44 : decode (qx_code 4) 44 = .ok (.iadd, 1) := by decide +kernel
theorem dq_4_45 : decode (qx_code 4) 45 = .ok (.lload_n 1, 1) := by decide +kernel
theorem dq_4_46 : decode (qx_code 4) 46 = .ok (.bipush 8, 2) := by decide +kernel
theorem dq_4_48 : decode (qx_code 4) 48 = .ok (.iload_n 3, 1) := by decide +kernel
theorem dq_4_49 : decode (qx_code 4) 49 = .ok (.iconst 1, 1) := by decide +kernel
theorem dq_4_50 : decode (qx_code 4) 50 = .ok (.isub, 1) := by decide +kernel
theorem dq_4_51 : decode (qx_code 4) 51 = .ok (.iload 4, 2) := by decide +kernel
theorem dq_4_53 : decode (qx_code 4) 53 = .ok (.isub, 1) := by decide +kernel
theorem dq_4_54 : decode (qx_code 4) 54 = .ok (.imul, 1) := by decide +kernel
theorem dq_4_55 : decode (qx_code 4) 55 = .ok (.lshr, 1) := by decide +kernel
theorem dq_4_56 : decode (qx_code 4) 56 = .ok (.l2i, 1) := by decide +kernel
theorem dq_4_57 : decode (qx_code 4) 57 = .ok (.i2b, 1) := by decide +kernel
theorem dq_4_58 : decode (qx_code 4) 58 = .ok (.bastore, 1) := by decide +kernel
theorem dq_4_59 : decode (qx_code 4) 59 = .ok (.iinc 4 1, 3) := by decide +kernel
theorem dq_4_62 : decode (qx_code 4) 62 = .ok (.goto (-34), 3) := by decide +kernel
theorem dq_4_65 : decode (qx_code 4) 65 = .ok (.aload_n 0, 1) := by decide +kernel
theorem dq_4_66 : decode (qx_code 4) 66 = .ok (.dup, 1) := by decide +kernel
theorem dq_4_67 : decode (qx_code 4) 67 = .ok (.getfield 13, 3) := by decide +kernel
theorem dq_4_70 : decode (qx_code 4) 70 = .ok (.iload_n 3, 1) := by decide +kernel
theorem dq_4_71 : decode (qx_code 4) 71 = .ok (.iadd, 1) := by decide +kernel
theorem dq_4_72 : decode (qx_code 4) 72 = .ok (.putfield 13, 3) := by decide +kernel
theorem dq_4_75 : decode (qx_code 4) 75 = .ok (.aload_n 0, 1) := by decide +kernel
theorem dq_4_76 : decode (qx_code 4) 76 = .ok (.getfield 13, 3) := by decide +kernel
theorem dq_4_79 : decode (qx_code 4) 79 = .ok (.ireturn, 1) := by decide +kernel
theorem fl_4_13 : qx_fld 4 13 = some (0, 1) := by decide +kernel
theorem fl_4_9 : qx_fld 4 9 = some (0, 0) := by decide +kernel
theorem fp_4_13 : qx_fld 4 13 = some (0, 1) ∧ qx_pok 4 13 = true := by decide +kernel
theorem dq_5_0 : decode (qx_code 5) 0 = .ok (.iload_n 1, 1) := by decide +kernel
theorem dq_5_1 : decode (qx_code 5) 1 = .ok (.ifCond .lt 22, 3) := by decide +kernel
theorem dq_5_4 : decode (qx_code 5) 4 = .ok (.iload_n 1, 1) := by decide +kernel
theorem dq_5_5 : decode (qx_code 5) 5 = .ok (.aload_n 0, 1) := by decide +kernel
theorem dq_5_6 : decode (qx_code 5) 6 = .ok (.getfield 13, 3) := by decide +kernel
theorem dq_5_9 : decode (qx_code 5) 9 = .ok (.if_icmp .ge 14, 3) := by decide +kernel
theorem dq_5_12 : decode (qx_code 5) 12 = .ok (.iload_n 2, 1) := by decide +kernel
theorem dq_5_13 : decode (qx_code 5) 13 = .ok (.ifCond .lt 10, 3) := by decide +kernel
theorem dq_5_16 : decode (qx_code 5) 16 = .ok (.iload_n 2, 1) := by decide +kernel
theorem dq_5_17 : decode (qx_code 5) 17 = .ok (.sipush 255, 3) := by decide +kernel
theorem dq_5_20 : decode (qx_code 5) 20 = .ok (.if_icmp .le 5, 3) := by decide +kernel
theorem dq_5_23 : decode (qx_code 5) 23 = .ok (.iconst (-1), 1) := by decide +kernel
theorem dq_5_24 : decode (qx_code 5) 24 = .ok (.ireturn, 1) := by decide +kernel
theorem dq_5_25 : decode (qx_code 5) 25 = .ok (.aload_n 0, 1) := by decide +kernel
theorem dq_5_26 : decode (qx_code 5) 26 = .ok (.getfield 9, 3) := by decide +kernel
theorem dq_5_29 : decode (qx_code 5) 29 = .ok (.iload_n 1, 1) := by decide +kernel
theorem dq_5_30 : decode (qx_code 5) 30 = .ok (.baload, 1) := by decide +kernel
theorem dq_5_31 : decode (qx_code 5) 31 = .ok (.sipush 255, 3) := by decide +kernel
theorem dq_5_34 : decode (qx_code 5) 34 = .ok (.iand, 1) := by decide +kernel
theorem dq_5_35 : decode (qx_code 5) 35 = .ok (.istore_n 3, 1) := by decide +kernel
theorem dq_5_36 : decode (qx_code 5) 36 = .ok (.aload_n 0, 1) := by decide +kernel
theorem dq_5_37 : decode (qx_code 5) 37 = .ok (.getfield 9, 3) := by decide +kernel
theorem dq_5_40 : decode (qx_code 5) 40 = .ok (.iload_n 1, 1) := by decide +kernel
theorem dq_5_41 : decode (qx_code 5) 41 = .ok (.iload_n 2, 1) := by decide +kernel
theorem dq_5_42 : decode (qx_code 5) 42 = .ok (.i2b, 1) := by decide +kernel
theorem dq_5_43 : decode (qx_code 5) 43 = .ok (.bastore, 1) := by decide +kernel
theorem dq_5_44 : decode (qx_code 5) 44 = .ok (.iload_n 3, 1) := by decide +kernel
theorem dq_5_45 : decode (qx_code 5) 45 = .ok (.ireturn, 1) := by decide +kernel
theorem fl_5_13 : qx_fld 5 13 = some (0, 1) := by decide +kernel
theorem fl_5_9 : qx_fld 5 9 = some (0, 0) := by decide +kernel
theorem dq_6_0 : decode (qx_code 6) 0 = .ok (.aload_n 0, 1) := by decide +kernel
theorem dq_6_1 : decode (qx_code 6) 1 = .ok (.getfield 13, 3) := by decide +kernel
theorem dq_6_4 : decode (qx_code 6) 4 = .ok (.istore_n 1, 1) := by decide +kernel
theorem dq_6_5 : decode (qx_code 6) 5 = .ok (.aload_n 0, 1) := by decide +kernel
theorem dq_6_6 : decode (qx_code 6) 6 = .ok (.iconst 0, 1) := by decide +kernel
theorem dq_6_7 : decode (qx_code 6) 7 = .ok (.putfield 13, 3) := by decide +kernel
theorem dq_6_10 : decode (qx_code 6) 10 = .ok (.iload_n 1, 1) := by decide +kernel
theorem dq_6_11 : decode (qx_code 6) 11 = .ok (.ireturn, 1) := by decide +kernel
theorem fl_6_13 : qx_fld 6 13 = some (0, 1) := by decide +kernel
theorem fp_6_13 : qx_fld 6 13 = some (0, 1) ∧ qx_pok 6 13 = true := by decide +kernel
theorem dq_7_0 : decode (qx_code 7) 0 = .ok (.aload_n 0, 1) := by decide +kernel
theorem dq_7_1 : decode (qx_code 7) 1 = .ok (.getfield 27, 3) := by decide +kernel
theorem dq_7_4 : decode (qx_code 7) 4 = .ok (.getfield 30, 3) := by decide +kernel
theorem dq_7_7 : decode (qx_code 7) 7 = .ok (.astore_n 1, 1) := by decide +kernel
theorem dq_7_8 : decode (qx_code 7) 8 = .ok (.new 34, 3) := by decide +kernel
theorem dq_7_11 : decode (qx_code 7) 11 = .ok (.dup, 1) := by decide +kernel
theorem dq_7_12 : decode (qx_code 7) 12 = .ok (.aload_n 0, 1) := by decide +kernel
theorem dq_7_13 : decode (qx_code 7) 13 = .ok (.getfield 27, 3) := by decide +kernel
theorem dq_7_16 : decode (qx_code 7) 16 = .ok (.invokespecial 36, 3) := by decide +kernel
theorem dq_7_19 : decode (qx_code 7) 19 = .ok (.astore_n 2, 1) := by decide +kernel
theorem dq_7_20 : decode (qx_code 7) 20 = .ok (.aload_n 1, 1) := by decide +kernel
theorem dq_7_21 : decode (qx_code 7) 21 = .ok (.aload_n 0, 1) := by decide +kernel
theorem dq_7_22 : decode (qx_code 7) 22 = .ok (.getfield 9, 3) := by decide +kernel
theorem dq_7_25 : decode (qx_code 7) 25 = .ok (.aload_n 0, 1) := by decide +kernel
theorem dq_7_26 : decode (qx_code 7) 26 = .ok (.getfield 13, 3) := by decide +kernel
theorem dq_7_29 : decode (qx_code 7) 29 = .ok (.invokevirtual 39, 3) := by decide +kernel
theorem dq_7_32 : decode (qx_code 7) 32 = .ok (.aload_n 0, 1) := by decide +kernel
theorem dq_7_33 : decode (qx_code 7) 33 = .ok (.getfield 27, 3) := by decide +kernel
theorem dq_7_36 : decode (qx_code 7) 36 = .ok (.invokevirtual 45, 3) := by decide +kernel
theorem dq_7_39 : decode (qx_code 7) 39 = .ok (.aload_n 2, 1) := by decide +kernel
theorem dq_7_40 : decode (qx_code 7) 40 = .ok (.invokevirtual 48, 3) := by decide +kernel
theorem dq_7_43 : decode (qx_code 7) 43 = .ok (.aload_n 2, 1) := by decide +kernel
theorem dq_7_44 : decode (qx_code 7) 44 = .ok (.invokevirtual 51, 3) := by decide +kernel
theorem dq_7_47 : decode (qx_code 7) 47 = .ok (.aload_n 2, 1) := by decide +kernel
theorem dq_7_48 : decode (qx_code 7) 48 = .ok (.invokevirtual 54, 3) := by decide +kernel
theorem dq_7_51 : decode (qx_code 7) 51 = .ok (.aload_n 2, 1) := by decide +kernel
theorem dq_7_52 : decode (qx_code 7) 52 = .ok (.iconst 0, 1) := by decide +kernel
theorem dq_7_53 : decode (qx_code 7) 53 = .ok (.invokevirtual 57, 3) := by decide +kernel
theorem dq_7_56 : decode (qx_code 7) 56 = .ok (.aload_n 2, 1) := by decide +kernel
theorem dq_7_57 : decode (qx_code 7) 57 = .ok (.iconst 1, 1) := by decide +kernel
theorem dq_7_58 : decode (qx_code 7) 58 = .ok (.invokevirtual 57, 3) := by decide +kernel
theorem dq_7_61 : decode (qx_code 7) 61 = .ok (.aload_n 2, 1) := by decide +kernel
theorem dq_7_62 : decode (qx_code 7) 62 = .ok (.invokevirtual 61, 3) := by decide +kernel
theorem dq_7_65 : decode (qx_code 7) 65 = .ok (.aload_n 2, 1) := by decide +kernel
theorem dq_7_66 : decode (qx_code 7) 66 = .ok (.invokevirtual 64, 3) := by decide +kernel
theorem dq_7_69 : decode (qx_code 7) 69 = .ok (.aload_n 0, 1) := by decide +kernel
theorem dq_7_70 : decode (qx_code 7) 70 = .ok (.aload_n 1, 1) := by decide +kernel
theorem dq_7_71 : decode (qx_code 7) 71 = .ok (.getfield 67, 3) := by decide +kernel
theorem dq_7_74 : decode (qx_code 7) 74 = .ok (.putfield 17, 3) := by decide +kernel
theorem dq_7_77 : decode (qx_code 7) 77 = .ok (.aload_n 1, 1) := by decide +kernel
theorem dq_7_78 : decode (qx_code 7) 78 = .ok (.invokevirtual 68, 3) := by decide +kernel
theorem dq_7_81 : decode (qx_code 7) 81 = .ok (.ifCond .eq 7, 3) := by decide +kernel
theorem dq_7_84 : decode (qx_code 7) 84 = .ok (.aload_n 0, 1) := by decide +kernel
theorem dq_7_85 : decode (qx_code 7) 85 = .ok (.invokevirtual 72, 3) := by decide +kernel
theorem dq_7_88 : decode (qx_code 7) 88 = .ok (.aload_n 1, 1) := by decide +kernel
theorem dq_7_89 : decode (qx_code 7) 89 = .ok (.getfield 75, 3) := by decide +kernel
theorem dq_7_92 : decode (qx_code 7) 92 = .ok (.ireturn, 1) := by decide +kernel
theorem fl_7_27 : qx_fld 7 27 = some (0, 4) := by decide +kernel
theorem fl_7_30 : qx_fld 7 30 = some (1, 1) := by decide +kernel
theorem mt_7_36 : qx_mth 7 36 = some (8, 1) := by decide +kernel
theorem fl_7_9 : qx_fld 7 9 = some (0, 0) := by decide +kernel
theorem fl_7_13 : qx_fld 7 13 = some (0, 1) := by decide +kernel
theorem mt_7_39 : qx_mth 7 39 = some (9, 2) := by decide +kernel
theorem mt_7_45 : qx_mth 7 45 = some (10, 0) := by decide +kernel
theorem mt_7_48 : qx_mth 7 48 = some (13, 0) := by decide +kernel
theorem mt_7_51 : qx_mth 7 51 = some (18, 0) := by decide +kernel
theorem mt_7_54 : qx_mth 7 54 = some (64, 0) := by decide +kernel
theorem mt_7_57 : qx_mth 7 57 = some (77, 1) := by decide +kernel
theorem mt_7_61 : qx_mth 7 61 = some (102, 0) := by decide +kernel
theorem mt_7_64 : qx_mth 7 64 = some (104, 0) := by decide +kernel
theorem fl_7_67 : qx_fld 7 67 = some (3, 4) := by decide +kernel
theorem fl_7_17 : qx_fld 7 17 = some (0, 2) := by decide +kernel
theorem fp_7_17 : qx_fld 7 17 = some (0, 2) ∧ qx_pok 7 17 = true := by decide +kernel
theorem mt_7_68 : qx_mth 7 68 = some (20, 0) := by decide +kernel
theorem mt_7_72 : qx_mth 7 72 = some (105, 0) := by decide +kernel
theorem fl_7_75 : qx_fld 7 75 = some (3, 3) := by decide +kernel
theorem dq_106_0 : decode (qx_code 106) 0 = .ok (.aload_n 0, 1) := by decide +kernel
theorem dq_106_1 : decode (qx_code 106) 1 = .ok (.getfield 17, 3) := by decide +kernel
theorem dq_106_4 : decode (qx_code 106) 4 = .ok (.ireturn, 1) := by decide +kernel
theorem fl_106_17 : qx_fld 106 17 = some (0, 2) := by decide +kernel
theorem dq_107_0 : decode (qx_code 107) 0 = .ok (.aload_n 0, 1) := by decide +kernel
theorem dq_107_1 : decode (qx_code 107) 1 = .ok (.getfield 20, 3) := by decide +kernel
theorem dq_107_4 : decode (qx_code 107) 4 = .ok (.ifnonnull 7, 3) := by decide +kernel
theorem dq_107_7 : decode (qx_code 107) 7 = .ok (.iconst (-1), 1) := by decide +kernel
theorem dq_107_8 : decode (qx_code 107) 8 = .ok (.goto 11, 3) := by decide +kernel
theorem dq_107_11 : decode (qx_code 107) 11 = .ok (.aload_n 0, 1) := by decide +kernel
theorem dq_107_12 : decode (qx_code 107) 12 = .ok (.getfield 20, 3) := by decide +kernel
theorem dq_107_15 : decode (qx_code 107) 15 = .ok (.iload_n 1, 1) := by decide +kernel
theorem dq_107_16 : decode (qx_code 107) 16 = .ok (.invokevirtual 78, 3) := by decide +kernel
theorem dq_107_19 : decode (qx_code 107) 19 = .ok (.ireturn, 1) := by decide +kernel
theorem fl_107_20 : qx_fld 107 20 = some (0, 3) := by decide +kernel
theorem mt_107_78 : qx_mth 107 78 = some (108, 1) := by decide +kernel
theorem dq_111_0 : decode (qx_code 111) 0 = .ok (.aload_n 0, 1) := by decide +kernel
theorem dq_111_1 : decode (qx_code 111) 1 = .ok (.getfield 20, 3) := by decide +kernel
theorem dq_111_4 : decode (qx_code 111) 4 = .ok (.ifnonnull 7, 3) := by decide +kernel
theorem dq_111_7 : decode (qx_code 111) 7 = .ok (.iconst (-1), 1) := by decide +kernel
theorem dq_111_8 : decode (qx_code 111) 8 = .ok (.goto 12, 3) := by decide +kernel
theorem dq_111_11 : decode (qx_code 111) 11 = .ok (.aload_n 0, 1) := by decide +kernel
theorem dq_111_12 : decode (qx_code 111) 12 = .ok (.getfield 20, 3) := by decide +kernel
theorem dq_111_15 : decode (qx_code 111) 15 = .ok (.iload_n 1, 1) := by decide +kernel
theorem dq_111_16 : decode (qx_code 111) 16 = .ok (.iload_n 2, 1) := by decide +kernel
theorem dq_111_17 : decode (qx_code 111) 17 = .ok (.invokevirtual 82, 3) := by decide +kernel
theorem dq_111_20 : decode (qx_code 111) 20 = .ok (.ireturn, 1) := by decide +kernel
theorem fl_111_20 : qx_fld 111 20 = some (0, 3) := by decide +kernel
theorem mt_111_82 : qx_mth 111 82 = some (112, 2) := by decide +kernel
theorem dq_114_0 : decode (qx_code 114) 0 = .ok (.aload_n 0, 1) := by decide +kernel
theorem dq_114_1 : decode (qx_code 114) 1 = .ok (.getfield 20, 3) := by decide +kernel
theorem dq_114_4 : decode (qx_code 114) 4 = .ok (.ifnonnull 7, 3) := by decide +kernel
theorem dq_114_7 : decode (qx_code 114) 7 = .ok (.iconst (-1), 1) := by decide +kernel
theorem dq_114_8 : decode (qx_code 114) 8 = .ok (.goto 23, 3) := by decide +kernel
theorem dq_114_11 : decode (qx_code 114) 11 = .ok (.aload_n 0, 1) := by decide +kernel
theorem dq_114_12 : decode (qx_code 114) 12 = .ok (.getfield 20, 3) := by decide +kernel
theorem dq_114_15 : decode (qx_code 114) 15 = .ok (.getfield 86, 3) := by decide +kernel
theorem dq_114_18 : decode (qx_code 114) 18 = .ok (.aload_n 0, 1) := by decide +kernel
theorem dq_114_19 : decode (qx_code 114) 19 = .ok (.getfield 20, 3) := by decide +kernel
theorem dq_114_22 : decode (qx_code 114) 22 = .ok (.iload_n 1, 1) := by decide +kernel
theorem dq_114_23 : decode (qx_code 114) 23 = .ok (.iload_n 2, 1) := by decide +kernel
theorem dq_114_24 : decode (qx_code 114) 24 = .ok (.invokevirtual 90, 3) := by decide +kernel
theorem dq_114_27 : decode (qx_code 114) 27 = .ok (.iload_n 3, 1) := by decide +kernel
theorem dq_114_28 : decode (qx_code 114) 28 = .ok (.invokevirtual 93, 3) := by decide +kernel
theorem dq_114_31 : decode (qx_code 114) 31 = .ok (.ireturn, 1) := by decide +kernel
theorem fl_114_20 : qx_fld 114 20 = some (0, 3) := by decide +kernel
theorem fl_114_86 : qx_fld 114 86 = some (1, 0) := by decide +kernel
theorem mt_114_90 : qx_mth 114 90 = some (115, 2) := by decide +kernel
theorem mt_114_93 : qx_mth 114 93 = some (101, 2) := by decide +kernel
theorem dq_117_0 : decode (qx_code 117) 0 = .ok (.aload_n 0, 1) := by decide +kernel
theorem dq_117_1 : decode (qx_code 117) 1 = .ok (.getfield 20, 3) := by decide +kernel
theorem dq_117_4 : decode (qx_code 117) 4 = .ok (.ifnull 15, 3) := by decide +kernel
theorem dq_117_7 : decode (qx_code 117) 7 = .ok (.aload_n 0, 1) := by decide +kernel
theorem dq_117_8 : decode (qx_code 117) 8 = .ok (.getfield 20, 3) := by decide +kernel
theorem dq_117_11 : decode (qx_code 117) 11 = .ok (.iconst 1, 1) := by decide +kernel
theorem dq_117_12 : decode (qx_code 117) 12 = .ok (.iload_n 1, 1) := by decide +kernel
theorem dq_117_13 : decode (qx_code 117) 13 = .ok (.invokevirtual 98, 3) := by decide +kernel
theorem dq_117_16 : decode (qx_code 117) 16 = .ok (.ifCond .ne 5, 3) := by decide +kernel
theorem dq_117_19 : decode (qx_code 117) 19 = .ok (.iconst (-1), 1) := by decide +kernel
theorem dq_117_20 : decode (qx_code 117) 20 = .ok (.ireturn, 1) := by decide +kernel
theorem dq_117_21 : decode (qx_code 117) 21 = .ok (.aload_n 0, 1) := by decide +kernel
theorem dq_117_22 : decode (qx_code 117) 22 = .ok (.getfield 20, 3) := by decide +kernel
theorem dq_117_25 : decode (qx_code 117) 25 = .ok (.iconst 1, 1) := by decide +kernel
theorem dq_117_26 : decode (qx_code 117) 26 = .ok (.iload_n 1, 1) := by decide +kernel
theorem dq_117_27 : decode (qx_code 117) 27 = .ok (.getstatic 102, 3) := by decide +kernel
theorem dq_117_30 : decode (qx_code 117) 30 = .ok (.invokevirtual 108, 3) := by decide +kernel
theorem dq_117_33 : decode (qx_code 117) 33 = .ok (.ireturn, 1) := by decide +kernel
theorem fl_117_20 : qx_fld 117 20 = some (0, 3) := by decide +kernel
theorem mt_117_98 : qx_mth 117 98 = some (87, 2) := by decide +kernel
theorem mt_117_108 : qx_mth 117 108 = some (109, 3) := by decide +kernel
theorem dq_118_0 : decode (qx_code 118) 0 = .ok (.aload_n 0, 1) := by decide +kernel
theorem dq_118_1 : decode (qx_code 118) 1 = .ok (.getfield 20, 3) := by decide +kernel
theorem dq_118_4 : decode (qx_code 118) 4 = .ok (.ifnonnull 5, 3) := by decide +kernel
theorem dq_118_7 : decode (qx_code 118) 7 = .ok (.iconst (-1), 1) := by decide +kernel
theorem dq_118_8 : decode (qx_code 118) 8 = .ok (.ireturn, 1) := by decide +kernel
theorem dq_118_9 : decode (qx_code 118) 9 = .ok (.aload_n 0, 1) := by decide +kernel
theorem dq_118_10 : decode (qx_code 118) 10 = .ok (.getfield 20, 3) := by decide +kernel
theorem dq_118_13 : decode (qx_code 118) 13 = .ok (.iconst 1, 1) := by decide +kernel
theorem dq_118_14 : decode (qx_code 118) 14 = .ok (.iload_n 1, 1) := by decide +kernel
theorem dq_118_15 : decode (qx_code 118) 15 = .ok (.getstatic 102, 3) := by decide +kernel
theorem dq_118_18 : decode (qx_code 118) 18 = .ok (.iload_n 2, 1) := by decide +kernel
theorem dq_118_19 : decode (qx_code 118) 19 = .ok (.iconst 0, 1) := by decide +kernel
theorem dq_118_20 : decode (qx_code 118) 20 = .ok (.invokevirtual 112, 3) := by decide +kernel
theorem dq_118_23 : decode (qx_code 118) 23 = .ok (.istore 4, 2) := by decide +kernel
theorem dq_118_25 : decode (qx_code 118) 25 = .ok (.aload_n 0, 1) := by decide +kernel
theorem dq_118_26 : decode (qx_code 118) 26 = .ok (.getfield 20, 3) := by decide +kernel
theorem dq_118_29 : decode (qx_code 118) 29 = .ok (.getfield 86, 3) := by decide +kernel
theorem dq_118_32 : decode (qx_code 118) 32 = .ok (.aload_n 0, 1) := by decide +kernel
theorem dq_118_33 : decode (qx_code 118) 33 = .ok (.getfield 20, 3) := by decide +kernel
theorem dq_118_36 : decode (qx_code 118) 36 = .ok (.getfield 86, 3) := by decide +kernel
theorem dq_118_39 : decode (qx_code 118) 39 = .ok (.iload 4, 2) := by decide +kernel
theorem dq_118_41 : decode (qx_code 118) 41 = .ok (.invokevirtual 116, 3) := by decide +kernel
theorem dq_118_44 : decode (qx_code 118) 44 = .ok (.iload_n 3, 1) := by decide +kernel
theorem dq_118_45 : decode (qx_code 118) 45 = .ok (.invokevirtual 93, 3) := by decide +kernel
theorem dq_118_48 : decode (qx_code 118) 48 = .ok (.ireturn, 1) := by decide +kernel
theorem fl_118_20 : qx_fld 118 20 = some (0, 3) := by decide +kernel
theorem mt_118_112 : qx_mth 118 112 = some (113, 5) := by decide +kernel
theorem fl_118_86 : qx_fld 118 86 = some (1, 0) := by decide +kernel
theorem mt_118_116 : qx_mth 118 116 = some (72, 1) := by decide +kernel
theorem mt_118_93 : qx_mth 118 93 = some (101, 2) := by decide +kernel
theorem dq_119_0 : decode (qx_code 119) 0 = .ok (.aload_n 0, 1) := by decide +kernel
theorem dq_119_1 : decode (qx_code 119) 1 = .ok (.getfield 20, 3) := by decide +kernel
theorem dq_119_4 : decode (qx_code 119) 4 = .ok (.ifnonnull 7, 3) := by decide +kernel
theorem dq_119_7 : decode (qx_code 119) 7 = .ok (.ldc2_w 119, 3) := by decide +kernel
theorem dq_119_10 : decode (qx_code 119) 10 = .ok (.lreturn, 1) := by decide +kernel
theorem dq_119_11 : decode (qx_code 119) 11 = .ok (.aload_n 0, 1) := by decide +kernel
theorem dq_119_12 : decode (qx_code 119) 12 = .ok (.getfield 20, 3) := by decide +kernel
theorem dq_119_15 : decode (qx_code 119) 15 = .ok (.getfield 86, 3) := by decide +kernel
theorem dq_119_18 : decode (qx_code 119) 18 = .ok (.aload_n 0, 1) := by decide +kernel
theorem dq_119_19 : decode (qx_code 119) 19 = .ok (.getfield 20, 3) := by decide +kernel
theorem dq_119_22 : decode (qx_code 119) 22 = .ok (.iconst 0, 1) := by decide +kernel
theorem dq_119_23 : decode (qx_code 119) 23 = .ok (.iload_n 1, 1) := by decide +kernel
theorem dq_119_24 : decode (qx_code 119) 24 = .ok (.getstatic 121, 3) := by decide +kernel
theorem dq_119_27 : decode (qx_code 119) 27 = .ok (.invokevirtual 124, 3) := by decide +kernel
theorem dq_119_30 : decode (qx_code 119) 30 = .ok (.invokevirtual 127, 3) := by decide +kernel
theorem dq_119_33 : decode (qx_code 119) 33 = .ok (.lreturn, 1) := by decide +kernel
theorem fl_119_20 : qx_fld 119 20 = some (0, 3) := by decide +kernel
theorem fl_119_86 : qx_fld 119 86 = some (1, 0) := by decide +kernel
theorem mt_119_124 : qx_mth 119 124 = some (110, 3) := by decide +kernel
theorem mt_119_127 : qx_mth 119 127 = some (120, 1) := by decide +kernel
theorem dq_121_0 : decode (qx_code 121) 0 = .ok (.iload_n 1, 1) := by decide +kernel
theorem dq_121_1 : decode (qx_code 121) 1 = .ok (.ifCond .eq 13, 3) := by decide +kernel
theorem dq_121_4 : decode (qx_code 121) 4 = .ok (.iload_n 1, 1) := by decide +kernel
theorem dq_121_5 : decode (qx_code 121) 5 = .ok (.iconst 1, 1) := by decide +kernel
theorem dq_121_6 : decode (qx_code 121) 6 = .ok (.if_icmp .eq 8, 3) := by decide +kernel
theorem dq_121_9 : decode (qx_code 121) 9 = .ok (.iload_n 1, 1) := by decide +kernel
theorem dq_121_10 : decode (qx_code 121) 10 = .ok (.iconst 2, 1) := by decide +kernel
theorem dq_121_11 : decode (qx_code 121) 11 = .ok (.if_icmp .ne 7, 3) := by decide +kernel
theorem dq_121_14 : decode (qx_code 121) 14 = .ok (.iconst 1, 1) := by decide +kernel
theorem dq_121_15 : decode (qx_code 121) 15 = .ok (.goto 4, 3) := by decide +kernel
theorem dq_121_18 : decode (qx_code 121) 18 = .ok (.iconst 0, 1) := by decide +kernel
theorem dq_121_19 : decode (qx_code 121) 19 = .ok (.istore_n 3, 1) := by decide +kernel
theorem dq_121_20 : decode (qx_code 121) 20 = .ok (.aload_n 0, 1) := by decide +kernel
theorem dq_121_21 : decode (qx_code 121) 21 = .ok (.getfield 20, 3) := by decide +kernel
theorem dq_121_24 : decode (qx_code 121) 24 = .ok (.ifnull 19, 3) := by decide +kernel
theorem dq_121_27 : decode (qx_code 121) 27 = .ok (.iload_n 3, 1) := by decide +kernel
theorem dq_121_28 : decode (qx_code 121) 28 = .ok (.ifCond .eq 15, 3) := by decide +kernel
theorem dq_121_31 : decode (qx_code 121) 31 = .ok (.aload_n 0, 1) := by decide +kernel
theorem dq_121_32 : decode (qx_code 121) 32 = .ok (.getfield 20, 3) := by decide +kernel
theorem dq_121_35 : decode (qx_code 121) 35 = .ok (.iload_n 1, 1) := by decide +kernel
theorem dq_121_36 : decode (qx_code 121) 36 = .ok (.iload_n 2, 1) := by decide +kernel
theorem dq_121_37 : decode (qx_code 121) 37 = .ok (.invokevirtual 98, 3) := by decide +kernel
theorem dq_121_40 : decode (qx_code 121) 40 = .ok (.ifCond .ne 5, 3) := by decide +kernel
theorem dq_121_43 : decode (qx_code 121) 43 = .ok (.iconst (-1), 1) := by decide +kernel
theorem dq_121_44 : decode (qx_code 121) 44 = .ok (.ireturn, 1) := by decide +kernel
theorem dq_121_45 : decode (qx_code 121) 45 = .ok (.aload_n 0, 1) := by decide +kernel
theorem dq_121_46 : decode (qx_code 121) 46 = .ok (.getfield 20, 3) := by decide +kernel
theorem dq_121_49 : decode (qx_code 121) 49 = .ok (.iload_n 1, 1) := by decide +kernel
theorem dq_121_50 : decode (qx_code 121) 50 = .ok (.iload_n 2, 1) := by decide +kernel
theorem dq_121_51 : decode (qx_code 121) 51 = .ok (.getstatic 131, 3) := by decide +kernel
theorem dq_121_54 : decode (qx_code 121) 54 = .ok (.invokevirtual 134, 3) := by decide +kernel
theorem dq_121_57 : decode (qx_code 121) 57 = .ok (.ifCond .ne 7, 3) := by decide +kernel
theorem dq_121_60 : decode (qx_code 121) 60 = .ok (.iconst 0, 1) := by decide +kernel
theorem dq_121_61 : decode (qx_code 121) 61 = .ok (.goto 4, 3) := by decide +kernel
theorem dq_121_64 : decode (qx_code 121) 64 = .ok (.iconst 1, 1) := by decide +kernel
theorem dq_121_65 : decode (qx_code 121) 65 = .ok (.ireturn, 1) := by decide +kernel
theorem fl_121_20 : qx_fld 121 20 = some (0, 3) := by decide +kernel
theorem mt_121_98 : qx_mth 121 98 = some (87, 2) := by decide +kernel
theorem mt_121_134 : qx_mth 121 134 = some (93, 3) := by decide +kernel
