theorem dq_3_0 : decode (qx_code 3) 0 = .ok (.aload_n 0, 1) := by decide +kernel
theorem dq_3_1 : decode (qx_code 3) 1 = .ok (.invokespecial 3, 3) := by decide +kernel
theorem dq_3_4 : decode (qx_code 3) 4 = .ok (.aload_n 0, 1) := by decide +kernel
theorem dq_3_5 : decode (qx_code 3) 5 = .ok (.sipush 480, 3) := by decide +kernel
theorem dq_3_8 : decode (qx_code 3) 8 = .ok (.newarray .byte, 2) := by decide +kernel
theorem dq_3_10 : decode (qx_code 3) 10 = .ok (.putfield 9, 3) := by decide +kernel
theorem dq_3_13 : decode (qx_code 3) 13 = .ok (.aload_n 0, 1) := by decide +kernel
theorem dq_3_14 : decode (qx_code 3) 14 = .ok (.iconst 0, 1) := by decide +kernel
theorem dq_3_15 : decode (qx_code 3) 15 = .ok (.putfield 15, 3) := by decide +kernel
theorem dq_3_18 : decode (qx_code 3) 18 = .ok (.aload_n 0, 1) := by decide +kernel
theorem dq_3_19 : decode (qx_code 3) 19 = .ok (.iconst 0, 1) := by decide +kernel
theorem dq_3_20 : decode (qx_code 3) 20 = .ok (.putfield 19, 3) := by decide +kernel
theorem dq_3_23 : decode (qx_code 3) 23 = .ok (.aload_n 0, 1) := by decide +kernel
theorem dq_3_24 : decode (qx_code 3) 24 = .ok (.iconst 0, 1) := by decide +kernel
theorem dq_3_25 : decode (qx_code 3) 25 = .ok (.putfield 22, 3) := by decide +kernel
theorem dq_3_28 : decode (qx_code 3) 28 = .ok (.aload_n 0, 1) := by decide +kernel
theorem dq_3_29 : decode (qx_code 3) 29 = .ok (.iconst (-1), 1) := by decide +kernel
theorem dq_3_30 : decode (qx_code 3) 30 = .ok (.putfield 25, 3) := by decide +kernel
theorem dq_3_33 : decode (qx_code 3) 33 = .ok (.return_, 1) := by decide +kernel
theorem fl_3_9 : qx_fld 3 9 = some (3, 0) := by decide +kernel
theorem fp_3_9 : qx_fld 3 9 = some (3, 0) ∧ qx_pok 3 9 = true := by decide +kernel
theorem fl_3_15 : qx_fld 3 15 = some (3, 1) := by decide +kernel
theorem fp_3_15 : qx_fld 3 15 = some (3, 1) ∧ qx_pok 3 15 = true := by decide +kernel
theorem fl_3_19 : qx_fld 3 19 = some (3, 2) := by decide +kernel
theorem fp_3_19 : qx_fld 3 19 = some (3, 2) ∧ qx_pok 3 19 = true := by decide +kernel
theorem fl_3_22 : qx_fld 3 22 = some (3, 3) := by decide +kernel
theorem fp_3_22 : qx_fld 3 22 = some (3, 3) ∧ qx_pok 3 22 = true := by decide +kernel
theorem fl_3_25 : qx_fld 3 25 = some (3, 4) := by decide +kernel
theorem fp_3_25 : qx_fld 3 25 = some (3, 4) ∧ qx_pok 3 25 = true := by decide +kernel
theorem dq_9_0 : decode (qx_code 9) 0 = .ok (.aload_n 1, 1) := by decide +kernel
theorem dq_9_1 : decode (qx_code 9) 1 = .ok (.iconst 0, 1) := by decide +kernel
theorem dq_9_2 : decode (qx_code 9) 2 = .ok (.aload_n 0, 1) := by decide +kernel
theorem dq_9_3 : decode (qx_code 9) 3 = .ok (.getfield 9, 3) := by decide +kernel
theorem dq_9_6 : decode (qx_code 9) 6 = .ok (.iconst 0, 1) := by decide +kernel
theorem dq_9_7 : decode (qx_code 9) 7 = .ok (.iload_n 2, 1) := by decide +kernel
theorem dq_9_8 : decode (qx_code 9) 8 = .ok (.invokestatic 28, 3) := by decide +kernel
theorem dq_9_11 : decode (qx_code 9) 11 = .ok (.aload_n 0, 1) := by decide +kernel
theorem dq_9_12 : decode (qx_code 9) 12 = .ok (.iload_n 2, 1) := by decide +kernel
theorem dq_9_13 : decode (qx_code 9) 13 = .ok (.putfield 15, 3) := by decide +kernel
theorem dq_9_16 : decode (qx_code 9) 16 = .ok (.aload_n 0, 1) := by decide +kernel
theorem dq_9_17 : decode (qx_code 9) 17 = .ok (.iconst 0, 1) := by decide +kernel
theorem dq_9_18 : decode (qx_code 9) 18 = .ok (.putfield 19, 3) := by decide +kernel
theorem dq_9_21 : decode (qx_code 9) 21 = .ok (.aload_n 0, 1) := by decide +kernel
theorem dq_9_22 : decode (qx_code 9) 22 = .ok (.iconst 0, 1) := by decide +kernel
theorem dq_9_23 : decode (qx_code 9) 23 = .ok (.putfield 22, 3) := by decide +kernel
theorem dq_9_26 : decode (qx_code 9) 26 = .ok (.aload_n 0, 1) := by decide +kernel
theorem dq_9_27 : decode (qx_code 9) 27 = .ok (.iconst (-1), 1) := by decide +kernel
theorem dq_9_28 : decode (qx_code 9) 28 = .ok (.putfield 25, 3) := by decide +kernel
theorem dq_9_31 : decode (qx_code 9) 31 = .ok (.return_, 1) := by decide +kernel
theorem fl_9_9 : qx_fld 9 9 = some (3, 0) := by decide +kernel
theorem fl_9_15 : qx_fld 9 15 = some (3, 1) := by decide +kernel
theorem fp_9_15 : qx_fld 9 15 = some (3, 1) ∧ qx_pok 9 15 = true := by decide +kernel
theorem fl_9_19 : qx_fld 9 19 = some (3, 2) := by decide +kernel
theorem fp_9_19 : qx_fld 9 19 = some (3, 2) ∧ qx_pok 9 19 = true := by decide +kernel
theorem fl_9_22 : qx_fld 9 22 = some (3, 3) := by decide +kernel
theorem fp_9_22 : qx_fld 9 22 = some (3, 3) ∧ qx_pok 9 22 = true := by decide +kernel
theorem fl_9_25 : qx_fld 9 25 = some (3, 4) := by decide +kernel
theorem fp_9_25 : qx_fld 9 25 = some (3, 4) ∧ qx_pok 9 25 = true := by decide +kernel
theorem dq_14_0 : decode (qx_code 14) 0 = .ok (.aload_n 0, 1) := by decide +kernel
theorem dq_14_1 : decode (qx_code 14) 1 = .ok (.iload_n 1, 1) := by decide +kernel
theorem dq_14_2 : decode (qx_code 14) 2 = .ok (.aload_n 0, 1) := by decide +kernel
theorem dq_14_3 : decode (qx_code 14) 3 = .ok (.getfield 15, 3) := by decide +kernel
theorem dq_14_6 : decode (qx_code 14) 6 = .ok (.aload_n 0, 1) := by decide +kernel
theorem dq_14_7 : decode (qx_code 14) 7 = .ok (.getfield 19, 3) := by decide +kernel
theorem dq_14_10 : decode (qx_code 14) 10 = .ok (.isub, 1) := by decide +kernel
theorem dq_14_11 : decode (qx_code 14) 11 = .ok (.if_icmp .gt 7, 3) := by decide +kernel
theorem dq_14_14 : decode (qx_code 14) 14 = .ok (.iconst 1, 1) := by decide +kernel
theorem dq_14_15 : decode (qx_code 14) 15 = .ok (.goto 4, 3) := by decide +kernel
theorem dq_14_18 : decode (qx_code 14) 18 = .ok (.iconst 0, 1) := by decide +kernel
theorem dq_14_19 : decode (qx_code 14) 19 = .ok (.iconst 1, 1) := by decide +kernel
theorem dq_14_20 : decode (qx_code 14) 20 = .ok (.aload_n 0, 1) := by decide +kernel
theorem dq_14_21 : decode (qx_code 14) 21 = .ok (.getfield 15, 3) := by decide +kernel
theorem dq_14_24 : decode (qx_code 14) 24 = .ok (.invokevirtual 34, 3) := by decide +kernel
theorem dq_14_27 : decode (qx_code 14) 27 = .ok (.aload_n 0, 1) := by decide +kernel
theorem dq_14_28 : decode (qx_code 14) 28 = .ok (.getfield 22, 3) := by decide +kernel
theorem dq_14_31 : decode (qx_code 14) 31 = .ok (.ifCond .eq 5, 3) := by decide +kernel
theorem dq_14_34 : decode (qx_code 14) 34 = .ok (.lconst 0, 1) := by decide +kernel
theorem dq_14_35 : decode (qx_code 14) 35 = .ok (.lreturn, 1) := by decide +kernel
theorem dq_14_36 : decode (qx_code 14) 36 = .ok (.aload_n 0, 1) := by decide +kernel
theorem dq_14_37 : decode (qx_code 14) 37 = .ok (.dup, 1) := by decide +kernel
theorem dq_14_38 : decode (qx_code 14) 38 = .ok (.getfield 19, 3) := by decide +kernel
theorem dq_14_41 : decode (qx_code 14) 41 = .ok (.iload_n 1, 1) := by decide +kernel
theorem dq_14_42 : decode (qx_code 14) 42 = .ok (.iadd, 1) := by decide +kernel
theorem dq_14_43 : decode (qx_code 14) 43 = .ok (.putfield 19, 3) := by decide +kernel
theorem dq_14_46 : decode (qx_code 14) 46 = .ok (.aload_n 0, 1) := by decide +kernel
theorem dq_14_47 : decode (qx_code 14) 47 = .ok (.aload_n 0, 1) := by decide +kernel
theorem dq_14_48 : decode (qx_code 14) 48 = .ok (.getfield 19, 3) := by decide +kernel
theorem dq_14_51 : decode (qx_code 14) 51 = .ok (.iload_n 1, 1) := by decide +kernel
theorem dq_14_52 : decode (qx_code 14) 52 = .ok (.isub, 1) := by decide +kernel
theorem dq_14_53 : decode (qx_code 14) 53 = .ok (.iload_n 1, 1) := by decide +kernel
theorem dq_14_54 : decode (qx_code 14) 54 = .ok (.invokevirtual 38, 3) := by decide +kernel
theorem dq_14_57 : decode (qx_code 14) 57 = .ok (.lreturn, 1) := by decide +kernel
theorem fl_14_15 : qx_fld 14 15 = some (3, 1) := by decide +kernel
theorem fl_14_19 : qx_fld 14 19 = some (3, 2) := by decide +kernel
theorem mt_14_34 : qx_mth 14 34 = some (15, 3) := by decide +kernel
theorem fl_14_22 : qx_fld 14 22 = some (3, 3) := by decide +kernel
theorem fp_14_19 : qx_fld 14 19 = some (3, 2) ∧ qx_pok 14 19 = true := by decide +kernel
theorem mt_14_38 : qx_mth 14 38 = some (16, 2) := by decide +kernel
theorem dq_15_0 : decode (qx_code 15) 0 = .ok (.iload_n 1, 1) := by decide +kernel
theorem dq_15_1 : decode (qx_code 15) 1 = .ok (.ifCond .ne 20, 3) := by decide +kernel
theorem dq_15_4 : decode (qx_code 15) 4 = .ok (.aload_n 0, 1) := by decide +kernel
theorem dq_15_5 : decode (qx_code 15) 5 = .ok (.getfield 22, 3) := by decide +kernel
theorem dq_15_8 : decode (qx_code 15) 8 = .ok (.ifCond .ne 13, 3) := by decide +kernel
theorem dq_15_11 : decode (qx_code 15) 11 = .ok (.aload_n 0, 1) := by decide +kernel
theorem dq_15_12 : decode (qx_code 15) 12 = .ok (.iload_n 2, 1) := by decide +kernel
theorem dq_15_13 : decode (qx_code 15) 13 = .ok (.putfield 22, 3) := by decide +kernel
theorem dq_15_16 : decode (qx_code 15) 16 = .ok (.aload_n 0, 1) := by decide +kernel
theorem dq_15_17 : decode (qx_code 15) 17 = .ok (.iload_n 3, 1) := by decide +kernel
theorem dq_15_18 : decode (qx_code 15) 18 = .ok (.putfield 25, 3) := by decide +kernel
theorem dq_15_21 : decode (qx_code 15) 21 = .ok (.return_, 1) := by decide +kernel
theorem fl_15_22 : qx_fld 15 22 = some (3, 3) := by decide +kernel
theorem fp_15_22 : qx_fld 15 22 = some (3, 3) ∧ qx_pok 15 22 = true := by decide +kernel
theorem fl_15_25 : qx_fld 15 25 = some (3, 4) := by decide +kernel
theorem fp_15_25 : qx_fld 15 25 = some (3, 4) ∧ qx_pok 15 25 = true := by decide +kernel
theorem dq_16_0 : decode (qx_code 16) 0 = .ok (.iload_n 1, 1) := by decide +kernel
theorem dq_16_1 : decode (qx_code 16) 1 = .ok (.ifCond .lt 13, 3) := by decide +kernel
theorem dq_16_4 : decode (qx_code 16) 4 = .ok (.iload_n 1, 1) := by decide +kernel
theorem dq_16_5 : decode (qx_code 16) 5 = .ok (.aload_n 0, 1) := by decide +kernel
theorem dq_16_6 : decode (qx_code 16) 6 = .ok (.getfield 15, 3) := by decide +kernel
theorem dq_16_9 : decode (qx_code 16) 9 = .ok (.iload_n 2, 1) := by decide +kernel
theorem dq_16_10 : decode (qx_code 16) 10 = .ok (.isub, 1) := by decide +kernel
theorem dq_16_11 : decode (qx_code 16) 11 = .ok (.if_icmp .le 5, 3) := by decide +kernel
theorem dq_16_14 : decode (qx_code 16) 14 = .ok (.lconst 0, 1) := by decide +kernel
theorem dq_16_15 : decode (qx_code 16) 15 = .ok (.lreturn, 1) := by decide +kernel
theorem dq_16_16 : decode (qx_code 16) 16 = .ok (.lconst 0, 1) := by decide +kernel
theorem dq_16_17 : decode (qx_code 16) 17 = .ok (.lstore_n 3, 1) := by decide +kernel
theorem dq_16_18 : decode (qx_code 16) 18 = .ok (.iconst 0, 1) := by decide +kernel
theorem dq_16_19 : decode (qx_code 16) 19 = .ok (.istore 5, 2) := by decide +kernel
theorem dq_16_21 : decode (qx_code 16) 21 = .ok (.iload 5, 2) := by decide +kernel
theorem dq_16_23 : decode (qx_code 16) 23 = .ok (.iload_n 2, 1) := by decide +kernel
theorem dq_16_24 : decode (qx_code 16) 24 = .ok (.if_icmp .ge 29, 3) := by decide +kernel
theorem dq_16_27 : decode (qx_code 16) 27 = .ok (.lload_n 3, 1) := by decide +kernel
theorem dq_16_28 : decode (qx_code 16) 28 = .ok (.bipush 8, 2) := by decide +kernel
theorem dq_16_30 : decode (qx_code 16) 30 = .ok (.lshl, 1) := by decide +kernel
theorem dq_16_31 : decode (qx_code 16) 31 = .ok (.aload_n 0, 1) := by decide +kernel
theorem dq_16_32 : decode (qx_code 16) 32 = .ok (.getfield 9, 3) := by decide +kernel
theorem dq_16_35 : decode (qx_code 16) 35 = .ok (.iload_n 1, 1) := by decide +kernel
theorem dq_16_36 : decode (qx_code 16) 36 = .ok (.iload 5, 2) := by decide +kernel
theorem dq_16_38 : decode (qx_code 16) 38 = .ok (.iadd, 1) := by decide +kernel
theorem dq_16_39 : decode (qx_code 16) 39 = .ok (.baload, 1) := by decide +kernel
theorem dq_16_40 : decode (qx_code 16) 40 = .ok (.sipush 255, 3) := by decide +kernel
theorem dq_16_43 : decode (qx_code 16) 43 = .ok (.iand, 1) := by decide +kernel
theorem dq_16_44 : decode (qx_code 16) 44 = .ok (.i2l, 1) := by decide +kernel
theorem dq_16_45 : decode (qx_code 16) 45 = .ok (.lor, 1) := by decide +kernel
theorem dq_16_46 : decode (qx_code 16) 46 = .ok (.lstore_n 3, 1) := by decide +kernel
theorem dq_16_47 : decode (qx_code 16) 47 = .ok (.iinc 5 1, 3) := by decide +kernel
theorem dq_16_50 : decode (qx_code 16) 50 = .ok (.goto (-29), 3) := by decide +kernel
theorem dq_16_53 : decode (qx_code 16) 53 = .ok (.lload_n 3, 1) := by decide +kernel
theorem dq_16_54 : decode (qx_code 16) 54 = .ok (.lreturn, 1) := by decide +kernel
theorem fl_16_15 : qx_fld 16 15 = some (3, 1) := by decide +kernel
theorem fl_16_9 : qx_fld 16 9 = some (3, 0) := by decide +kernel
theorem dq_17_0 : decode (qx_code 17) 0 = .ok (.aload_n 0, 1) := by decide +kernel
theorem dq_17_1 : decode (qx_code 17) 1 = .ok (.iconst 2, 1) := by decide +kernel
theorem dq_17_2 : decode (qx_code 17) 2 = .ok (.invokevirtual 42, 3) := by decide +kernel
theorem dq_17_5 : decode (qx_code 17) 5 = .ok (.l2i, 1) := by decide +kernel
theorem dq_17_6 : decode (qx_code 17) 6 = .ok (.ireturn, 1) := by decide +kernel
theorem mt_17_42 : qx_mth 17 42 = some (14, 1) := by decide +kernel
theorem dq_20_0 : decode (qx_code 20) 0 = .ok (.aload_n 0, 1) := by decide +kernel
theorem dq_20_1 : decode (qx_code 20) 1 = .ok (.getfield 22, 3) := by decide +kernel
theorem dq_20_4 : decode (qx_code 20) 4 = .ok (.ifCond .ne 7, 3) := by decide +kernel
theorem dq_20_7 : decode (qx_code 20) 7 = .ok (.iconst 1, 1) := by decide +kernel
theorem dq_20_8 : decode (qx_code 20) 8 = .ok (.goto 4, 3) := by decide +kernel
theorem dq_20_11 : decode (qx_code 20) 11 = .ok (.iconst 0, 1) := by decide +kernel
theorem dq_20_12 : decode (qx_code 20) 12 = .ok (.ireturn, 1) := by decide +kernel
theorem fl_20_22 : qx_fld 20 22 = some (3, 3) := by decide +kernel
theorem dq_23_0 : decode (qx_code 23) 0 = .ok (.aload_n 0, 1) := by decide +kernel
theorem dq_23_1 : decode (qx_code 23) 1 = .ok (.lload_n 1, 1) := by decide +kernel
theorem dq_23_2 : decode (qx_code 23) 2 = .ok (.aload_n 0, 1) := by decide +kernel
theorem dq_23_3 : decode (qx_code 23) 3 = .ok (.getfield 15, 3) := by decide +kernel
theorem dq_23_6 : decode (qx_code 23) 6 = .ok (.aload_n 0, 1) := by decide +kernel
theorem dq_23_7 : decode (qx_code 23) 7 = .ok (.getfield 19, 3) := by decide +kernel
theorem dq_23_10 : decode (qx_code 23) 10 = .ok (.isub, 1) := by decide +kernel
theorem dq_23_11 : decode (qx_code 23) 11 = .ok (.i2l, 1) := by decide +kernel
theorem dq_23_12 : decode (qx_code 23) 12 = .ok (.lcmp, 1) := by decide +kernel
theorem dq_23_13 : decode (qx_code 23) 13 = .ok (.ifCond .gt 7, 3) := by decide +kernel
theorem dq_23_16 : decode (qx_code 23) 16 = .ok (.iconst 1, 1) := by decide +kernel
theorem dq_23_17 : decode (qx_code 23) 17 = .ok (.goto 4, 3) := by decide +kernel
theorem dq_23_20 : decode (qx_code 23) 20 = .ok (.iconst 0, 1) := by decide +kernel
theorem dq_23_21 : decode (qx_code 23) 21 = .ok (.iconst 1, 1) := by decide +kernel
theorem dq_23_22 : decode (qx_code 23) 22 = .ok (.aload_n 0, 1) := by decide +kernel
theorem dq_23_23 : decode (qx_code 23) 23 = .ok (.getfield 15, 3) := by decide +kernel
theorem dq_23_26 : decode (qx_code 23) 26 = .ok (.invokevirtual 34, 3) := by decide +kernel
theorem dq_23_29 : decode (qx_code 23) 29 = .ok (.aload_n 0, 1) := by decide +kernel
theorem dq_23_30 : decode (qx_code 23) 30 = .ok (.getfield 22, 3) := by decide +kernel
theorem dq_23_33 : decode (qx_code 23) 33 = .ok (.ifCond .ne 14, 3) := by decide +kernel
theorem dq_23_36 : decode (qx_code 23) 36 = .ok (.aload_n 0, 1) := by decide +kernel
theorem dq_23_37 : decode (qx_code 23) 37 = .ok (.dup, 1) := by decide +kernel
theorem dq_23_38 : decode (qx_code 23) 38 = .ok (.getfield 19, 3) := by decide +kernel
theorem dq_23_41 : decode (qx_code 23) 41 = .ok (.lload_n 1, 1) := by decide +kernel
theorem dq_23_42 : decode (qx_code 23) 42 = .ok (.l2i, 1) := by decide +kernel
theorem dq_23_43 : decode (qx_code 23) 43 = .ok (.iadd, 1) := by decide +kernel
theorem dq_23_44 : decode (qx_code 23) 44 = .ok (.putfield 19, 3) := by decide +kernel
theorem dq_23_47 : decode (qx_code 23) 47 = .ok (.return_, 1) := by decide +kernel
theorem fl_23_15 : qx_fld 23 15 = some (3, 1) := by decide +kernel
theorem fl_23_19 : qx_fld 23 19 = some (3, 2) := by decide +kernel
theorem mt_23_34 : qx_mth 23 34 = some (15, 3) := by decide +kernel
theorem fl_23_22 : qx_fld 23 22 = some (3, 3) := by decide +kernel
theorem fp_23_19 : qx_fld 23 19 = some (3, 2) ∧ qx_pok 23 19 = true := by decide +kernel
theorem dq_27_0 : decode (qx_code 27) 0 = .ok (.iload_n 1, 1) := by decide +kernel
theorem dq_27_1 : decode (qx_code 27) 1 = .ok (.ifCond .lt 24, 3) := by decide +kernel
theorem dq_27_4 : decode (qx_code 27) 4 = .ok (.iload_n 1, 1) := by decide +kernel
theorem dq_27_5 : decode (qx_code 27) 5 = .ok (.aload_n 0, 1) := by decide +kernel
theorem dq_27_6 : decode (qx_code 27) 6 = .ok (.getfield 15, 3) := by decide +kernel
theorem dq_27_9 : decode (qx_code 27) 9 = .ok (.if_icmp .ge 16, 3) := by decide +kernel
theorem dq_27_12 : decode (qx_code 27) 12 = .ok (.aload_n 0, 1) := by decide +kernel
theorem dq_27_13 : decode (qx_code 27) 13 = .ok (.getfield 9, 3) := by decide +kernel
theorem dq_27_16 : decode (qx_code 27) 16 = .ok (.iload_n 1, 1) := by decide +kernel
theorem dq_27_17 : decode (qx_code 27) 17 = .ok (.baload, 1) := by decide +kernel
theorem dq_27_18 : decode (qx_code 27) 18 = .ok (.sipush 255, 3) := by decide +kernel
theorem dq_27_21 : decode (qx_code 27) 21 = .ok (.iand, 1) := by decide +kernel
theorem dq_27_22 : decode (qx_code 27) 22 = .ok (.goto 4, 3) := by decide +kernel
theorem dq_27_25 : decode (qx_code 27) 25 = .ok (.iconst 0, 1) := by decide +kernel
theorem dq_27_26 : decode (qx_code 27) 26 = .ok (.ireturn, 1) := by decide +kernel
theorem fl_27_15 : qx_fld 27 15 = some (3, 1) := by decide +kernel
theorem fl_27_9 : qx_fld 27 9 = some (3, 0) := by decide +kernel
theorem dq_54_0 : decode (qx_code 54) 0 = .ok (.aload_n 0, 1) := by decide +kernel
theorem dq_54_1 : decode (qx_code 54) 1 = .ok (.iload_n 1, 1) := by decide +kernel
theorem dq_54_2 : decode (qx_code 54) 2 = .ok (.iconst 2, 1) := by decide +kernel
theorem dq_54_3 : decode (qx_code 54) 3 = .ok (.invokevirtual 38, 3) := by decide +kernel
theorem dq_54_6 : decode (qx_code 54) 6 = .ok (.l2i, 1) := by decide +kernel
theorem dq_54_7 : decode (qx_code 54) 7 = .ok (.ireturn, 1) := by decide +kernel
theorem mt_54_38 : qx_mth 54 38 = some (16, 2) := by decide +kernel
