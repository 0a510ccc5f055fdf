theorem dq_31_0 : decode (qx_code 31) 0 = .ok (.aload_n 0, 1) := by decide +kernel
theorem dq_31_1 : decode (qx_code 31) 1 = .ok (.getfield 9, 3) := by decide +kernel
theorem dq_31_4 : decode (qx_code 31) 4 = .ok (.arraylength, 1) := by decide +kernel
theorem dq_31_5 : decode (qx_code 31) 5 = .ok (.aload_n 0, 1) := by decide +kernel
theorem dq_31_6 : decode (qx_code 31) 6 = .ok (.invokevirtual 335, 3) := by decide +kernel
theorem dq_31_9 : decode (qx_code 31) 9 = .ok (.ishr, 1) := by decide +kernel
theorem dq_31_10 : decode (qx_code 31) 10 = .ok (.ireturn, 1) := by decide +kernel
theorem fl_31_9 : qx_fld 31 9 = some (7, 0) := by decide +kernel
theorem mt_31_335 : qx_mth 31 335 = some (32, 0) := by decide +kernel
theorem dq_32_0 : decode (qx_code 32) 0 = .ok (.getstatic 38, 3) := by decide +kernel
theorem dq_32_3 : decode (qx_code 32) 3 = .ok (.ifCond .eq 10, 3) := by decide +kernel
theorem dq_32_6 : decode (qx_code 32) 6 = .ok (.aload_n 0, 1) := by decide +kernel
theorem dq_32_7 : decode (qx_code 32) 7 = .ok (.getfield 15, 3) := by decide +kernel
theorem dq_32_10 : decode (qx_code 32) 10 = .ok (.goto 4, 3) := by decide +kernel
theorem dq_32_13 : decode (qx_code 32) 13 = .ok (.iconst 1, 1) := by decide +kernel
theorem dq_32_14 : decode (qx_code 32) 14 = .ok (.ireturn, 1) := by decide +kernel
theorem fl_32_15 : qx_fld 32 15 = some (7, 1) := by decide +kernel
theorem dq_30_0 : decode (qx_code 30) 0 = .ok (.getstatic 38, 3) := by decide +kernel
theorem dq_30_3 : decode (qx_code 30) 3 = .ok (.ifCond .eq 14, 3) := by decide +kernel
theorem dq_30_6 : decode (qx_code 30) 6 = .ok (.aload_n 0, 1) := by decide +kernel
theorem dq_30_7 : decode (qx_code 30) 7 = .ok (.getfield 15, 3) := by decide +kernel
theorem dq_30_10 : decode (qx_code 30) 10 = .ok (.ifCond .ne 7, 3) := by decide +kernel
theorem dq_30_13 : decode (qx_code 30) 13 = .ok (.iconst 1, 1) := by decide +kernel
theorem dq_30_14 : decode (qx_code 30) 14 = .ok (.goto 4, 3) := by decide +kernel
theorem dq_30_17 : decode (qx_code 30) 17 = .ok (.iconst 0, 1) := by decide +kernel
theorem dq_30_18 : decode (qx_code 30) 18 = .ok (.ireturn, 1) := by decide +kernel
theorem fl_30_15 : qx_fld 30 15 = some (7, 1) := by decide +kernel
theorem dq_58_0 : decode (qx_code 58) 0 = .ok (.aload_n 0, 1) := by decide +kernel
theorem dq_58_1 : decode (qx_code 58) 1 = .ok (.invokevirtual 492, 3) := by decide +kernel
theorem dq_58_4 : decode (qx_code 58) 4 = .ok (.ifCond .eq 12, 3) := by decide +kernel
theorem dq_58_7 : decode (qx_code 58) 7 = .ok (.aload_n 0, 1) := by decide +kernel
theorem dq_58_8 : decode (qx_code 58) 8 = .ok (.getfield 9, 3) := by decide +kernel
theorem dq_58_11 : decode (qx_code 58) 11 = .ok (.iload_n 1, 1) := by decide +kernel
theorem dq_58_12 : decode (qx_code 58) 12 = .ok (.invokestatic 495, 3) := by decide +kernel
theorem dq_58_15 : decode (qx_code 58) 15 = .ok (.ireturn, 1) := by decide +kernel
theorem dq_58_16 : decode (qx_code 58) 16 = .ok (.aload_n 0, 1) := by decide +kernel
theorem dq_58_17 : decode (qx_code 58) 17 = .ok (.getfield 9, 3) := by decide +kernel
theorem dq_58_20 : decode (qx_code 58) 20 = .ok (.iload_n 1, 1) := by decide +kernel
theorem dq_58_21 : decode (qx_code 58) 21 = .ok (.invokestatic 498, 3) := by decide +kernel
theorem dq_58_24 : decode (qx_code 58) 24 = .ok (.ireturn, 1) := by decide +kernel
theorem mt_58_492 : qx_mth 58 492 = some (30, 0) := by decide +kernel
theorem fl_58_9 : qx_fld 58 9 = some (7, 0) := by decide +kernel
theorem mt_58_495 : qx_mth 58 495 = some (59, 2) := by decide +kernel
theorem mt_58_498 : qx_mth 58 498 = some (62, 2) := by decide +kernel
theorem dq_59_0 : decode (qx_code 59) 0 = .ok (.iload_n 1, 1) := by decide +kernel
theorem dq_59_1 : decode (qx_code 59) 1 = .ok (.aload_n 0, 1) := by decide +kernel
theorem dq_59_2 : decode (qx_code 59) 2 = .ok (.arraylength, 1) := by decide +kernel
theorem dq_59_3 : decode (qx_code 59) 3 = .ok (.invokestatic 9, 3) := by decide +kernel
theorem dq_59_6 : decode (qx_code 59) 6 = .ok (.aload_n 0, 1) := by decide +kernel
theorem dq_59_7 : decode (qx_code 59) 7 = .ok (.iload_n 1, 1) := by decide +kernel
theorem dq_59_8 : decode (qx_code 59) 8 = .ok (.baload, 1) := by decide +kernel
theorem dq_59_9 : decode (qx_code 59) 9 = .ok (.sipush 255, 3) := by decide +kernel
theorem dq_59_12 : decode (qx_code 59) 12 = .ok (.iand, 1) := by decide +kernel
theorem dq_59_13 : decode (qx_code 59) 13 = .ok (.i2c, 1) := by decide +kernel
theorem dq_59_14 : decode (qx_code 59) 14 = .ok (.ireturn, 1) := by decide +kernel
theorem mt_59_9 : qx_mth 59 9 = some (60, 2) := by decide +kernel
theorem dq_60_0 : decode (qx_code 60) 0 = .ok (.iload_n 0, 1) := by decide +kernel
theorem dq_60_1 : decode (qx_code 60) 1 = .ok (.iload_n 1, 1) := by decide +kernel
theorem dq_60_2 : decode (qx_code 60) 2 = .ok (.getstatic 1053, 3) := by decide +kernel
theorem dq_60_5 : decode (qx_code 60) 5 = .ok (.invokestatic 1059, 3) := by decide +kernel
theorem dq_60_8 : decode (qx_code 60) 8 = .ok (.pop, 1) := by decide +kernel
theorem dq_60_9 : decode (qx_code 60) 9 = .ok (.return_, 1) := by decide +kernel
theorem mt_60_1059 : qx_mth 60 1059 = some (61, 3) := by decide +kernel
theorem dq_61_0 : decode (qx_code 61) 0 = .ok (.iload_n 0, 1) := by decide +kernel
theorem dq_61_1 : decode (qx_code 61) 1 = .ok (.ifCond .lt 8, 3) := by decide +kernel
theorem dq_61_4 : decode (qx_code 61) 4 = .ok (.iload_n 0, 1) := by decide +kernel
theorem dq_61_5 : decode (qx_code 61) 5 = .ok (.iload_n 1, 1) := by decide +kernel
theorem dq_61_6 : decode (qx_code 61) 6 = .ok (.if_icmp .lt 10, 3) := by decide +kernel
theorem dq_61_9 : decode (qx_code 61) 9 = .ok (.aload_n 2, 1) := by decide +kernel
theorem dq_61_10 : decode (qx_code 61) 10 = .ok (.iload_n 0, 1) := by decide +kernel
theorem dq_61_11 : decode (qx_code 61) 11 = .ok (.iload_n 1, 1) := by decide +kernel
theorem dq_61_12 : decode (qx_code 61) 12 = .ok (.invokestatic 95, 3) := by decide +kernel
theorem dq_61_15 : decode (qx_code 61) 15 = .ok (.athrow, 1) := by decide +kernel
theorem dq_61_16 : decode (qx_code 61) 16 = .ok (.iload_n 0, 1) := by decide +kernel
theorem dq_61_17 : decode (qx_code 61) 17 = .ok (.ireturn, 1) := by decide +kernel
theorem dq_28_0 : decode (qx_code 28) 0 = .ok (.aload_n 0, 1) := by decide +kernel
theorem dq_28_1 : decode (qx_code 28) 1 = .ok (.iload_n 1, 1) := by decide +kernel
theorem dq_28_2 : decode (qx_code 28) 2 = .ok (.iconst 0, 1) := by decide +kernel
theorem dq_28_3 : decode (qx_code 28) 3 = .ok (.invokevirtual 633, 3) := by decide +kernel
theorem dq_28_6 : decode (qx_code 28) 6 = .ok (.ireturn, 1) := by decide +kernel
theorem mt_28_633 : qx_mth 28 633 = some (29, 2) := by decide +kernel
theorem dq_29_0 : decode (qx_code 29) 0 = .ok (.aload_n 0, 1) := by decide +kernel
theorem dq_29_1 : decode (qx_code 29) 1 = .ok (.invokevirtual 492, 3) := by decide +kernel
theorem dq_29_4 : decode (qx_code 29) 4 = .ok (.ifCond .eq 19, 3) := by decide +kernel
theorem dq_29_7 : decode (qx_code 29) 7 = .ok (.aload_n 0, 1) := by decide +kernel
theorem dq_29_8 : decode (qx_code 29) 8 = .ok (.getfield 9, 3) := by decide +kernel
theorem dq_29_11 : decode (qx_code 29) 11 = .ok (.iload_n 1, 1) := by decide +kernel
theorem dq_29_12 : decode (qx_code 29) 12 = .ok (.iload_n 2, 1) := by decide +kernel
theorem dq_29_13 : decode (qx_code 29) 13 = .ok (.aload_n 0, 1) := by decide +kernel
theorem dq_29_14 : decode (qx_code 29) 14 = .ok (.invokevirtual 505, 3) := by decide +kernel
theorem dq_29_17 : decode (qx_code 29) 17 = .ok (.invokestatic 637, 3) := by decide +kernel
theorem dq_29_20 : decode (qx_code 29) 20 = .ok (.goto 16, 3) := by decide +kernel
theorem dq_29_23 : decode (qx_code 29) 23 = .ok (.aload_n 0, 1) := by decide +kernel
theorem dq_29_24 : decode (qx_code 29) 24 = .ok (.getfield 9, 3) := by decide +kernel
theorem dq_29_27 : decode (qx_code 29) 27 = .ok (.iload_n 1, 1) := by decide +kernel
theorem dq_29_28 : decode (qx_code 29) 28 = .ok (.iload_n 2, 1) := by decide +kernel
theorem dq_29_29 : decode (qx_code 29) 29 = .ok (.aload_n 0, 1) := by decide +kernel
theorem dq_29_30 : decode (qx_code 29) 30 = .ok (.invokevirtual 505, 3) := by decide +kernel
theorem dq_29_33 : decode (qx_code 29) 33 = .ok (.invokestatic 640, 3) := by decide +kernel
theorem dq_29_36 : decode (qx_code 29) 36 = .ok (.ireturn, 1) := by decide +kernel
theorem mt_29_492 : qx_mth 29 492 = some (30, 0) := by decide +kernel
theorem fl_29_9 : qx_fld 29 9 = some (7, 0) := by decide +kernel
theorem mt_29_505 : qx_mth 29 505 = some (31, 0) := by decide +kernel
theorem mt_29_637 : qx_mth 29 637 = some (33, 4) := by decide +kernel
theorem mt_29_640 : qx_mth 29 640 = some (38, 4) := by decide +kernel
theorem dq_33_0 : decode (qx_code 33) 0 = .ok (.iload_n 1, 1) := by decide +kernel
theorem dq_33_1 : decode (qx_code 33) 1 = .ok (.invokestatic 88, 3) := by decide +kernel
theorem dq_33_4 : decode (qx_code 33) 4 = .ok (.ifCond .ne 5, 3) := by decide +kernel
theorem dq_33_7 : decode (qx_code 33) 7 = .ok (.iconst (-1), 1) := by decide +kernel
theorem dq_33_8 : decode (qx_code 33) 8 = .ok (.ireturn, 1) := by decide +kernel
theorem dq_33_9 : decode (qx_code 33) 9 = .ok (.iload_n 2, 1) := by decide +kernel
theorem dq_33_10 : decode (qx_code 33) 10 = .ok (.iconst 0, 1) := by decide +kernel
theorem dq_33_11 : decode (qx_code 33) 11 = .ok (.invokestatic 92, 3) := by decide +kernel
theorem dq_33_14 : decode (qx_code 33) 14 = .ok (.istore_n 2, 1) := by decide +kernel
theorem dq_33_15 : decode (qx_code 33) 15 = .ok (.iload_n 3, 1) := by decide +kernel
theorem dq_33_16 : decode (qx_code 33) 16 = .ok (.aload_n 0, 1) := by decide +kernel
theorem dq_33_17 : decode (qx_code 33) 17 = .ok (.arraylength, 1) := by decide +kernel
theorem dq_33_18 : decode (qx_code 33) 18 = .ok (.invokestatic 38, 3) := by decide +kernel
theorem dq_33_21 : decode (qx_code 33) 21 = .ok (.istore_n 3, 1) := by decide +kernel
theorem dq_33_22 : decode (qx_code 33) 22 = .ok (.iload_n 2, 1) := by decide +kernel
theorem dq_33_23 : decode (qx_code 33) 23 = .ok (.iload_n 3, 1) := by decide +kernel
theorem dq_33_24 : decode (qx_code 33) 24 = .ok (.if_icmp .lt 5, 3) := by decide +kernel
theorem dq_33_27 : decode (qx_code 33) 27 = .ok (.iconst (-1), 1) := by decide +kernel
theorem dq_33_28 : decode (qx_code 33) 28 = .ok (.ireturn, 1) := by decide +kernel
theorem dq_33_29 : decode (qx_code 33) 29 = .ok (.aload_n 0, 1) := by decide +kernel
theorem dq_33_30 : decode (qx_code 33) 30 = .ok (.iload_n 1, 1) := by decide +kernel
theorem dq_33_31 : decode (qx_code 33) 31 = .ok (.iload_n 2, 1) := by decide +kernel
theorem dq_33_32 : decode (qx_code 33) 32 = .ok (.iload_n 3, 1) := by decide +kernel
theorem dq_33_33 : decode (qx_code 33) 33 = .ok (.invokestatic 95, 3) := by decide +kernel
theorem dq_33_36 : decode (qx_code 33) 36 = .ok (.ireturn, 1) := by decide +kernel
theorem mt_33_88 : qx_mth 33 88 = some (34, 1) := by decide +kernel
theorem mt_33_92 : qx_mth 33 92 = some (35, 2) := by decide +kernel
theorem mt_33_38 : qx_mth 33 38 = some (36, 2) := by decide +kernel
theorem mt_33_95 : qx_mth 33 95 = some (37, 4) := by decide +kernel
theorem dq_34_0 : decode (qx_code 34) 0 = .ok (.iload_n 0, 1) := by decide +kernel
theorem dq_34_1 : decode (qx_code 34) 1 = .ok (.ifCond .lt 14, 3) := by decide +kernel
theorem dq_34_4 : decode (qx_code 34) 4 = .ok (.iload_n 0, 1) := by decide +kernel
theorem dq_34_5 : decode (qx_code 34) 5 = .ok (.sipush 255, 3) := by decide +kernel
theorem dq_34_8 : decode (qx_code 34) 8 = .ok (.if_icmp .gt 7, 3) := by decide +kernel
theorem dq_34_11 : decode (qx_code 34) 11 = .ok (.iconst 1, 1) := by decide +kernel
theorem dq_34_12 : decode (qx_code 34) 12 = .ok (.goto 4, 3) := by decide +kernel
theorem dq_34_15 : decode (qx_code 34) 15 = .ok (.iconst 0, 1) := by decide +kernel
theorem dq_34_16 : decode (qx_code 34) 16 = .ok (.ireturn, 1) := by decide +kernel
theorem dq_35_0 : decode (qx_code 35) 0 = .ok (.iload_n 0, 1) := by decide +kernel
theorem dq_35_1 : decode (qx_code 35) 1 = .ok (.iload_n 1, 1) := by decide +kernel
theorem dq_35_2 : decode (qx_code 35) 2 = .ok (.if_icmp .lt 7, 3) := by decide +kernel
theorem dq_35_5 : decode (qx_code 35) 5 = .ok (.iload_n 0, 1) := by decide +kernel
theorem dq_35_6 : decode (qx_code 35) 6 = .ok (.goto 4, 3) := by decide +kernel
theorem dq_35_9 : decode (qx_code 35) 9 = .ok (.iload_n 1, 1) := by decide +kernel
theorem dq_35_10 : decode (qx_code 35) 10 = .ok (.ireturn, 1) := by decide +kernel
theorem dq_36_0 : decode (qx_code 36) 0 = .ok (.iload_n 0, 1) := by decide +kernel
theorem dq_36_1 : decode (qx_code 36) 1 = .ok (.iload_n 1, 1) := by decide +kernel
theorem dq_36_2 : decode (qx_code 36) 2 = .ok (.if_icmp .gt 7, 3) := by decide +kernel
theorem dq_36_5 : decode (qx_code 36) 5 = .ok (.iload_n 0, 1) := by decide +kernel
theorem dq_36_6 : decode (qx_code 36) 6 = .ok (.goto 4, 3) := by decide +kernel
theorem dq_36_9 : decode (qx_code 36) 9 = .ok (.iload_n 1, 1) := by decide +kernel
theorem dq_36_10 : decode (qx_code 36) 10 = .ok (.ireturn, 1) := by decide +kernel
theorem dq_37_0 : decode (qx_code 37) 0 = .ok (.iload_n 1, 1) := by decide +kernel
theorem dq_37_1 : decode (qx_code 37) 1 = .ok (.i2b, 1) := by decide +kernel
theorem dq_37_2 : decode (qx_code 37) 2 = .ok (.istore 4, 2) := by decide +kernel
theorem dq_37_4 : decode (qx_code 37) 4 = .ok (.iload_n 2, 1) := by decide +kernel
theorem dq_37_5 : decode (qx_code 37) 5 = .ok (.istore 5, 2) := by decide +kernel
theorem dq_37_7 : decode (qx_code 37) 7 = .ok (.iload 5, 2) := by decide +kernel
theorem dq_37_9 : decode (qx_code 37) 9 = .ok (.iload_n 3, 1) := by decide +kernel
theorem dq_37_10 : decode (qx_code 37) 10 = .ok (.if_icmp .ge 21, 3) := by decide +kernel
theorem dq_37_13 : decode (qx_code 37) 13 = .ok (.aload_n 0, 1) := by decide +kernel
theorem dq_37_14 : decode (qx_code 37) 14 = .ok (.iload 5, 2) := by decide +kernel
theorem dq_37_16 : decode (qx_code 37) 16 = .ok (.baload, 1) := by decide +kernel
theorem dq_37_17 : decode (qx_code 37) 17 = .ok (.iload 4, 2) := by decide +kernel
theorem dq_37_19 : decode (qx_code 37) 19 = .ok (.if_icmp .ne 6, 3) := by decide +kernel
theorem dq_37_22 : decode (qx_code 37) 22 = .ok (.iload 5, 2) := by decide +kernel
theorem dq_37_24 : decode (qx_code 37) 24 = .ok (.ireturn, 1) := by decide +kernel
theorem dq_37_25 : decode (qx_code 37) 25 = .ok (.iinc 5 1, 3) := by decide +kernel
theorem dq_37_28 : decode (qx_code 37) 28 = .ok (.goto (-21), 3) := by decide +kernel
theorem dq_37_31 : decode (qx_code 37) 31 = .ok (.iconst (-1), 1) := by decide +kernel
theorem dq_37_32 : decode (qx_code 37) 32 = .ok (.ireturn, 1) := by decide +kernel
