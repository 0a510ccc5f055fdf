theorem dq_85_0 : decode (qx_code 85) 0 = .ok (.iload_n 0, 1) := by decide +kernel
theorem dq_85_1 : decode (qx_code 85) 1 = .ok (.iload_n 0, 1) := by decide +kernel
theorem dq_85_2 : decode (qx_code 85) 2 = .ok (.iconst 1, 1) := by decide +kernel
theorem dq_85_3 : decode (qx_code 85) 3 = .ok (.iushr, 1) := by decide +kernel
theorem dq_85_4 : decode (qx_code 85) 4 = .ok (.ldc_w 265, 3) := by decide +kernel
theorem dq_85_7 : decode (qx_code 85) 7 = .ok (.iand, 1) := by decide +kernel
theorem dq_85_8 : decode (qx_code 85) 8 = .ok (.isub, 1) := by decide +kernel
theorem dq_85_9 : decode (qx_code 85) 9 = .ok (.istore_n 0, 1) := by decide +kernel
theorem dq_85_10 : decode (qx_code 85) 10 = .ok (.iload_n 0, 1) := by decide +kernel
theorem dq_85_11 : decode (qx_code 85) 11 = .ok (.ldc_w 266, 3) := by decide +kernel
theorem dq_85_14 : decode (qx_code 85) 14 = .ok (.iand, 1) := by decide +kernel
theorem dq_85_15 : decode (qx_code 85) 15 = .ok (.iload_n 0, 1) := by decide +kernel
theorem dq_85_16 : decode (qx_code 85) 16 = .ok (.iconst 2, 1) := by decide +kernel
theorem dq_85_17 : decode (qx_code 85) 17 = .ok (.iushr, 1) := by decide +kernel
theorem dq_85_18 : decode (qx_code 85) 18 = .ok (.ldc_w 266, 3) := by decide +kernel
theorem dq_85_21 : decode (qx_code 85) 21 = .ok (.iand, 1) := by decide +kernel
theorem dq_85_22 : decode (qx_code 85) 22 = .ok (.iadd, 1) := by decide +kernel
theorem dq_85_23 : decode (qx_code 85) 23 = .ok (.istore_n 0, 1) := by decide +kernel
theorem dq_85_24 : decode (qx_code 85) 24 = .ok (.iload_n 0, 1) := by decide +kernel
theorem dq_85_25 : decode (qx_code 85) 25 = .ok (.iload_n 0, 1) := by decide +kernel
theorem dq_85_26 : decode (qx_code 85) 26 = .ok (.iconst 4, 1) := by decide +kernel
theorem dq_85_27 : decode (qx_code 85) 27 = .ok (.iushr, 1) := by decide +kernel
theorem dq_85_28 : decode (qx_code 85) 28 = .ok (.iadd, 1) := by decide +kernel
theorem dq_85_29 : decode (qx_code 85) 29 = .ok (.ldc_w 267, 3) := by decide +kernel
theorem dq_85_32 : decode (qx_code 85) 32 = .ok (.iand, 1) := by decide +kernel
theorem dq_85_33 : decode (qx_code 85) 33 = .ok (.istore_n 0, 1) := by decide +kernel
theorem dq_85_34 : decode (qx_code 85) 34 = .ok (.iload_n 0, 1) := by decide +kernel
theorem dq_85_35 : decode (qx_code 85) 35 = .ok (.iload_n 0, 1) := by decide +kernel
theorem dq_85_36 : decode (qx_code 85) 36 = .ok (.bipush 8, 2) := by decide +kernel
theorem dq_85_38 : decode (qx_code 85) 38 = .ok (.iushr, 1) := by decide +kernel
theorem dq_85_39 : decode (qx_code 85) 39 = .ok (.iadd, 1) := by decide +kernel
theorem dq_85_40 : decode (qx_code 85) 40 = .ok (.istore_n 0, 1) := by decide +kernel
theorem dq_85_41 : decode (qx_code 85) 41 = .ok (.iload_n 0, 1) := by decide +kernel
theorem dq_85_42 : decode (qx_code 85) 42 = .ok (.iload_n 0, 1) := by decide +kernel
theorem dq_85_43 : decode (qx_code 85) 43 = .ok (.bipush 16, 2) := by decide +kernel
theorem dq_85_45 : decode (qx_code 85) 45 = .ok (.iushr, 1) := by decide +kernel
theorem dq_85_46 : decode (qx_code 85) 46 = .ok (.iadd, 1) := by decide +kernel
theorem dq_85_47 : decode (qx_code 85) 47 = .ok (.istore_n 0, 1) := by decide +kernel
theorem dq_85_48 : decode (qx_code 85) 48 = .ok (.iload_n 0, 1) := by decide +kernel
theorem dq_85_49 : decode (qx_code 85) 49 = .ok (.bipush 63, 2) := by decide +kernel
theorem dq_85_51 : decode (qx_code 85) 51 = .ok (.iand, 1) := by decide +kernel
theorem dq_85_52 : decode (qx_code 85) 52 = .ok (.ireturn, 1) := by decide +kernel
theorem dq_67_0 : decode (qx_code 67) 0 = .ok (.iload_n 0, 1) := by decide +kernel
theorem dq_67_1 : decode (qx_code 67) 1 = .ok (.iload_n 1, 1) := by decide +kernel
theorem dq_67_2 : decode (qx_code 67) 2 = .ok (.iand, 1) := by decide +kernel
theorem dq_67_3 : decode (qx_code 67) 3 = .ok (.ifCond .eq 7, 3) := by decide +kernel
theorem dq_67_6 : decode (qx_code 67) 6 = .ok (.iconst 1, 1) := by decide +kernel
theorem dq_67_7 : decode (qx_code 67) 7 = .ok (.goto 4, 3) := by decide +kernel
theorem dq_67_10 : decode (qx_code 67) 10 = .ok (.iconst 0, 1) := by decide +kernel
theorem dq_67_11 : decode (qx_code 67) 11 = .ok (.ireturn, 1) := by decide +kernel
theorem dq_68_0 : decode (qx_code 68) 0 = .ok (.iload_n 0, 1) := by decide +kernel
theorem dq_68_1 : decode (qx_code 68) 1 = .ok (.iload_n 1, 1) := by decide +kernel
theorem dq_68_2 : decode (qx_code 68) 2 = .ok (.iand, 1) := by decide +kernel
theorem dq_68_3 : decode (qx_code 68) 3 = .ok (.iload_n 1, 1) := by decide +kernel
theorem dq_68_4 : decode (qx_code 68) 4 = .ok (.if_icmp .ne 7, 3) := by decide +kernel
theorem dq_68_7 : decode (qx_code 68) 7 = .ok (.iconst 1, 1) := by decide +kernel
theorem dq_68_8 : decode (qx_code 68) 8 = .ok (.goto 4, 3) := by decide +kernel
theorem dq_68_11 : decode (qx_code 68) 11 = .ok (.iconst 0, 1) := by decide +kernel
theorem dq_68_12 : decode (qx_code 68) 12 = .ok (.ireturn, 1) := by decide +kernel
theorem dq_84_0 : decode (qx_code 84) 0 = .ok (.iload_n 0, 1) := by decide +kernel
theorem dq_84_1 : decode (qx_code 84) 1 = .ok (.bipush 7, 2) := by decide +kernel
theorem dq_84_3 : decode (qx_code 84) 3 = .ok (.iand, 1) := by decide +kernel
theorem dq_84_4 : decode (qx_code 84) 4 = .ok (.invokestatic 23, 3) := by decide +kernel
theorem dq_84_7 : decode (qx_code 84) 7 = .ok (.iconst 1, 1) := by decide +kernel
theorem dq_84_8 : decode (qx_code 84) 8 = .ok (.if_icmp .gt 7, 3) := by decide +kernel
theorem dq_84_11 : decode (qx_code 84) 11 = .ok (.iconst 1, 1) := by decide +kernel
theorem dq_84_12 : decode (qx_code 84) 12 = .ok (.goto 4, 3) := by decide +kernel
theorem dq_84_15 : decode (qx_code 84) 15 = .ok (.iconst 0, 1) := by decide +kernel
theorem dq_84_16 : decode (qx_code 84) 16 = .ok (.ireturn, 1) := by decide +kernel
theorem mt_84_23 : qx_mth 84 23 = some (85, 1) := by decide +kernel
theorem dq_66_0 : decode (qx_code 66) 0 = .ok (.iload_n 0, 1) := by decide +kernel
theorem dq_66_1 : decode (qx_code 66) 1 = .ok (.sipush 512, 3) := by decide +kernel
theorem dq_66_4 : decode (qx_code 66) 4 = .ok (.invokestatic 9, 3) := by decide +kernel
theorem dq_66_7 : decode (qx_code 66) 7 = .ok (.ireturn, 1) := by decide +kernel
theorem mt_66_9 : qx_mth 66 9 = some (67, 2) := by decide +kernel
theorem dq_65_0 : decode (qx_code 65) 0 = .ok (.iload_n 0, 1) := by decide +kernel
theorem dq_65_1 : decode (qx_code 65) 1 = .ok (.invokestatic 13, 3) := by decide +kernel
theorem dq_65_4 : decode (qx_code 65) 4 = .ok (.ifCond .eq 29, 3) := by decide +kernel
theorem dq_65_7 : decode (qx_code 65) 7 = .ok (.iload_n 0, 1) := by decide +kernel
theorem dq_65_8 : decode (qx_code 65) 8 = .ok (.sipush 1024, 3) := by decide +kernel
theorem dq_65_11 : decode (qx_code 65) 11 = .ok (.invokestatic 9, 3) := by decide +kernel
theorem dq_65_14 : decode (qx_code 65) 14 = .ok (.ifCond .eq 17, 3) := by decide +kernel
theorem dq_65_17 : decode (qx_code 65) 17 = .ok (.iload_n 0, 1) := by decide +kernel
theorem dq_65_18 : decode (qx_code 65) 18 = .ok (.sipush 16432, 3) := by decide +kernel
theorem dq_65_21 : decode (qx_code 65) 21 = .ok (.invokestatic 9, 3) := by decide +kernel
theorem dq_65_24 : decode (qx_code 65) 24 = .ok (.ifCond .ne 7, 3) := by decide +kernel
theorem dq_65_27 : decode (qx_code 65) 27 = .ok (.iconst 1, 1) := by decide +kernel
theorem dq_65_28 : decode (qx_code 65) 28 = .ok (.goto 4, 3) := by decide +kernel
theorem dq_65_31 : decode (qx_code 65) 31 = .ok (.iconst 0, 1) := by decide +kernel
theorem dq_65_32 : decode (qx_code 65) 32 = .ok (.ireturn, 1) := by decide +kernel
theorem dq_65_33 : decode (qx_code 65) 33 = .ok (.iload_n 0, 1) := by decide +kernel
theorem dq_65_34 : decode (qx_code 65) 34 = .ok (.sipush 1040, 3) := by decide +kernel
theorem dq_65_37 : decode (qx_code 65) 37 = .ok (.invokestatic 17, 3) := by decide +kernel
theorem dq_65_40 : decode (qx_code 65) 40 = .ok (.ifCond .ne 17, 3) := by decide +kernel
theorem dq_65_43 : decode (qx_code 65) 43 = .ok (.iload_n 0, 1) := by decide +kernel
theorem dq_65_44 : decode (qx_code 65) 44 = .ok (.sipush 8192, 3) := by decide +kernel
theorem dq_65_47 : decode (qx_code 65) 47 = .ok (.invokestatic 9, 3) := by decide +kernel
theorem dq_65_50 : decode (qx_code 65) 50 = .ok (.ifCond .ne 7, 3) := by decide +kernel
theorem dq_65_53 : decode (qx_code 65) 53 = .ok (.iconst 1, 1) := by decide +kernel
theorem dq_65_54 : decode (qx_code 65) 54 = .ok (.goto 4, 3) := by decide +kernel
theorem dq_65_57 : decode (qx_code 65) 57 = .ok (.iconst 0, 1) := by decide +kernel
theorem dq_65_58 : decode (qx_code 65) 58 = .ok (.ireturn, 1) := by decide +kernel
theorem mt_65_13 : qx_mth 65 13 = some (66, 1) := by decide +kernel
theorem mt_65_9 : qx_mth 65 9 = some (67, 2) := by decide +kernel
theorem mt_65_17 : qx_mth 65 17 = some (68, 2) := by decide +kernel
theorem dq_83_0 : decode (qx_code 83) 0 = .ok (.iload_n 0, 1) := by decide +kernel
theorem dq_83_1 : decode (qx_code 83) 1 = .ok (.invokestatic 20, 3) := by decide +kernel
theorem dq_83_4 : decode (qx_code 83) 4 = .ok (.ifCond .eq 29, 3) := by decide +kernel
theorem dq_83_7 : decode (qx_code 83) 7 = .ok (.iload_n 0, 1) := by decide +kernel
theorem dq_83_8 : decode (qx_code 83) 8 = .ok (.bipush 80, 2) := by decide +kernel
theorem dq_83_10 : decode (qx_code 83) 10 = .ok (.invokestatic 17, 3) := by decide +kernel
theorem dq_83_13 : decode (qx_code 83) 13 = .ok (.ifCond .ne 20, 3) := by decide +kernel
theorem dq_83_16 : decode (qx_code 83) 16 = .ok (.iload_n 1, 1) := by decide +kernel
theorem dq_83_17 : decode (qx_code 83) 17 = .ok (.ifCond .eq 12, 3) := by decide +kernel
theorem dq_83_20 : decode (qx_code 83) 20 = .ok (.iload_n 0, 1) := by decide +kernel
theorem dq_83_21 : decode (qx_code 83) 21 = .ok (.bipush 25, 2) := by decide +kernel
theorem dq_83_23 : decode (qx_code 83) 23 = .ok (.invokestatic 17, 3) := by decide +kernel
theorem dq_83_26 : decode (qx_code 83) 26 = .ok (.ifCond .eq 7, 3) := by decide +kernel
theorem dq_83_29 : decode (qx_code 83) 29 = .ok (.iconst 1, 1) := by decide +kernel
theorem dq_83_30 : decode (qx_code 83) 30 = .ok (.goto 4, 3) := by decide +kernel
theorem dq_83_33 : decode (qx_code 83) 33 = .ok (.iconst 0, 1) := by decide +kernel
theorem dq_83_34 : decode (qx_code 83) 34 = .ok (.ireturn, 1) := by decide +kernel
theorem mt_83_20 : qx_mth 83 20 = some (84, 1) := by decide +kernel
theorem mt_83_17 : qx_mth 83 17 = some (68, 2) := by decide +kernel
theorem dq_88_0 : decode (qx_code 88) 0 = .ok (.iload_n 0, 1) := by decide +kernel
theorem dq_88_1 : decode (qx_code 88) 1 = .ok (.invokestatic 20, 3) := by decide +kernel
theorem dq_88_4 : decode (qx_code 88) 4 = .ok (.ifCond .eq 58, 3) := by decide +kernel
theorem dq_88_7 : decode (qx_code 88) 7 = .ok (.iload_n 0, 1) := by decide +kernel
theorem dq_88_8 : decode (qx_code 88) 8 = .ok (.sipush 1024, 3) := by decide +kernel
theorem dq_88_11 : decode (qx_code 88) 11 = .ok (.invokestatic 9, 3) := by decide +kernel
theorem dq_88_14 : decode (qx_code 88) 14 = .ok (.ifCond .eq 13, 3) := by decide +kernel
theorem dq_88_17 : decode (qx_code 88) 17 = .ok (.iload_n 0, 1) := by decide +kernel
theorem dq_88_18 : decode (qx_code 88) 18 = .ok (.sipush 314, 3) := by decide +kernel
theorem dq_88_21 : decode (qx_code 88) 21 = .ok (.invokestatic 9, 3) := by decide +kernel
theorem dq_88_24 : decode (qx_code 88) 24 = .ok (.ifCond .ne 38, 3) := by decide +kernel
theorem dq_88_27 : decode (qx_code 88) 27 = .ok (.iload_n 2, 1) := by decide +kernel
theorem dq_88_28 : decode (qx_code 88) 28 = .ok (.ifCond .eq 13, 3) := by decide +kernel
theorem dq_88_31 : decode (qx_code 88) 31 = .ok (.iload_n 0, 1) := by decide +kernel
theorem dq_88_32 : decode (qx_code 88) 32 = .ok (.sipush 1336, 3) := by decide +kernel
theorem dq_88_35 : decode (qx_code 88) 35 = .ok (.invokestatic 9, 3) := by decide +kernel
theorem dq_88_38 : decode (qx_code 88) 38 = .ok (.ifCond .ne 24, 3) := by decide +kernel
theorem dq_88_41 : decode (qx_code 88) 41 = .ok (.iload_n 1, 1) := by decide +kernel
theorem dq_88_42 : decode (qx_code 88) 42 = .ok (.ifCond .eq 16, 3) := by decide +kernel
theorem dq_88_45 : decode (qx_code 88) 45 = .ok (.iload_n 0, 1) := by decide +kernel
theorem dq_88_46 : decode (qx_code 88) 46 = .ok (.iconst 1, 1) := by decide +kernel
theorem dq_88_47 : decode (qx_code 88) 47 = .ok (.invokestatic 9, 3) := by decide +kernel
theorem dq_88_50 : decode (qx_code 88) 50 = .ok (.iload_n 0, 1) := by decide +kernel
theorem dq_88_51 : decode (qx_code 88) 51 = .ok (.iconst 2, 1) := by decide +kernel
theorem dq_88_52 : decode (qx_code 88) 52 = .ok (.invokestatic 9, 3) := by decide +kernel
theorem dq_88_55 : decode (qx_code 88) 55 = .ok (.if_icmp .eq 7, 3) := by decide +kernel
theorem dq_88_58 : decode (qx_code 88) 58 = .ok (.iconst 1, 1) := by decide +kernel
theorem dq_88_59 : decode (qx_code 88) 59 = .ok (.goto 4, 3) := by decide +kernel
theorem dq_88_62 : decode (qx_code 88) 62 = .ok (.iconst 0, 1) := by decide +kernel
theorem dq_88_63 : decode (qx_code 88) 63 = .ok (.ireturn, 1) := by decide +kernel
theorem mt_88_20 : qx_mth 88 20 = some (84, 1) := by decide +kernel
theorem mt_88_9 : qx_mth 88 9 = some (67, 2) := by decide +kernel
