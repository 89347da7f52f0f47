/-! decode rows, J -/
theorem d_Jint_bitCount_0 : decode prog_13_method_49_code 0 = .ok (.iload_n 0, 1) := by decide +kernel
theorem d_Jint_bitCount_1 : decode prog_13_method_49_code 1 = .ok (.iload_n 0, 1) := by decide +kernel
theorem d_Jint_bitCount_2 : decode prog_13_method_49_code 2 = .ok (.iconst 1, 1) := by decide +kernel
theorem d_Jint_bitCount_3 : decode prog_13_method_49_code 3 = .ok (.iushr, 1) := by decide +kernel
theorem d_Jint_bitCount_4 : decode prog_13_method_49_code 4 = .ok (.ldc_w 265, 3) := by decide +kernel
theorem d_Jint_bitCount_7 : decode prog_13_method_49_code 7 = .ok (.iand, 1) := by decide +kernel
theorem d_Jint_bitCount_8 : decode prog_13_method_49_code 8 = .ok (.isub, 1) := by decide +kernel
theorem d_Jint_bitCount_9 : decode prog_13_method_49_code 9 = .ok (.istore_n 0, 1) := by decide +kernel
theorem d_Jint_bitCount_10 : decode prog_13_method_49_code 10 = .ok (.iload_n 0, 1) := by decide +kernel
theorem d_Jint_bitCount_11 : decode prog_13_method_49_code 11 = .ok (.ldc_w 266, 3) := by decide +kernel
theorem d_Jint_bitCount_14 : decode prog_13_method_49_code 14 = .ok (.iand, 1) := by decide +kernel
theorem d_Jint_bitCount_15 : decode prog_13_method_49_code 15 = .ok (.iload_n 0, 1) := by decide +kernel
theorem d_Jint_bitCount_16 : decode prog_13_method_49_code 16 = .ok (.iconst 2, 1) := by decide +kernel
theorem d_Jint_bitCount_17 : decode prog_13_method_49_code 17 = .ok (.iushr, 1) := by decide +kernel
theorem d_Jint_bitCount_18 : decode prog_13_method_49_code 18 = .ok (.ldc_w 266, 3) := by decide +kernel
theorem d_Jint_bitCount_21 : decode prog_13_method_49_code 21 = .ok (.iand, 1) := by decide +kernel
theorem d_Jint_bitCount_22 : decode prog_13_method_49_code 22 = .ok (.iadd, 1) := by decide +kernel
theorem d_Jint_bitCount_23 : decode prog_13_method_49_code 23 = .ok (.istore_n 0, 1) := by decide +kernel
theorem d_Jint_bitCount_24 : decode prog_13_method_49_code 24 = .ok (.iload_n 0, 1) := by decide +kernel
theorem d_Jint_bitCount_25 : decode prog_13_method_49_code 25 = .ok (.iload_n 0, 1) := by decide +kernel
theorem d_Jint_bitCount_26 : decode prog_13_method_49_code 26 = .ok (.iconst 4, 1) := by decide +kernel
theorem d_Jint_bitCount_27 : decode prog_13_method_49_code 27 = .ok (.iushr, 1) := by decide +kernel
theorem d_Jint_bitCount_28 : decode prog_13_method_49_code 28 = .ok (.iadd, 1) := by decide +kernel
theorem d_Jint_bitCount_29 : decode prog_13_method_49_code 29 = .ok (.ldc_w 267, 3) := by decide +kernel
theorem d_Jint_bitCount_32 : decode prog_13_method_49_code 32 = .ok (.iand, 1) := by decide +kernel
theorem d_Jint_bitCount_33 : decode prog_13_method_49_code 33 = .ok (.istore_n 0, 1) := by decide +kernel
theorem d_Jint_bitCount_34 : decode prog_13_method_49_code 34 = .ok (.iload_n 0, 1) := by decide +kernel
theorem d_Jint_bitCount_35 : decode prog_13_method_49_code 35 = .ok (.iload_n 0, 1) := by decide +kernel
theorem d_Jint_bitCount_36 : decode prog_13_method_49_code 36 = .ok (.bipush 8, 2) := by decide +kernel
theorem d_Jint_bitCount_38 : decode prog_13_method_49_code 38 = .ok (.iushr, 1) := by decide +kernel
theorem d_Jint_bitCount_39 : decode prog_13_method_49_code 39 = .ok (.iadd, 1) := by decide +kernel
theorem d_Jint_bitCount_40 : decode prog_13_method_49_code 40 = .ok (.istore_n 0, 1) := by decide +kernel
theorem d_Jint_bitCount_41 : decode prog_13_method_49_code 41 = .ok (.iload_n 0, 1) := by decide +kernel
theorem d_Jint_bitCount_42 : decode prog_13_method_49_code 42 = .ok (.iload_n 0, 1) := by decide +kernel
theorem d_Jint_bitCount_43 : decode prog_13_method_49_code 43 = .ok (.bipush 16, 2) := by decide +kernel
theorem d_Jint_bitCount_45 : decode prog_13_method_49_code 45 = .ok (.iushr, 1) := by decide +kernel
theorem d_Jint_bitCount_46 : decode prog_13_method_49_code 46 = .ok (.iadd, 1) := by decide +kernel
theorem d_Jint_bitCount_47 : decode prog_13_method_49_code 47 = .ok (.istore_n 0, 1) := by decide +kernel
theorem d_Jint_bitCount_48 : decode prog_13_method_49_code 48 = .ok (.iload_n 0, 1) := by decide +kernel
theorem d_Jint_bitCount_49 : decode prog_13_method_49_code 49 = .ok (.bipush 63, 2) := by decide +kernel
theorem d_Jint_bitCount_51 : decode prog_13_method_49_code 51 = .ok (.iand, 1) := by decide +kernel
theorem d_Jint_bitCount_52 : decode prog_13_method_49_code 52 = .ok (.ireturn, 1) := by decide +kernel
theorem d_Jmath_floorDiv_0 : decode prog_14_method_49_code 0 = .ok (.lload_n 0, 1) := by decide +kernel
theorem d_Jmath_floorDiv_1 : decode prog_14_method_49_code 1 = .ok (.lload_n 2, 1) := by decide +kernel
theorem d_Jmath_floorDiv_2 : decode prog_14_method_49_code 2 = .ok (.ldiv, 1) := by decide +kernel
theorem d_Jmath_floorDiv_3 : decode prog_14_method_49_code 3 = .ok (.lstore 4, 2) := by decide +kernel
theorem d_Jmath_floorDiv_5 : decode prog_14_method_49_code 5 = .ok (.lload_n 0, 1) := by decide +kernel
theorem d_Jmath_floorDiv_6 : decode prog_14_method_49_code 6 = .ok (.lload_n 2, 1) := by decide +kernel
theorem d_Jmath_floorDiv_7 : decode prog_14_method_49_code 7 = .ok (.lxor, 1) := by decide +kernel
theorem d_Jmath_floorDiv_8 : decode prog_14_method_49_code 8 = .ok (.lconst 0, 1) := by decide +kernel
theorem d_Jmath_floorDiv_9 : decode prog_14_method_49_code 9 = .ok (.lcmp, 1) := by decide +kernel
theorem d_Jmath_floorDiv_10 : decode prog_14_method_49_code 10 = .ok (.ifCond .ge 17, 3) := by decide +kernel
theorem d_Jmath_floorDiv_13 : decode prog_14_method_49_code 13 = .ok (.lload 4, 2) := by decide +kernel
theorem d_Jmath_floorDiv_15 : decode prog_14_method_49_code 15 = .ok (.lload_n 2, 1) := by decide +kernel
theorem d_Jmath_floorDiv_16 : decode prog_14_method_49_code 16 = .ok (.lmul, 1) := by decide +kernel
theorem d_Jmath_floorDiv_17 : decode prog_14_method_49_code 17 = .ok (.lload_n 0, 1) := by decide +kernel
theorem d_Jmath_floorDiv_18 : decode prog_14_method_49_code 18 = .ok (.lcmp, 1) := by decide +kernel
theorem d_Jmath_floorDiv_19 : decode prog_14_method_49_code 19 = .ok (.ifCond .eq 8, 3) := by decide +kernel
theorem d_Jmath_floorDiv_22 : decode prog_14_method_49_code 22 = .ok (.lload 4, 2) := by decide +kernel
theorem d_Jmath_floorDiv_24 : decode prog_14_method_49_code 24 = .ok (.lconst 1, 1) := by decide +kernel
theorem d_Jmath_floorDiv_25 : decode prog_14_method_49_code 25 = .ok (.lsub, 1) := by decide +kernel
theorem d_Jmath_floorDiv_26 : decode prog_14_method_49_code 26 = .ok (.lreturn, 1) := by decide +kernel
theorem d_Jmath_floorDiv_27 : decode prog_14_method_49_code 27 = .ok (.lload 4, 2) := by decide +kernel
theorem d_Jmath_floorDiv_29 : decode prog_14_method_49_code 29 = .ok (.lreturn, 1) := by decide +kernel
theorem d_Jmath_floorMod_0 : decode prog_14_method_52_code 0 = .ok (.lload_n 0, 1) := by decide +kernel
theorem d_Jmath_floorMod_1 : decode prog_14_method_52_code 1 = .ok (.lload_n 2, 1) := by decide +kernel
theorem d_Jmath_floorMod_2 : decode prog_14_method_52_code 2 = .ok (.lrem, 1) := by decide +kernel
theorem d_Jmath_floorMod_3 : decode prog_14_method_52_code 3 = .ok (.lstore 4, 2) := by decide +kernel
theorem d_Jmath_floorMod_5 : decode prog_14_method_52_code 5 = .ok (.lload_n 0, 1) := by decide +kernel
theorem d_Jmath_floorMod_6 : decode prog_14_method_52_code 6 = .ok (.lload_n 2, 1) := by decide +kernel
theorem d_Jmath_floorMod_7 : decode prog_14_method_52_code 7 = .ok (.lxor, 1) := by decide +kernel
theorem d_Jmath_floorMod_8 : decode prog_14_method_52_code 8 = .ok (.lconst 0, 1) := by decide +kernel
theorem d_Jmath_floorMod_9 : decode prog_14_method_52_code 9 = .ok (.lcmp, 1) := by decide +kernel
theorem d_Jmath_floorMod_10 : decode prog_14_method_52_code 10 = .ok (.ifCond .ge 15, 3) := by decide +kernel
theorem d_Jmath_floorMod_13 : decode prog_14_method_52_code 13 = .ok (.lload 4, 2) := by decide +kernel
theorem d_Jmath_floorMod_15 : decode prog_14_method_52_code 15 = .ok (.lconst 0, 1) := by decide +kernel
theorem d_Jmath_floorMod_16 : decode prog_14_method_52_code 16 = .ok (.lcmp, 1) := by decide +kernel
theorem d_Jmath_floorMod_17 : decode prog_14_method_52_code 17 = .ok (.ifCond .eq 8, 3) := by decide +kernel
theorem d_Jmath_floorMod_20 : decode prog_14_method_52_code 20 = .ok (.lload 4, 2) := by decide +kernel
theorem d_Jmath_floorMod_22 : decode prog_14_method_52_code 22 = .ok (.lload_n 2, 1) := by decide +kernel
theorem d_Jmath_floorMod_23 : decode prog_14_method_52_code 23 = .ok (.ladd, 1) := by decide +kernel
theorem d_Jmath_floorMod_24 : decode prog_14_method_52_code 24 = .ok (.lreturn, 1) := by decide +kernel
theorem d_Jmath_floorMod_25 : decode prog_14_method_52_code 25 = .ok (.lload 4, 2) := by decide +kernel
theorem d_Jmath_floorMod_27 : decode prog_14_method_52_code 27 = .ok (.lreturn, 1) := by decide +kernel
theorem d_Jmath_abs_0 : decode prog_14_method_61_code 0 = .ok (.lload_n 0, 1) := by decide +kernel
theorem d_Jmath_abs_1 : decode prog_14_method_61_code 1 = .ok (.lconst 0, 1) := by decide +kernel
theorem d_Jmath_abs_2 : decode prog_14_method_61_code 2 = .ok (.lcmp, 1) := by decide +kernel
theorem d_Jmath_abs_3 : decode prog_14_method_61_code 3 = .ok (.ifCond .ge 8, 3) := by decide +kernel
theorem d_Jmath_abs_6 : decode prog_14_method_61_code 6 = .ok (.lload_n 0, 1) := by decide +kernel
theorem d_Jmath_abs_7 : decode prog_14_method_61_code 7 = .ok (.lneg, 1) := by decide +kernel
theorem d_Jmath_abs_8 : decode prog_14_method_61_code 8 = .ok (.goto 4, 3) := by decide +kernel
theorem d_Jmath_abs_11 : decode prog_14_method_61_code 11 = .ok (.lload_n 0, 1) := by decide +kernel
theorem d_Jmath_abs_12 : decode prog_14_method_61_code 12 = .ok (.lreturn, 1) := by decide +kernel
theorem d_Jmath_max_0 : decode prog_14_method_66_code 0 = .ok (.lload_n 0, 1) := by decide +kernel
theorem d_Jmath_max_1 : decode prog_14_method_66_code 1 = .ok (.lload_n 2, 1) := by decide +kernel
theorem d_Jmath_max_2 : decode prog_14_method_66_code 2 = .ok (.lcmp, 1) := by decide +kernel
theorem d_Jmath_max_3 : decode prog_14_method_66_code 3 = .ok (.ifCond .lt 7, 3) := by decide +kernel
theorem d_Jmath_max_6 : decode prog_14_method_66_code 6 = .ok (.lload_n 0, 1) := by decide +kernel
theorem d_Jmath_max_7 : decode prog_14_method_66_code 7 = .ok (.goto 4, 3) := by decide +kernel
theorem d_Jmath_max_10 : decode prog_14_method_66_code 10 = .ok (.lload_n 2, 1) := by decide +kernel
theorem d_Jmath_max_11 : decode prog_14_method_66_code 11 = .ok (.lreturn, 1) := by decide +kernel
theorem d_Jmath_min_II_0 : decode prog_14_method_69_code 0 = .ok (.iload_n 0, 1) := by decide +kernel
theorem d_Jmath_min_II_1 : decode prog_14_method_69_code 1 = .ok (.iload_n 1, 1) := by decide +kernel
theorem d_Jmath_min_II_2 : decode prog_14_method_69_code 2 = .ok (.if_icmp .gt 7, 3) := by decide +kernel
theorem d_Jmath_min_II_5 : decode prog_14_method_69_code 5 = .ok (.iload_n 0, 1) := by decide +kernel
theorem d_Jmath_min_II_6 : decode prog_14_method_69_code 6 = .ok (.goto 4, 3) := by decide +kernel
theorem d_Jmath_min_II_9 : decode prog_14_method_69_code 9 = .ok (.iload_n 1, 1) := by decide +kernel
theorem d_Jmath_min_II_10 : decode prog_14_method_69_code 10 = .ok (.ireturn, 1) := by decide +kernel
theorem d_Jmath_min_JJ_0 : decode prog_14_method_70_code 0 = .ok (.lload_n 0, 1) := by decide +kernel
theorem d_Jmath_min_JJ_1 : decode prog_14_method_70_code 1 = .ok (.lload_n 2, 1) := by decide +kernel
theorem d_Jmath_min_JJ_2 : decode prog_14_method_70_code 2 = .ok (.lcmp, 1) := by decide +kernel
theorem d_Jmath_min_JJ_3 : decode prog_14_method_70_code 3 = .ok (.ifCond .gt 7, 3) := by decide +kernel
theorem d_Jmath_min_JJ_6 : decode prog_14_method_70_code 6 = .ok (.lload_n 0, 1) := by decide +kernel
theorem d_Jmath_min_JJ_7 : decode prog_14_method_70_code 7 = .ok (.goto 4, 3) := by decide +kernel
theorem d_Jmath_min_JJ_10 : decode prog_14_method_70_code 10 = .ok (.lload_n 2, 1) := by decide +kernel
theorem d_Jmath_min_JJ_11 : decode prog_14_method_70_code 11 = .ok (.lreturn, 1) := by decide +kernel
theorem d_Jstr_length_0 : decode prog_15_method_54_code 0 = .ok (.aload_n 0, 1) := by decide +kernel
theorem d_Jstr_length_1 : decode prog_15_method_54_code 1 = .ok (.getfield 9, 3) := by decide +kernel
theorem d_Jstr_length_4 : decode prog_15_method_54_code 4 = .ok (.arraylength, 1) := by decide +kernel
theorem d_Jstr_length_5 : decode prog_15_method_54_code 5 = .ok (.aload_n 0, 1) := by decide +kernel
theorem d_Jstr_length_6 : decode prog_15_method_54_code 6 = .ok (.invokevirtual 335, 3) := by decide +kernel
theorem d_Jstr_length_9 : decode prog_15_method_54_code 9 = .ok (.ishr, 1) := by decide +kernel
theorem d_Jstr_length_10 : decode prog_15_method_54_code 10 = .ok (.ireturn, 1) := by decide +kernel
theorem d_Jstr_charAt_0 : decode prog_15_method_56_code 0 = .ok (.aload_n 0, 1) := by decide +kernel
theorem d_Jstr_charAt_1 : decode prog_15_method_56_code 1 = .ok (.invokevirtual 492, 3) := by decide +kernel
theorem d_Jstr_charAt_4 : decode prog_15_method_56_code 4 = .ok (.ifCond .eq 12, 3) := by decide +kernel
theorem d_Jstr_charAt_7 : decode prog_15_method_56_code 7 = .ok (.aload_n 0, 1) := by decide +kernel
theorem d_Jstr_charAt_8 : decode prog_15_method_56_code 8 = .ok (.getfield 9, 3) := by decide +kernel
theorem d_Jstr_charAt_11 : decode prog_15_method_56_code 11 = .ok (.iload_n 1, 1) := by decide +kernel
theorem d_Jstr_charAt_12 : decode prog_15_method_56_code 12 = .ok (.invokestatic 495, 3) := by decide +kernel
theorem d_Jstr_charAt_15 : decode prog_15_method_56_code 15 = .ok (.ireturn, 1) := by decide +kernel
theorem d_Jstr_charAt_16 : decode prog_15_method_56_code 16 = .ok (.aload_n 0, 1) := by decide +kernel
theorem d_Jstr_charAt_17 : decode prog_15_method_56_code 17 = .ok (.getfield 9, 3) := by decide +kernel
theorem d_Jstr_charAt_20 : decode prog_15_method_56_code 20 = .ok (.iload_n 1, 1) := by decide +kernel
theorem d_Jstr_charAt_21 : decode prog_15_method_56_code 21 = .ok (.invokestatic 498, 3) := by decide +kernel
theorem d_Jstr_charAt_24 : decode prog_15_method_56_code 24 = .ok (.ireturn, 1) := by decide +kernel
theorem d_Jstr_coder_0 : decode prog_15_method_152_code 0 = .ok (.getstatic 38, 3) := by decide +kernel
theorem d_Jstr_coder_3 : decode prog_15_method_152_code 3 = .ok (.ifCond .eq 10, 3) := by decide +kernel
theorem d_Jstr_coder_6 : decode prog_15_method_152_code 6 = .ok (.aload_n 0, 1) := by decide +kernel
theorem d_Jstr_coder_7 : decode prog_15_method_152_code 7 = .ok (.getfield 15, 3) := by decide +kernel
theorem d_Jstr_coder_10 : decode prog_15_method_152_code 10 = .ok (.goto 4, 3) := by decide +kernel
theorem d_Jstr_coder_13 : decode prog_15_method_152_code 13 = .ok (.iconst 1, 1) := by decide +kernel
theorem d_Jstr_coder_14 : decode prog_15_method_152_code 14 = .ok (.ireturn, 1) := by decide +kernel
theorem d_Jstr_isLatin1_0 : decode prog_15_method_154_code 0 = .ok (.getstatic 38, 3) := by decide +kernel
theorem d_Jstr_isLatin1_3 : decode prog_15_method_154_code 3 = .ok (.ifCond .eq 14, 3) := by decide +kernel
theorem d_Jstr_isLatin1_6 : decode prog_15_method_154_code 6 = .ok (.aload_n 0, 1) := by decide +kernel
theorem d_Jstr_isLatin1_7 : decode prog_15_method_154_code 7 = .ok (.getfield 15, 3) := by decide +kernel
theorem d_Jstr_isLatin1_10 : decode prog_15_method_154_code 10 = .ok (.ifCond .ne 7, 3) := by decide +kernel
theorem d_Jstr_isLatin1_13 : decode prog_15_method_154_code 13 = .ok (.iconst 1, 1) := by decide +kernel
theorem d_Jstr_isLatin1_14 : decode prog_15_method_154_code 14 = .ok (.goto 4, 3) := by decide +kernel
theorem d_Jstr_isLatin1_17 : decode prog_15_method_154_code 17 = .ok (.iconst 0, 1) := by decide +kernel
theorem d_Jstr_isLatin1_18 : decode prog_15_method_154_code 18 = .ok (.ireturn, 1) := by decide +kernel
theorem d_Jstr_checkIndex_0 : decode prog_15_method_155_code 0 = .ok (.iload_n 0, 1) := by decide +kernel
theorem d_Jstr_checkIndex_1 : decode prog_15_method_155_code 1 = .ok (.iload_n 1, 1) := by decide +kernel
theorem d_Jstr_checkIndex_2 : decode prog_15_method_155_code 2 = .ok (.getstatic 1053, 3) := by decide +kernel
theorem d_Jstr_checkIndex_5 : decode prog_15_method_155_code 5 = .ok (.invokestatic 1059, 3) := by decide +kernel
theorem d_Jstr_checkIndex_8 : decode prog_15_method_155_code 8 = .ok (.pop, 1) := by decide +kernel
theorem d_Jstr_checkIndex_9 : decode prog_15_method_155_code 9 = .ok (.return_, 1) := by decide +kernel
theorem d_Jlat_charAt_0 : decode prog_16_method_2_code 0 = .ok (.iload_n 1, 1) := by decide +kernel
theorem d_Jlat_charAt_1 : decode prog_16_method_2_code 1 = .ok (.aload_n 0, 1) := by decide +kernel
theorem d_Jlat_charAt_2 : decode prog_16_method_2_code 2 = .ok (.arraylength, 1) := by decide +kernel
theorem d_Jlat_charAt_3 : decode prog_16_method_2_code 3 = .ok (.invokestatic 9, 3) := by decide +kernel
theorem d_Jlat_charAt_6 : decode prog_16_method_2_code 6 = .ok (.aload_n 0, 1) := by decide +kernel
theorem d_Jlat_charAt_7 : decode prog_16_method_2_code 7 = .ok (.iload_n 1, 1) := by decide +kernel
theorem d_Jlat_charAt_8 : decode prog_16_method_2_code 8 = .ok (.baload, 1) := by decide +kernel
theorem d_Jlat_charAt_9 : decode prog_16_method_2_code 9 = .ok (.sipush 255, 3) := by decide +kernel
theorem d_Jlat_charAt_12 : decode prog_16_method_2_code 12 = .ok (.iand, 1) := by decide +kernel
theorem d_Jlat_charAt_13 : decode prog_16_method_2_code 13 = .ok (.i2c, 1) := by decide +kernel
theorem d_Jlat_charAt_14 : decode prog_16_method_2_code 14 = .ok (.ireturn, 1) := by decide +kernel
theorem d_Jutf_getChar_0 : decode prog_17_method_5_code 0 = .ok (.getstatic 44, 3) := by decide +kernel
theorem d_Jutf_getChar_3 : decode prog_17_method_5_code 3 = .ok (.ifCond .ne 25, 3) := by decide +kernel
theorem d_Jutf_getChar_6 : decode prog_17_method_5_code 6 = .ok (.iload_n 1, 1) := by decide +kernel
theorem d_Jutf_getChar_7 : decode prog_17_method_5_code 7 = .ok (.ifCond .lt 11, 3) := by decide +kernel
theorem d_Jutf_getChar_10 : decode prog_17_method_5_code 10 = .ok (.iload_n 1, 1) := by decide +kernel
theorem d_Jutf_getChar_11 : decode prog_17_method_5_code 11 = .ok (.aload_n 0, 1) := by decide +kernel
theorem d_Jutf_getChar_12 : decode prog_17_method_5_code 12 = .ok (.invokestatic 48, 3) := by decide +kernel
theorem d_Jutf_getChar_15 : decode prog_17_method_5_code 15 = .ok (.if_icmp .lt 13, 3) := by decide +kernel
theorem d_Jutf_getChar_18 : decode prog_17_method_5_code 18 = .ok (.new 52, 3) := by decide +kernel
theorem d_Jutf_getChar_21 : decode prog_17_method_5_code 21 = .ok (.dup, 1) := by decide +kernel
theorem d_Jutf_getChar_22 : decode prog_17_method_5_code 22 = .ok (.ldc 54, 2) := by decide +kernel
theorem d_Jutf_getChar_24 : decode prog_17_method_5_code 24 = .ok (.invokespecial 56, 3) := by decide +kernel
theorem d_Jutf_getChar_27 : decode prog_17_method_5_code 27 = .ok (.athrow, 1) := by decide +kernel
theorem d_Jutf_getChar_28 : decode prog_17_method_5_code 28 = .ok (.iload_n 1, 1) := by decide +kernel
theorem d_Jutf_getChar_29 : decode prog_17_method_5_code 29 = .ok (.iconst 1, 1) := by decide +kernel
theorem d_Jutf_getChar_30 : decode prog_17_method_5_code 30 = .ok (.ishl, 1) := by decide +kernel
theorem d_Jutf_getChar_31 : decode prog_17_method_5_code 31 = .ok (.istore_n 1, 1) := by decide +kernel
theorem d_Jutf_getChar_32 : decode prog_17_method_5_code 32 = .ok (.aload_n 0, 1) := by decide +kernel
theorem d_Jutf_getChar_33 : decode prog_17_method_5_code 33 = .ok (.iload_n 1, 1) := by decide +kernel
theorem d_Jutf_getChar_34 : decode prog_17_method_5_code 34 = .ok (.iinc 1 1, 3) := by decide +kernel
theorem d_Jutf_getChar_37 : decode prog_17_method_5_code 37 = .ok (.baload, 1) := by decide +kernel
theorem d_Jutf_getChar_38 : decode prog_17_method_5_code 38 = .ok (.sipush 255, 3) := by decide +kernel
theorem d_Jutf_getChar_41 : decode prog_17_method_5_code 41 = .ok (.iand, 1) := by decide +kernel
theorem d_Jutf_getChar_42 : decode prog_17_method_5_code 42 = .ok (.getstatic 59, 3) := by decide +kernel
theorem d_Jutf_getChar_45 : decode prog_17_method_5_code 45 = .ok (.ishl, 1) := by decide +kernel
theorem d_Jutf_getChar_46 : decode prog_17_method_5_code 46 = .ok (.aload_n 0, 1) := by decide +kernel
theorem d_Jutf_getChar_47 : decode prog_17_method_5_code 47 = .ok (.iload_n 1, 1) := by decide +kernel
theorem d_Jutf_getChar_48 : decode prog_17_method_5_code 48 = .ok (.baload, 1) := by decide +kernel
theorem d_Jutf_getChar_49 : decode prog_17_method_5_code 49 = .ok (.sipush 255, 3) := by decide +kernel
theorem d_Jutf_getChar_52 : decode prog_17_method_5_code 52 = .ok (.iand, 1) := by decide +kernel
theorem d_Jutf_getChar_53 : decode prog_17_method_5_code 53 = .ok (.getstatic 63, 3) := by decide +kernel
theorem d_Jutf_getChar_56 : decode prog_17_method_5_code 56 = .ok (.ishl, 1) := by decide +kernel
theorem d_Jutf_getChar_57 : decode prog_17_method_5_code 57 = .ok (.ior, 1) := by decide +kernel
theorem d_Jutf_getChar_58 : decode prog_17_method_5_code 58 = .ok (.i2c, 1) := by decide +kernel
theorem d_Jutf_getChar_59 : decode prog_17_method_5_code 59 = .ok (.ireturn, 1) := by decide +kernel
theorem d_Jutf_length_0 : decode prog_17_method_6_code 0 = .ok (.aload_n 0, 1) := by decide +kernel
theorem d_Jutf_length_1 : decode prog_17_method_6_code 1 = .ok (.arraylength, 1) := by decide +kernel
theorem d_Jutf_length_2 : decode prog_17_method_6_code 2 = .ok (.iconst 1, 1) := by decide +kernel
theorem d_Jutf_length_3 : decode prog_17_method_6_code 3 = .ok (.ishr, 1) := by decide +kernel
theorem d_Jutf_length_4 : decode prog_17_method_6_code 4 = .ok (.ireturn, 1) := by decide +kernel
theorem d_Jutf_charAt_0 : decode prog_17_method_83_code 0 = .ok (.iload_n 1, 1) := by decide +kernel
theorem d_Jutf_charAt_1 : decode prog_17_method_83_code 1 = .ok (.aload_n 0, 1) := by decide +kernel
theorem d_Jutf_charAt_2 : decode prog_17_method_83_code 2 = .ok (.invokestatic 67, 3) := by decide +kernel
theorem d_Jutf_charAt_5 : decode prog_17_method_83_code 5 = .ok (.aload_n 0, 1) := by decide +kernel
theorem d_Jutf_charAt_6 : decode prog_17_method_83_code 6 = .ok (.iload_n 1, 1) := by decide +kernel
theorem d_Jutf_charAt_7 : decode prog_17_method_83_code 7 = .ok (.invokestatic 71, 3) := by decide +kernel
theorem d_Jutf_charAt_10 : decode prog_17_method_83_code 10 = .ok (.ireturn, 1) := by decide +kernel
theorem d_Jutf_checkIndex_0 : decode prog_17_method_91_code 0 = .ok (.iload_n 0, 1) := by decide +kernel
theorem d_Jutf_checkIndex_1 : decode prog_17_method_91_code 1 = .ok (.aload_n 1, 1) := by decide +kernel
theorem d_Jutf_checkIndex_2 : decode prog_17_method_91_code 2 = .ok (.invokestatic 48, 3) := by decide +kernel
theorem d_Jutf_checkIndex_5 : decode prog_17_method_91_code 5 = .ok (.invokestatic 414, 3) := by decide +kernel
theorem d_Jutf_checkIndex_8 : decode prog_17_method_91_code 8 = .ok (.return_, 1) := by decide +kernel
theorem d_Jarr_fill_aJJ_0 : decode prog_19_method_101_code 0 = .ok (.iconst 0, 1) := by decide +kernel
theorem d_Jarr_fill_aJJ_1 : decode prog_19_method_101_code 1 = .ok (.istore_n 3, 1) := by decide +kernel
theorem d_Jarr_fill_aJJ_2 : decode prog_19_method_101_code 2 = .ok (.aload_n 0, 1) := by decide +kernel
theorem d_Jarr_fill_aJJ_3 : decode prog_19_method_101_code 3 = .ok (.arraylength, 1) := by decide +kernel
theorem d_Jarr_fill_aJJ_4 : decode prog_19_method_101_code 4 = .ok (.istore 4, 2) := by decide +kernel
theorem d_Jarr_fill_aJJ_6 : decode prog_19_method_101_code 6 = .ok (.iload_n 3, 1) := by decide +kernel
theorem d_Jarr_fill_aJJ_7 : decode prog_19_method_101_code 7 = .ok (.iload 4, 2) := by decide +kernel
theorem d_Jarr_fill_aJJ_9 : decode prog_19_method_101_code 9 = .ok (.if_icmp .ge 13, 3) := by decide +kernel
theorem d_Jarr_fill_aJJ_12 : decode prog_19_method_101_code 12 = .ok (.aload_n 0, 1) := by decide +kernel
theorem d_Jarr_fill_aJJ_13 : decode prog_19_method_101_code 13 = .ok (.iload_n 3, 1) := by decide +kernel
theorem d_Jarr_fill_aJJ_14 : decode prog_19_method_101_code 14 = .ok (.lload_n 1, 1) := by decide +kernel
theorem d_Jarr_fill_aJJ_15 : decode prog_19_method_101_code 15 = .ok (.lastore, 1) := by decide +kernel
theorem d_Jarr_fill_aJJ_16 : decode prog_19_method_101_code 16 = .ok (.iinc 3 1, 3) := by decide +kernel
theorem d_Jarr_fill_aJJ_19 : decode prog_19_method_101_code 19 = .ok (.goto (-13), 3) := by decide +kernel
theorem d_Jarr_fill_aJJ_22 : decode prog_19_method_101_code 22 = .ok (.return_, 1) := by decide +kernel
theorem d_Jarr_fill_aII_0 : decode prog_19_method_103_code 0 = .ok (.iconst 0, 1) := by decide +kernel
theorem d_Jarr_fill_aII_1 : decode prog_19_method_103_code 1 = .ok (.istore_n 2, 1) := by decide +kernel
theorem d_Jarr_fill_aII_2 : decode prog_19_method_103_code 2 = .ok (.aload_n 0, 1) := by decide +kernel
theorem d_Jarr_fill_aII_3 : decode prog_19_method_103_code 3 = .ok (.arraylength, 1) := by decide +kernel
theorem d_Jarr_fill_aII_4 : decode prog_19_method_103_code 4 = .ok (.istore_n 3, 1) := by decide +kernel
theorem d_Jarr_fill_aII_5 : decode prog_19_method_103_code 5 = .ok (.iload_n 2, 1) := by decide +kernel
theorem d_Jarr_fill_aII_6 : decode prog_19_method_103_code 6 = .ok (.iload_n 3, 1) := by decide +kernel
theorem d_Jarr_fill_aII_7 : decode prog_19_method_103_code 7 = .ok (.if_icmp .ge 13, 3) := by decide +kernel
theorem d_Jarr_fill_aII_10 : decode prog_19_method_103_code 10 = .ok (.aload_n 0, 1) := by decide +kernel
theorem d_Jarr_fill_aII_11 : decode prog_19_method_103_code 11 = .ok (.iload_n 2, 1) := by decide +kernel
theorem d_Jarr_fill_aII_12 : decode prog_19_method_103_code 12 = .ok (.iload_n 1, 1) := by decide +kernel
theorem d_Jarr_fill_aII_13 : decode prog_19_method_103_code 13 = .ok (.iastore, 1) := by decide +kernel
theorem d_Jarr_fill_aII_14 : decode prog_19_method_103_code 14 = .ok (.iinc 2 1, 3) := by decide +kernel
theorem d_Jarr_fill_aII_17 : decode prog_19_method_103_code 17 = .ok (.goto (-12), 3) := by decide +kernel
theorem d_Jarr_fill_aII_20 : decode prog_19_method_103_code 20 = .ok (.return_, 1) := by decide +kernel
theorem d_Jpre_checkIndex_0 : decode prog_20_method_11_code 0 = .ok (.iload_n 0, 1) := by decide +kernel
theorem d_Jpre_checkIndex_1 : decode prog_20_method_11_code 1 = .ok (.ifCond .lt 8, 3) := by decide +kernel
theorem d_Jpre_checkIndex_4 : decode prog_20_method_11_code 4 = .ok (.iload_n 0, 1) := by decide +kernel
theorem d_Jpre_checkIndex_5 : decode prog_20_method_11_code 5 = .ok (.iload_n 1, 1) := by decide +kernel
theorem d_Jpre_checkIndex_6 : decode prog_20_method_11_code 6 = .ok (.if_icmp .lt 10, 3) := by decide +kernel
theorem d_Jpre_checkIndex_9 : decode prog_20_method_11_code 9 = .ok (.aload_n 2, 1) := by decide +kernel
theorem d_Jpre_checkIndex_10 : decode prog_20_method_11_code 10 = .ok (.iload_n 0, 1) := by decide +kernel
theorem d_Jpre_checkIndex_11 : decode prog_20_method_11_code 11 = .ok (.iload_n 1, 1) := by decide +kernel
theorem d_Jpre_checkIndex_12 : decode prog_20_method_11_code 12 = .ok (.invokestatic 95, 3) := by decide +kernel
theorem d_Jpre_checkIndex_15 : decode prog_20_method_11_code 15 = .ok (.athrow, 1) := by decide +kernel
theorem d_Jpre_checkIndex_16 : decode prog_20_method_11_code 16 = .ok (.iload_n 0, 1) := by decide +kernel
theorem d_Jpre_checkIndex_17 : decode prog_20_method_11_code 17 = .ok (.ireturn, 1) := by decide +kernel
