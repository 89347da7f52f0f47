/-! decode rows, M -/
theorem d_M_in_0 : decode prog_12_method_2_code 0 = .ok (.lload_n 0, 1) := by decide +kernel
theorem d_M_in_1 : decode prog_12_method_2_code 1 = .ok (.lload_n 2, 1) := by decide +kernel
theorem d_M_in_2 : decode prog_12_method_2_code 2 = .ok (.lcmp, 1) := by decide +kernel
theorem d_M_in_3 : decode prog_12_method_2_code 3 = .ok (.ifCond .lt 14, 3) := by decide +kernel
theorem d_M_in_6 : decode prog_12_method_2_code 6 = .ok (.lload_n 0, 1) := by decide +kernel
theorem d_M_in_7 : decode prog_12_method_2_code 7 = .ok (.lload 4, 2) := by decide +kernel
theorem d_M_in_9 : decode prog_12_method_2_code 9 = .ok (.lcmp, 1) := by decide +kernel
theorem d_M_in_10 : decode prog_12_method_2_code 10 = .ok (.ifCond .gt 7, 3) := by decide +kernel
theorem d_M_in_13 : decode prog_12_method_2_code 13 = .ok (.iconst 1, 1) := by decide +kernel
theorem d_M_in_14 : decode prog_12_method_2_code 14 = .ok (.goto 4, 3) := by decide +kernel
theorem d_M_in_17 : decode prog_12_method_2_code 17 = .ok (.iconst 0, 1) := by decide +kernel
theorem d_M_in_18 : decode prog_12_method_2_code 18 = .ok (.ireturn, 1) := by decide +kernel
theorem d_M_isOf_0 : decode prog_12_method_3_code 0 = .ok (.iload_n 0, 1) := by decide +kernel
theorem d_M_isOf_1 : decode prog_12_method_3_code 1 = .ok (.iload_n 1, 1) := by decide +kernel
theorem d_M_isOf_2 : decode prog_12_method_3_code 2 = .ok (.ishr, 1) := by decide +kernel
theorem d_M_isOf_3 : decode prog_12_method_3_code 3 = .ok (.iconst 1, 1) := by decide +kernel
theorem d_M_isOf_4 : decode prog_12_method_3_code 4 = .ok (.iand, 1) := by decide +kernel
theorem d_M_isOf_5 : decode prog_12_method_3_code 5 = .ok (.iconst 1, 1) := by decide +kernel
theorem d_M_isOf_6 : decode prog_12_method_3_code 6 = .ok (.if_icmp .ne 7, 3) := by decide +kernel
theorem d_M_isOf_9 : decode prog_12_method_3_code 9 = .ok (.iconst 1, 1) := by decide +kernel
theorem d_M_isOf_10 : decode prog_12_method_3_code 10 = .ok (.goto 4, 3) := by decide +kernel
theorem d_M_isOf_13 : decode prog_12_method_3_code 13 = .ok (.iconst 0, 1) := by decide +kernel
theorem d_M_isOf_14 : decode prog_12_method_3_code 14 = .ok (.ireturn, 1) := by decide +kernel
theorem d_M_bits_0 : decode prog_12_method_4_code 0 = .ok (.iconst 0, 1) := by decide +kernel
theorem d_M_bits_1 : decode prog_12_method_4_code 1 = .ok (.istore_n 1, 1) := by decide +kernel
theorem d_M_bits_2 : decode prog_12_method_4_code 2 = .ok (.iload_n 0, 1) := by decide +kernel
theorem d_M_bits_3 : decode prog_12_method_4_code 3 = .ok (.istore_n 2, 1) := by decide +kernel
theorem d_M_bits_4 : decode prog_12_method_4_code 4 = .ok (.iload_n 2, 1) := by decide +kernel
theorem d_M_bits_5 : decode prog_12_method_4_code 5 = .ok (.ifCond .eq 15, 3) := by decide +kernel
theorem d_M_bits_8 : decode prog_12_method_4_code 8 = .ok (.iinc 1 1, 3) := by decide +kernel
theorem d_M_bits_11 : decode prog_12_method_4_code 11 = .ok (.iload_n 2, 1) := by decide +kernel
theorem d_M_bits_12 : decode prog_12_method_4_code 12 = .ok (.iload_n 2, 1) := by decide +kernel
theorem d_M_bits_13 : decode prog_12_method_4_code 13 = .ok (.iconst 1, 1) := by decide +kernel
theorem d_M_bits_14 : decode prog_12_method_4_code 14 = .ok (.isub, 1) := by decide +kernel
theorem d_M_bits_15 : decode prog_12_method_4_code 15 = .ok (.iand, 1) := by decide +kernel
theorem d_M_bits_16 : decode prog_12_method_4_code 16 = .ok (.istore_n 2, 1) := by decide +kernel
theorem d_M_bits_17 : decode prog_12_method_4_code 17 = .ok (.goto (-13), 3) := by decide +kernel
theorem d_M_bits_20 : decode prog_12_method_4_code 20 = .ok (.iload_n 1, 1) := by decide +kernel
theorem d_M_bits_21 : decode prog_12_method_4_code 21 = .ok (.ireturn, 1) := by decide +kernel
theorem d_M_divisor_0 : decode prog_12_method_5_code 0 = .ok (.lload_n 0, 1) := by decide +kernel
theorem d_M_divisor_1 : decode prog_12_method_5_code 1 = .ok (.lconst 0, 1) := by decide +kernel
theorem d_M_divisor_2 : decode prog_12_method_5_code 2 = .ok (.lcmp, 1) := by decide +kernel
theorem d_M_divisor_3 : decode prog_12_method_5_code 3 = .ok (.ifCond .ge 8, 3) := by decide +kernel
theorem d_M_divisor_6 : decode prog_12_method_5_code 6 = .ok (.lload_n 0, 1) := by decide +kernel
theorem d_M_divisor_7 : decode prog_12_method_5_code 7 = .ok (.lneg, 1) := by decide +kernel
theorem d_M_divisor_8 : decode prog_12_method_5_code 8 = .ok (.goto 4, 3) := by decide +kernel
theorem d_M_divisor_11 : decode prog_12_method_5_code 11 = .ok (.lload_n 0, 1) := by decide +kernel
theorem d_M_divisor_12 : decode prog_12_method_5_code 12 = .ok (.lstore 4, 2) := by decide +kernel
theorem d_M_divisor_14 : decode prog_12_method_5_code 14 = .ok (.lload_n 2, 1) := by decide +kernel
theorem d_M_divisor_15 : decode prog_12_method_5_code 15 = .ok (.lconst 0, 1) := by decide +kernel
theorem d_M_divisor_16 : decode prog_12_method_5_code 16 = .ok (.lcmp, 1) := by decide +kernel
theorem d_M_divisor_17 : decode prog_12_method_5_code 17 = .ok (.ifCond .ge 8, 3) := by decide +kernel
theorem d_M_divisor_20 : decode prog_12_method_5_code 20 = .ok (.lload_n 2, 1) := by decide +kernel
theorem d_M_divisor_21 : decode prog_12_method_5_code 21 = .ok (.lneg, 1) := by decide +kernel
theorem d_M_divisor_22 : decode prog_12_method_5_code 22 = .ok (.goto 4, 3) := by decide +kernel
theorem d_M_divisor_25 : decode prog_12_method_5_code 25 = .ok (.lload_n 2, 1) := by decide +kernel
theorem d_M_divisor_26 : decode prog_12_method_5_code 26 = .ok (.lstore 6, 2) := by decide +kernel
theorem d_M_divisor_28 : decode prog_12_method_5_code 28 = .ok (.lload 6, 2) := by decide +kernel
theorem d_M_divisor_30 : decode prog_12_method_5_code 30 = .ok (.lconst 0, 1) := by decide +kernel
theorem d_M_divisor_31 : decode prog_12_method_5_code 31 = .ok (.lcmp, 1) := by decide +kernel
theorem d_M_divisor_32 : decode prog_12_method_5_code 32 = .ok (.ifCond .eq 21, 3) := by decide +kernel
theorem d_M_divisor_35 : decode prog_12_method_5_code 35 = .ok (.lload 4, 2) := by decide +kernel
theorem d_M_divisor_37 : decode prog_12_method_5_code 37 = .ok (.lload 6, 2) := by decide +kernel
theorem d_M_divisor_39 : decode prog_12_method_5_code 39 = .ok (.lrem, 1) := by decide +kernel
theorem d_M_divisor_40 : decode prog_12_method_5_code 40 = .ok (.lstore 8, 2) := by decide +kernel
theorem d_M_divisor_42 : decode prog_12_method_5_code 42 = .ok (.lload 6, 2) := by decide +kernel
theorem d_M_divisor_44 : decode prog_12_method_5_code 44 = .ok (.lstore 4, 2) := by decide +kernel
theorem d_M_divisor_46 : decode prog_12_method_5_code 46 = .ok (.lload 8, 2) := by decide +kernel
theorem d_M_divisor_48 : decode prog_12_method_5_code 48 = .ok (.lstore 6, 2) := by decide +kernel
theorem d_M_divisor_50 : decode prog_12_method_5_code 50 = .ok (.goto (-22), 3) := by decide +kernel
theorem d_M_divisor_53 : decode prog_12_method_5_code 53 = .ok (.lload 4, 2) := by decide +kernel
theorem d_M_divisor_55 : decode prog_12_method_5_code 55 = .ok (.lreturn, 1) := by decide +kernel
theorem d_M_lowest_0 : decode prog_12_method_6_code 0 = .ok (.lload_n 0, 1) := by decide +kernel
theorem d_M_lowest_1 : decode prog_12_method_6_code 1 = .ok (.lload_n 2, 1) := by decide +kernel
theorem d_M_lowest_2 : decode prog_12_method_6_code 2 = .ok (.invokestatic 95, 3) := by decide +kernel
theorem d_M_lowest_5 : decode prog_12_method_6_code 5 = .ok (.lstore 5, 2) := by decide +kernel
theorem d_M_lowest_7 : decode prog_12_method_6_code 7 = .ok (.iload 4, 2) := by decide +kernel
theorem d_M_lowest_9 : decode prog_12_method_6_code 9 = .ok (.ifCond .ne 10, 3) := by decide +kernel
theorem d_M_lowest_12 : decode prog_12_method_6_code 12 = .ok (.lload_n 0, 1) := by decide +kernel
theorem d_M_lowest_13 : decode prog_12_method_6_code 13 = .ok (.lload 5, 2) := by decide +kernel
theorem d_M_lowest_15 : decode prog_12_method_6_code 15 = .ok (.ldiv, 1) := by decide +kernel
theorem d_M_lowest_16 : decode prog_12_method_6_code 16 = .ok (.goto 7, 3) := by decide +kernel
theorem d_M_lowest_19 : decode prog_12_method_6_code 19 = .ok (.lload_n 2, 1) := by decide +kernel
theorem d_M_lowest_20 : decode prog_12_method_6_code 20 = .ok (.lload 5, 2) := by decide +kernel
theorem d_M_lowest_22 : decode prog_12_method_6_code 22 = .ok (.ldiv, 1) := by decide +kernel
theorem d_M_lowest_23 : decode prog_12_method_6_code 23 = .ok (.lreturn, 1) := by decide +kernel
theorem d_M_bounded_0 : decode prog_12_method_7_code 0 = .ok (.lload_n 0, 1) := by decide +kernel
theorem d_M_bounded_1 : decode prog_12_method_7_code 1 = .ok (.lload_n 2, 1) := by decide +kernel
theorem d_M_bounded_2 : decode prog_12_method_7_code 2 = .ok (.lcmp, 1) := by decide +kernel
theorem d_M_bounded_3 : decode prog_12_method_7_code 3 = .ok (.ifCond .ge 7, 3) := by decide +kernel
theorem d_M_bounded_6 : decode prog_12_method_7_code 6 = .ok (.lload_n 2, 1) := by decide +kernel
theorem d_M_bounded_7 : decode prog_12_method_7_code 7 = .ok (.goto 16, 3) := by decide +kernel
theorem d_M_bounded_10 : decode prog_12_method_7_code 10 = .ok (.lload_n 0, 1) := by decide +kernel
theorem d_M_bounded_11 : decode prog_12_method_7_code 11 = .ok (.lload 4, 2) := by decide +kernel
theorem d_M_bounded_13 : decode prog_12_method_7_code 13 = .ok (.lcmp, 1) := by decide +kernel
theorem d_M_bounded_14 : decode prog_12_method_7_code 14 = .ok (.ifCond .le 8, 3) := by decide +kernel
theorem d_M_bounded_17 : decode prog_12_method_7_code 17 = .ok (.lload 4, 2) := by decide +kernel
theorem d_M_bounded_19 : decode prog_12_method_7_code 19 = .ok (.goto 4, 3) := by decide +kernel
theorem d_M_bounded_22 : decode prog_12_method_7_code 22 = .ok (.lload_n 0, 1) := by decide +kernel
theorem d_M_bounded_23 : decode prog_12_method_7_code 23 = .ok (.lreturn, 1) := by decide +kernel
theorem d_M_floored_0 : decode prog_12_method_8_code 0 = .ok (.lload_n 0, 1) := by decide +kernel
theorem d_M_floored_1 : decode prog_12_method_8_code 1 = .ok (.lload_n 2, 1) := by decide +kernel
theorem d_M_floored_2 : decode prog_12_method_8_code 2 = .ok (.ldiv, 1) := by decide +kernel
theorem d_M_floored_3 : decode prog_12_method_8_code 3 = .ok (.lstore 4, 2) := by decide +kernel
theorem d_M_floored_5 : decode prog_12_method_8_code 5 = .ok (.lload 4, 2) := by decide +kernel
theorem d_M_floored_7 : decode prog_12_method_8_code 7 = .ok (.lload_n 2, 1) := by decide +kernel
theorem d_M_floored_8 : decode prog_12_method_8_code 8 = .ok (.lmul, 1) := by decide +kernel
theorem d_M_floored_9 : decode prog_12_method_8_code 9 = .ok (.lload_n 0, 1) := by decide +kernel
theorem d_M_floored_10 : decode prog_12_method_8_code 10 = .ok (.lcmp, 1) := by decide +kernel
theorem d_M_floored_11 : decode prog_12_method_8_code 11 = .ok (.ifCond .le 10, 3) := by decide +kernel
theorem d_M_floored_14 : decode prog_12_method_8_code 14 = .ok (.lload 4, 2) := by decide +kernel
theorem d_M_floored_16 : decode prog_12_method_8_code 16 = .ok (.lconst 1, 1) := by decide +kernel
theorem d_M_floored_17 : decode prog_12_method_8_code 17 = .ok (.lsub, 1) := by decide +kernel
theorem d_M_floored_18 : decode prog_12_method_8_code 18 = .ok (.goto 5, 3) := by decide +kernel
theorem d_M_floored_21 : decode prog_12_method_8_code 21 = .ok (.lload 4, 2) := by decide +kernel
theorem d_M_floored_23 : decode prog_12_method_8_code 23 = .ok (.lreturn, 1) := by decide +kernel
theorem d_M_four_0 : decode prog_12_method_9_code 0 = .ok (.bipush 24, 2) := by decide +kernel
theorem d_M_four_2 : decode prog_12_method_9_code 2 = .ok (.istore_n 2, 1) := by decide +kernel
theorem d_M_four_3 : decode prog_12_method_9_code 3 = .ok (.iload_n 2, 1) := by decide +kernel
theorem d_M_four_4 : decode prog_12_method_9_code 4 = .ok (.ifCond .lt 32, 3) := by decide +kernel
theorem d_M_four_7 : decode prog_12_method_9_code 7 = .ok (.aload_n 0, 1) := by decide +kernel
theorem d_M_four_8 : decode prog_12_method_9_code 8 = .ok (.getfield 7, 3) := by decide +kernel
theorem d_M_four_11 : decode prog_12_method_9_code 11 = .ok (.aload_n 0, 1) := by decide +kernel
theorem d_M_four_12 : decode prog_12_method_9_code 12 = .ok (.getfield 99, 3) := by decide +kernel
theorem d_M_four_15 : decode prog_12_method_9_code 15 = .ok (.iload_n 1, 1) := by decide +kernel
theorem d_M_four_16 : decode prog_12_method_9_code 16 = .ok (.iload_n 2, 1) := by decide +kernel
theorem d_M_four_17 : decode prog_12_method_9_code 17 = .ok (.ishr, 1) := by decide +kernel
theorem d_M_four_18 : decode prog_12_method_9_code 18 = .ok (.i2b, 1) := by decide +kernel
theorem d_M_four_19 : decode prog_12_method_9_code 19 = .ok (.bastore, 1) := by decide +kernel
theorem d_M_four_20 : decode prog_12_method_9_code 20 = .ok (.aload_n 0, 1) := by decide +kernel
theorem d_M_four_21 : decode prog_12_method_9_code 21 = .ok (.dup, 1) := by decide +kernel
theorem d_M_four_22 : decode prog_12_method_9_code 22 = .ok (.getfield 99, 3) := by decide +kernel
theorem d_M_four_25 : decode prog_12_method_9_code 25 = .ok (.iconst 1, 1) := by decide +kernel
theorem d_M_four_26 : decode prog_12_method_9_code 26 = .ok (.iadd, 1) := by decide +kernel
theorem d_M_four_27 : decode prog_12_method_9_code 27 = .ok (.putfield 99, 3) := by decide +kernel
theorem d_M_four_30 : decode prog_12_method_9_code 30 = .ok (.iinc 2 (-8), 3) := by decide +kernel
theorem d_M_four_33 : decode prog_12_method_9_code 33 = .ok (.goto (-30), 3) := by decide +kernel
theorem d_M_four_36 : decode prog_12_method_9_code 36 = .ok (.return_, 1) := by decide +kernel
theorem d_M_feed_0 : decode prog_12_method_10_code 0 = .ok (.aload_n 0, 1) := by decide +kernel
theorem d_M_feed_1 : decode prog_12_method_10_code 1 = .ok (.getfield 99, 3) := by decide +kernel
theorem d_M_feed_4 : decode prog_12_method_10_code 4 = .ok (.bipush 20, 2) := by decide +kernel
theorem d_M_feed_6 : decode prog_12_method_10_code 6 = .ok (.iadd, 1) := by decide +kernel
theorem d_M_feed_7 : decode prog_12_method_10_code 7 = .ok (.sipush 400, 3) := by decide +kernel
theorem d_M_feed_10 : decode prog_12_method_10_code 10 = .ok (.if_icmp .le 5, 3) := by decide +kernel
theorem d_M_feed_13 : decode prog_12_method_10_code 13 = .ok (.iconst (-1), 1) := by decide +kernel
theorem d_M_feed_14 : decode prog_12_method_10_code 14 = .ok (.ireturn, 1) := by decide +kernel
theorem d_M_feed_15 : decode prog_12_method_10_code 15 = .ok (.aload_n 0, 1) := by decide +kernel
theorem d_M_feed_16 : decode prog_12_method_10_code 16 = .ok (.iload_n 1, 1) := by decide +kernel
theorem d_M_feed_17 : decode prog_12_method_10_code 17 = .ok (.invokevirtual 103, 3) := by decide +kernel
theorem d_M_feed_20 : decode prog_12_method_10_code 20 = .ok (.aload_n 0, 1) := by decide +kernel
theorem d_M_feed_21 : decode prog_12_method_10_code 21 = .ok (.iload_n 2, 1) := by decide +kernel
theorem d_M_feed_22 : decode prog_12_method_10_code 22 = .ok (.invokevirtual 103, 3) := by decide +kernel
theorem d_M_feed_25 : decode prog_12_method_10_code 25 = .ok (.aload_n 0, 1) := by decide +kernel
theorem d_M_feed_26 : decode prog_12_method_10_code 26 = .ok (.iload_n 3, 1) := by decide +kernel
theorem d_M_feed_27 : decode prog_12_method_10_code 27 = .ok (.invokevirtual 103, 3) := by decide +kernel
theorem d_M_feed_30 : decode prog_12_method_10_code 30 = .ok (.aload_n 0, 1) := by decide +kernel
theorem d_M_feed_31 : decode prog_12_method_10_code 31 = .ok (.iload 4, 2) := by decide +kernel
theorem d_M_feed_33 : decode prog_12_method_10_code 33 = .ok (.invokevirtual 103, 3) := by decide +kernel
theorem d_M_feed_36 : decode prog_12_method_10_code 36 = .ok (.aload_n 0, 1) := by decide +kernel
theorem d_M_feed_37 : decode prog_12_method_10_code 37 = .ok (.iload 5, 2) := by decide +kernel
theorem d_M_feed_39 : decode prog_12_method_10_code 39 = .ok (.invokevirtual 103, 3) := by decide +kernel
theorem d_M_feed_42 : decode prog_12_method_10_code 42 = .ok (.aload_n 0, 1) := by decide +kernel
theorem d_M_feed_43 : decode prog_12_method_10_code 43 = .ok (.getfield 99, 3) := by decide +kernel
theorem d_M_feed_46 : decode prog_12_method_10_code 46 = .ok (.ireturn, 1) := by decide +kernel
theorem d_M_end_0 : decode prog_12_method_11_code 0 = .ok (.iload_n 1, 1) := by decide +kernel
theorem d_M_end_1 : decode prog_12_method_11_code 1 = .ok (.ifCond .lt 11, 3) := by decide +kernel
theorem d_M_end_4 : decode prog_12_method_11_code 4 = .ok (.iload_n 1, 1) := by decide +kernel
theorem d_M_end_5 : decode prog_12_method_11_code 5 = .ok (.aload_n 0, 1) := by decide +kernel
theorem d_M_end_6 : decode prog_12_method_11_code 6 = .ok (.getfield 99, 3) := by decide +kernel
theorem d_M_end_9 : decode prog_12_method_11_code 9 = .ok (.if_icmp .le 5, 3) := by decide +kernel
theorem d_M_end_12 : decode prog_12_method_11_code 12 = .ok (.iconst (-1), 1) := by decide +kernel
theorem d_M_end_13 : decode prog_12_method_11_code 13 = .ok (.ireturn, 1) := by decide +kernel
theorem d_M_end_14 : decode prog_12_method_11_code 14 = .ok (.aload_n 0, 1) := by decide +kernel
theorem d_M_end_15 : decode prog_12_method_11_code 15 = .ok (.iload_n 1, 1) := by decide +kernel
theorem d_M_end_16 : decode prog_12_method_11_code 16 = .ok (.putfield 99, 3) := by decide +kernel
theorem d_M_end_19 : decode prog_12_method_11_code 19 = .ok (.iload_n 1, 1) := by decide +kernel
theorem d_M_end_20 : decode prog_12_method_11_code 20 = .ok (.ireturn, 1) := by decide +kernel
theorem d_M_fails_0 : decode prog_12_method_12_code 0 = .ok (.aload_n 0, 1) := by decide +kernel
theorem d_M_fails_1 : decode prog_12_method_12_code 1 = .ok (.getfield 107, 3) := by decide +kernel
theorem d_M_fails_4 : decode prog_12_method_12_code 4 = .ok (.ifCond .ne 15, 3) := by decide +kernel
theorem d_M_fails_7 : decode prog_12_method_12_code 7 = .ok (.aload_n 0, 1) := by decide +kernel
theorem d_M_fails_8 : decode prog_12_method_12_code 8 = .ok (.iconst 1, 1) := by decide +kernel
theorem d_M_fails_9 : decode prog_12_method_12_code 9 = .ok (.bipush 8, 2) := by decide +kernel
theorem d_M_fails_11 : decode prog_12_method_12_code 11 = .ok (.iload_n 2, 1) := by decide +kernel
theorem d_M_fails_12 : decode prog_12_method_12_code 12 = .ok (.imul, 1) := by decide +kernel
theorem d_M_fails_13 : decode prog_12_method_12_code 13 = .ok (.iadd, 1) := by decide +kernel
theorem d_M_fails_14 : decode prog_12_method_12_code 14 = .ok (.iload_n 1, 1) := by decide +kernel
theorem d_M_fails_15 : decode prog_12_method_12_code 15 = .ok (.iadd, 1) := by decide +kernel
theorem d_M_fails_16 : decode prog_12_method_12_code 16 = .ok (.putfield 107, 3) := by decide +kernel
theorem d_M_fails_19 : decode prog_12_method_12_code 19 = .ok (.iconst 0, 1) := by decide +kernel
theorem d_M_fails_20 : decode prog_12_method_12_code 20 = .ok (.ireturn, 1) := by decide +kernel
theorem d_M_see_0 : decode prog_12_method_13_code 0 = .ok (.aload_n 0, 1) := by decide +kernel
theorem d_M_see_1 : decode prog_12_method_13_code 1 = .ok (.getfield 110, 3) := by decide +kernel
theorem d_M_see_4 : decode prog_12_method_13_code 4 = .ok (.aload_n 0, 1) := by decide +kernel
theorem d_M_see_5 : decode prog_12_method_13_code 5 = .ok (.getfield 99, 3) := by decide +kernel
theorem d_M_see_8 : decode prog_12_method_13_code 8 = .ok (.if_icmp .ge 30, 3) := by decide +kernel
theorem d_M_see_11 : decode prog_12_method_13_code 11 = .ok (.aload_n 0, 1) := by decide +kernel
theorem d_M_see_12 : decode prog_12_method_13_code 12 = .ok (.getfield 7, 3) := by decide +kernel
theorem d_M_see_15 : decode prog_12_method_13_code 15 = .ok (.aload_n 0, 1) := by decide +kernel
theorem d_M_see_16 : decode prog_12_method_13_code 16 = .ok (.getfield 110, 3) := by decide +kernel
theorem d_M_see_19 : decode prog_12_method_13_code 19 = .ok (.baload, 1) := by decide +kernel
theorem d_M_see_20 : decode prog_12_method_13_code 20 = .ok (.bipush 32, 2) := by decide +kernel
theorem d_M_see_22 : decode prog_12_method_13_code 22 = .ok (.if_icmp .ne 16, 3) := by decide +kernel
theorem d_M_see_25 : decode prog_12_method_13_code 25 = .ok (.aload_n 0, 1) := by decide +kernel
theorem d_M_see_26 : decode prog_12_method_13_code 26 = .ok (.dup, 1) := by decide +kernel
theorem d_M_see_27 : decode prog_12_method_13_code 27 = .ok (.getfield 110, 3) := by decide +kernel
theorem d_M_see_30 : decode prog_12_method_13_code 30 = .ok (.iconst 1, 1) := by decide +kernel
theorem d_M_see_31 : decode prog_12_method_13_code 31 = .ok (.iadd, 1) := by decide +kernel
theorem d_M_see_32 : decode prog_12_method_13_code 32 = .ok (.putfield 110, 3) := by decide +kernel
theorem d_M_see_35 : decode prog_12_method_13_code 35 = .ok (.goto (-35), 3) := by decide +kernel
theorem d_M_see_38 : decode prog_12_method_13_code 38 = .ok (.aload_n 0, 1) := by decide +kernel
theorem d_M_see_39 : decode prog_12_method_13_code 39 = .ok (.getfield 110, 3) := by decide +kernel
theorem d_M_see_42 : decode prog_12_method_13_code 42 = .ok (.aload_n 0, 1) := by decide +kernel
theorem d_M_see_43 : decode prog_12_method_13_code 43 = .ok (.getfield 99, 3) := by decide +kernel
theorem d_M_see_46 : decode prog_12_method_13_code 46 = .ok (.if_icmp .ge 19, 3) := by decide +kernel
theorem d_M_see_49 : decode prog_12_method_13_code 49 = .ok (.aload_n 0, 1) := by decide +kernel
theorem d_M_see_50 : decode prog_12_method_13_code 50 = .ok (.getfield 7, 3) := by decide +kernel
theorem d_M_see_53 : decode prog_12_method_13_code 53 = .ok (.aload_n 0, 1) := by decide +kernel
theorem d_M_see_54 : decode prog_12_method_13_code 54 = .ok (.getfield 110, 3) := by decide +kernel
theorem d_M_see_57 : decode prog_12_method_13_code 57 = .ok (.baload, 1) := by decide +kernel
theorem d_M_see_58 : decode prog_12_method_13_code 58 = .ok (.sipush 255, 3) := by decide +kernel
theorem d_M_see_61 : decode prog_12_method_13_code 61 = .ok (.iand, 1) := by decide +kernel
theorem d_M_see_62 : decode prog_12_method_13_code 62 = .ok (.goto 4, 3) := by decide +kernel
theorem d_M_see_65 : decode prog_12_method_13_code 65 = .ok (.iconst (-1), 1) := by decide +kernel
theorem d_M_see_66 : decode prog_12_method_13_code 66 = .ok (.ireturn, 1) := by decide +kernel
theorem d_M_isDigit_0 : decode prog_12_method_14_code 0 = .ok (.iload_n 1, 1) := by decide +kernel
theorem d_M_isDigit_1 : decode prog_12_method_14_code 1 = .ok (.aload_n 0, 1) := by decide +kernel
theorem d_M_isDigit_2 : decode prog_12_method_14_code 2 = .ok (.getfield 99, 3) := by decide +kernel
theorem d_M_isDigit_5 : decode prog_12_method_14_code 5 = .ok (.if_icmp .ge 29, 3) := by decide +kernel
theorem d_M_isDigit_8 : decode prog_12_method_14_code 8 = .ok (.aload_n 0, 1) := by decide +kernel
theorem d_M_isDigit_9 : decode prog_12_method_14_code 9 = .ok (.getfield 7, 3) := by decide +kernel
theorem d_M_isDigit_12 : decode prog_12_method_14_code 12 = .ok (.iload_n 1, 1) := by decide +kernel
theorem d_M_isDigit_13 : decode prog_12_method_14_code 13 = .ok (.baload, 1) := by decide +kernel
theorem d_M_isDigit_14 : decode prog_12_method_14_code 14 = .ok (.bipush 48, 2) := by decide +kernel
theorem d_M_isDigit_16 : decode prog_12_method_14_code 16 = .ok (.if_icmp .lt 18, 3) := by decide +kernel
theorem d_M_isDigit_19 : decode prog_12_method_14_code 19 = .ok (.aload_n 0, 1) := by decide +kernel
theorem d_M_isDigit_20 : decode prog_12_method_14_code 20 = .ok (.getfield 7, 3) := by decide +kernel
theorem d_M_isDigit_23 : decode prog_12_method_14_code 23 = .ok (.iload_n 1, 1) := by decide +kernel
theorem d_M_isDigit_24 : decode prog_12_method_14_code 24 = .ok (.baload, 1) := by decide +kernel
theorem d_M_isDigit_25 : decode prog_12_method_14_code 25 = .ok (.bipush 57, 2) := by decide +kernel
theorem d_M_isDigit_27 : decode prog_12_method_14_code 27 = .ok (.if_icmp .gt 7, 3) := by decide +kernel
theorem d_M_isDigit_30 : decode prog_12_method_14_code 30 = .ok (.iconst 1, 1) := by decide +kernel
theorem d_M_isDigit_31 : decode prog_12_method_14_code 31 = .ok (.goto 4, 3) := by decide +kernel
theorem d_M_isDigit_34 : decode prog_12_method_14_code 34 = .ok (.iconst 0, 1) := by decide +kernel
theorem d_M_isDigit_35 : decode prog_12_method_14_code 35 = .ok (.ireturn, 1) := by decide +kernel
theorem d_M_isLetter_0 : decode prog_12_method_15_code 0 = .ok (.iload_n 1, 1) := by decide +kernel
theorem d_M_isLetter_1 : decode prog_12_method_15_code 1 = .ok (.aload_n 0, 1) := by decide +kernel
theorem d_M_isLetter_2 : decode prog_12_method_15_code 2 = .ok (.getfield 99, 3) := by decide +kernel
theorem d_M_isLetter_5 : decode prog_12_method_15_code 5 = .ok (.if_icmp .ge 29, 3) := by decide +kernel
theorem d_M_isLetter_8 : decode prog_12_method_15_code 8 = .ok (.aload_n 0, 1) := by decide +kernel
theorem d_M_isLetter_9 : decode prog_12_method_15_code 9 = .ok (.getfield 7, 3) := by decide +kernel
theorem d_M_isLetter_12 : decode prog_12_method_15_code 12 = .ok (.iload_n 1, 1) := by decide +kernel
theorem d_M_isLetter_13 : decode prog_12_method_15_code 13 = .ok (.baload, 1) := by decide +kernel
theorem d_M_isLetter_14 : decode prog_12_method_15_code 14 = .ok (.bipush 97, 2) := by decide +kernel
theorem d_M_isLetter_16 : decode prog_12_method_15_code 16 = .ok (.if_icmp .lt 18, 3) := by decide +kernel
theorem d_M_isLetter_19 : decode prog_12_method_15_code 19 = .ok (.aload_n 0, 1) := by decide +kernel
theorem d_M_isLetter_20 : decode prog_12_method_15_code 20 = .ok (.getfield 7, 3) := by decide +kernel
theorem d_M_isLetter_23 : decode prog_12_method_15_code 23 = .ok (.iload_n 1, 1) := by decide +kernel
theorem d_M_isLetter_24 : decode prog_12_method_15_code 24 = .ok (.baload, 1) := by decide +kernel
theorem d_M_isLetter_25 : decode prog_12_method_15_code 25 = .ok (.bipush 122, 2) := by decide +kernel
theorem d_M_isLetter_27 : decode prog_12_method_15_code 27 = .ok (.if_icmp .gt 7, 3) := by decide +kernel
theorem d_M_isLetter_30 : decode prog_12_method_15_code 30 = .ok (.iconst 1, 1) := by decide +kernel
theorem d_M_isLetter_31 : decode prog_12_method_15_code 31 = .ok (.goto 4, 3) := by decide +kernel
theorem d_M_isLetter_34 : decode prog_12_method_15_code 34 = .ok (.iconst 0, 1) := by decide +kernel
theorem d_M_isLetter_35 : decode prog_12_method_15_code 35 = .ok (.ireturn, 1) := by decide +kernel
theorem d_M_isWord_0 : decode prog_12_method_16_code 0 = .ok (.aload_n 0, 1) := by decide +kernel
theorem d_M_isWord_1 : decode prog_12_method_16_code 1 = .ok (.invokevirtual 113, 3) := by decide +kernel
theorem d_M_isWord_4 : decode prog_12_method_16_code 4 = .ok (.pop, 1) := by decide +kernel
theorem d_M_isWord_5 : decode prog_12_method_16_code 5 = .ok (.lconst 0, 1) := by decide +kernel
theorem d_M_isWord_6 : decode prog_12_method_16_code 6 = .ok (.lstore_n 3, 1) := by decide +kernel
theorem d_M_isWord_7 : decode prog_12_method_16_code 7 = .ok (.iconst 0, 1) := by decide +kernel
theorem d_M_isWord_8 : decode prog_12_method_16_code 8 = .ok (.istore 5, 2) := by decide +kernel
theorem d_M_isWord_10 : decode prog_12_method_16_code 10 = .ok (.aload_n 0, 1) := by decide +kernel
theorem d_M_isWord_11 : decode prog_12_method_16_code 11 = .ok (.aload_n 0, 1) := by decide +kernel
theorem d_M_isWord_12 : decode prog_12_method_16_code 12 = .ok (.getfield 110, 3) := by decide +kernel
theorem d_M_isWord_15 : decode prog_12_method_16_code 15 = .ok (.iload 5, 2) := by decide +kernel
theorem d_M_isWord_17 : decode prog_12_method_16_code 17 = .ok (.iadd, 1) := by decide +kernel
theorem d_M_isWord_18 : decode prog_12_method_16_code 18 = .ok (.invokevirtual 117, 3) := by decide +kernel
theorem d_M_isWord_21 : decode prog_12_method_16_code 21 = .ok (.ifCond .eq 35, 3) := by decide +kernel
theorem d_M_isWord_24 : decode prog_12_method_16_code 24 = .ok (.iload 5, 2) := by decide +kernel
theorem d_M_isWord_26 : decode prog_12_method_16_code 26 = .ok (.bipush 8, 2) := by decide +kernel
theorem d_M_isWord_28 : decode prog_12_method_16_code 28 = .ok (.if_icmp .ge 22, 3) := by decide +kernel
theorem d_M_isWord_31 : decode prog_12_method_16_code 31 = .ok (.lload_n 3, 1) := by decide +kernel
theorem d_M_isWord_32 : decode prog_12_method_16_code 32 = .ok (.bipush 8, 2) := by decide +kernel
theorem d_M_isWord_34 : decode prog_12_method_16_code 34 = .ok (.lshl, 1) := by decide +kernel
theorem d_M_isWord_35 : decode prog_12_method_16_code 35 = .ok (.aload_n 0, 1) := by decide +kernel
theorem d_M_isWord_36 : decode prog_12_method_16_code 36 = .ok (.getfield 7, 3) := by decide +kernel
theorem d_M_isWord_39 : decode prog_12_method_16_code 39 = .ok (.aload_n 0, 1) := by decide +kernel
theorem d_M_isWord_40 : decode prog_12_method_16_code 40 = .ok (.getfield 110, 3) := by decide +kernel
theorem d_M_isWord_43 : decode prog_12_method_16_code 43 = .ok (.iload 5, 2) := by decide +kernel
theorem d_M_isWord_45 : decode prog_12_method_16_code 45 = .ok (.iadd, 1) := by decide +kernel
theorem d_M_isWord_46 : decode prog_12_method_16_code 46 = .ok (.baload, 1) := by decide +kernel
theorem d_M_isWord_47 : decode prog_12_method_16_code 47 = .ok (.i2l, 1) := by decide +kernel
theorem d_M_isWord_48 : decode prog_12_method_16_code 48 = .ok (.lor, 1) := by decide +kernel
theorem d_M_isWord_49 : decode prog_12_method_16_code 49 = .ok (.lstore_n 3, 1) := by decide +kernel
theorem d_M_isWord_50 : decode prog_12_method_16_code 50 = .ok (.iinc 5 1, 3) := by decide +kernel
theorem d_M_isWord_53 : decode prog_12_method_16_code 53 = .ok (.goto (-43), 3) := by decide +kernel
theorem d_M_isWord_56 : decode prog_12_method_16_code 56 = .ok (.iload 5, 2) := by decide +kernel
theorem d_M_isWord_58 : decode prog_12_method_16_code 58 = .ok (.ifCond .le 20, 3) := by decide +kernel
theorem d_M_isWord_61 : decode prog_12_method_16_code 61 = .ok (.iload 5, 2) := by decide +kernel
theorem d_M_isWord_63 : decode prog_12_method_16_code 63 = .ok (.bipush 8, 2) := by decide +kernel
theorem d_M_isWord_65 : decode prog_12_method_16_code 65 = .ok (.if_icmp .ge 13, 3) := by decide +kernel
theorem d_M_isWord_68 : decode prog_12_method_16_code 68 = .ok (.lload_n 3, 1) := by decide +kernel
theorem d_M_isWord_69 : decode prog_12_method_16_code 69 = .ok (.lload_n 1, 1) := by decide +kernel
theorem d_M_isWord_70 : decode prog_12_method_16_code 70 = .ok (.lcmp, 1) := by decide +kernel
theorem d_M_isWord_71 : decode prog_12_method_16_code 71 = .ok (.ifCond .ne 7, 3) := by decide +kernel
theorem d_M_isWord_74 : decode prog_12_method_16_code 74 = .ok (.iconst 1, 1) := by decide +kernel
theorem d_M_isWord_75 : decode prog_12_method_16_code 75 = .ok (.goto 4, 3) := by decide +kernel
theorem d_M_isWord_78 : decode prog_12_method_16_code 78 = .ok (.iconst 0, 1) := by decide +kernel
theorem d_M_isWord_79 : decode prog_12_method_16_code 79 = .ok (.ireturn, 1) := by decide +kernel
theorem d_M_passWord_0 : decode prog_12_method_17_code 0 = .ok (.aload_n 0, 1) := by decide +kernel
theorem d_M_passWord_1 : decode prog_12_method_17_code 1 = .ok (.aload_n 0, 1) := by decide +kernel
theorem d_M_passWord_2 : decode prog_12_method_17_code 2 = .ok (.getfield 110, 3) := by decide +kernel
theorem d_M_passWord_5 : decode prog_12_method_17_code 5 = .ok (.invokevirtual 117, 3) := by decide +kernel
theorem d_M_passWord_8 : decode prog_12_method_17_code 8 = .ok (.ifCond .eq 16, 3) := by decide +kernel
theorem d_M_passWord_11 : decode prog_12_method_17_code 11 = .ok (.aload_n 0, 1) := by decide +kernel
theorem d_M_passWord_12 : decode prog_12_method_17_code 12 = .ok (.dup, 1) := by decide +kernel
theorem d_M_passWord_13 : decode prog_12_method_17_code 13 = .ok (.getfield 110, 3) := by decide +kernel
theorem d_M_passWord_16 : decode prog_12_method_17_code 16 = .ok (.iconst 1, 1) := by decide +kernel
theorem d_M_passWord_17 : decode prog_12_method_17_code 17 = .ok (.iadd, 1) := by decide +kernel
theorem d_M_passWord_18 : decode prog_12_method_17_code 18 = .ok (.putfield 110, 3) := by decide +kernel
theorem d_M_passWord_21 : decode prog_12_method_17_code 21 = .ok (.goto (-21), 3) := by decide +kernel
theorem d_M_passWord_24 : decode prog_12_method_17_code 24 = .ok (.return_, 1) := by decide +kernel
theorem d_M_takesWord_0 : decode prog_12_method_18_code 0 = .ok (.aload_n 0, 1) := by decide +kernel
theorem d_M_takesWord_1 : decode prog_12_method_18_code 1 = .ok (.lload_n 1, 1) := by decide +kernel
theorem d_M_takesWord_2 : decode prog_12_method_18_code 2 = .ok (.invokevirtual 121, 3) := by decide +kernel
theorem d_M_takesWord_5 : decode prog_12_method_18_code 5 = .ok (.ifCond .ne 5, 3) := by decide +kernel
theorem d_M_takesWord_8 : decode prog_12_method_18_code 8 = .ok (.iconst 0, 1) := by decide +kernel
theorem d_M_takesWord_9 : decode prog_12_method_18_code 9 = .ok (.ireturn, 1) := by decide +kernel
theorem d_M_takesWord_10 : decode prog_12_method_18_code 10 = .ok (.aload_n 0, 1) := by decide +kernel
theorem d_M_takesWord_11 : decode prog_12_method_18_code 11 = .ok (.invokevirtual 125, 3) := by decide +kernel
theorem d_M_takesWord_14 : decode prog_12_method_18_code 14 = .ok (.iconst 1, 1) := by decide +kernel
theorem d_M_takesWord_15 : decode prog_12_method_18_code 15 = .ok (.ireturn, 1) := by decide +kernel
theorem d_M_numberHere_0 : decode prog_12_method_19_code 0 = .ok (.aload_n 0, 1) := by decide +kernel
theorem d_M_numberHere_1 : decode prog_12_method_19_code 1 = .ok (.invokevirtual 113, 3) := by decide +kernel
theorem d_M_numberHere_4 : decode prog_12_method_19_code 4 = .ok (.pop, 1) := by decide +kernel
theorem d_M_numberHere_5 : decode prog_12_method_19_code 5 = .ok (.aload_n 0, 1) := by decide +kernel
theorem d_M_numberHere_6 : decode prog_12_method_19_code 6 = .ok (.aload_n 0, 1) := by decide +kernel
theorem d_M_numberHere_7 : decode prog_12_method_19_code 7 = .ok (.getfield 110, 3) := by decide +kernel
theorem d_M_numberHere_10 : decode prog_12_method_19_code 10 = .ok (.invokevirtual 128, 3) := by decide +kernel
theorem d_M_numberHere_13 : decode prog_12_method_19_code 13 = .ok (.ifCond .ne 13, 3) := by decide +kernel
theorem d_M_numberHere_16 : decode prog_12_method_19_code 16 = .ok (.aload_n 0, 1) := by decide +kernel
theorem d_M_numberHere_17 : decode prog_12_method_19_code 17 = .ok (.iconst 0, 1) := by decide +kernel
theorem d_M_numberHere_18 : decode prog_12_method_19_code 18 = .ok (.aload_n 0, 1) := by decide +kernel
theorem d_M_numberHere_19 : decode prog_12_method_19_code 19 = .ok (.getfield 110, 3) := by decide +kernel
theorem d_M_numberHere_22 : decode prog_12_method_19_code 22 = .ok (.invokevirtual 131, 3) := by decide +kernel
theorem d_M_numberHere_25 : decode prog_12_method_19_code 25 = .ok (.ireturn, 1) := by decide +kernel
theorem d_M_numberHere_26 : decode prog_12_method_19_code 26 = .ok (.aload_n 0, 1) := by decide +kernel
theorem d_M_numberHere_27 : decode prog_12_method_19_code 27 = .ok (.getfield 110, 3) := by decide +kernel
theorem d_M_numberHere_30 : decode prog_12_method_19_code 30 = .ok (.istore_n 3, 1) := by decide +kernel
theorem d_M_numberHere_31 : decode prog_12_method_19_code 31 = .ok (.iconst 0, 1) := by decide +kernel
theorem d_M_numberHere_32 : decode prog_12_method_19_code 32 = .ok (.istore 4, 2) := by decide +kernel
theorem d_M_numberHere_34 : decode prog_12_method_19_code 34 = .ok (.aload_n 0, 1) := by decide +kernel
theorem d_M_numberHere_35 : decode prog_12_method_19_code 35 = .ok (.aload_n 0, 1) := by decide +kernel
theorem d_M_numberHere_36 : decode prog_12_method_19_code 36 = .ok (.getfield 110, 3) := by decide +kernel
theorem d_M_numberHere_39 : decode prog_12_method_19_code 39 = .ok (.invokevirtual 128, 3) := by decide +kernel
theorem d_M_numberHere_42 : decode prog_12_method_19_code 42 = .ok (.ifCond .eq 46, 3) := by decide +kernel
theorem d_M_numberHere_45 : decode prog_12_method_19_code 45 = .ok (.aload_n 0, 1) := by decide +kernel
theorem d_M_numberHere_46 : decode prog_12_method_19_code 46 = .ok (.getfield 110, 3) := by decide +kernel
theorem d_M_numberHere_49 : decode prog_12_method_19_code 49 = .ok (.iload_n 3, 1) := by decide +kernel
theorem d_M_numberHere_50 : decode prog_12_method_19_code 50 = .ok (.isub, 1) := by decide +kernel
theorem d_M_numberHere_51 : decode prog_12_method_19_code 51 = .ok (.iconst 5, 1) := by decide +kernel
theorem d_M_numberHere_52 : decode prog_12_method_19_code 52 = .ok (.if_icmp .ge 23, 3) := by decide +kernel
theorem d_M_numberHere_55 : decode prog_12_method_19_code 55 = .ok (.bipush 10, 2) := by decide +kernel
theorem d_M_numberHere_57 : decode prog_12_method_19_code 57 = .ok (.iload 4, 2) := by decide +kernel
theorem d_M_numberHere_59 : decode prog_12_method_19_code 59 = .ok (.imul, 1) := by decide +kernel
theorem d_M_numberHere_60 : decode prog_12_method_19_code 60 = .ok (.aload_n 0, 1) := by decide +kernel
theorem d_M_numberHere_61 : decode prog_12_method_19_code 61 = .ok (.getfield 7, 3) := by decide +kernel
theorem d_M_numberHere_64 : decode prog_12_method_19_code 64 = .ok (.aload_n 0, 1) := by decide +kernel
theorem d_M_numberHere_65 : decode prog_12_method_19_code 65 = .ok (.getfield 110, 3) := by decide +kernel
theorem d_M_numberHere_68 : decode prog_12_method_19_code 68 = .ok (.baload, 1) := by decide +kernel
theorem d_M_numberHere_69 : decode prog_12_method_19_code 69 = .ok (.iadd, 1) := by decide +kernel
theorem d_M_numberHere_70 : decode prog_12_method_19_code 70 = .ok (.bipush 48, 2) := by decide +kernel
theorem d_M_numberHere_72 : decode prog_12_method_19_code 72 = .ok (.isub, 1) := by decide +kernel
theorem d_M_numberHere_73 : decode prog_12_method_19_code 73 = .ok (.istore 4, 2) := by decide +kernel
theorem d_M_numberHere_75 : decode prog_12_method_19_code 75 = .ok (.aload_n 0, 1) := by decide +kernel
theorem d_M_numberHere_76 : decode prog_12_method_19_code 76 = .ok (.dup, 1) := by decide +kernel
theorem d_M_numberHere_77 : decode prog_12_method_19_code 77 = .ok (.getfield 110, 3) := by decide +kernel
theorem d_M_numberHere_80 : decode prog_12_method_19_code 80 = .ok (.iconst 1, 1) := by decide +kernel
theorem d_M_numberHere_81 : decode prog_12_method_19_code 81 = .ok (.iadd, 1) := by decide +kernel
theorem d_M_numberHere_82 : decode prog_12_method_19_code 82 = .ok (.putfield 110, 3) := by decide +kernel
theorem d_M_numberHere_85 : decode prog_12_method_19_code 85 = .ok (.goto (-51), 3) := by decide +kernel
theorem d_M_numberHere_88 : decode prog_12_method_19_code 88 = .ok (.aload_n 0, 1) := by decide +kernel
theorem d_M_numberHere_89 : decode prog_12_method_19_code 89 = .ok (.iload 4, 2) := by decide +kernel
theorem d_M_numberHere_91 : decode prog_12_method_19_code 91 = .ok (.putfield 135, 3) := by decide +kernel
theorem d_M_numberHere_94 : decode prog_12_method_19_code 94 = .ok (.aload_n 0, 1) := by decide +kernel
theorem d_M_numberHere_95 : decode prog_12_method_19_code 95 = .ok (.getfield 110, 3) := by decide +kernel
theorem d_M_numberHere_98 : decode prog_12_method_19_code 98 = .ok (.iload_n 3, 1) := by decide +kernel
theorem d_M_numberHere_99 : decode prog_12_method_19_code 99 = .ok (.isub, 1) := by decide +kernel
theorem d_M_numberHere_100 : decode prog_12_method_19_code 100 = .ok (.iconst 5, 1) := by decide +kernel
theorem d_M_numberHere_101 : decode prog_12_method_19_code 101 = .ok (.if_icmp .gt 16, 3) := by decide +kernel
theorem d_M_numberHere_104 : decode prog_12_method_19_code 104 = .ok (.iload 4, 2) := by decide +kernel
theorem d_M_numberHere_106 : decode prog_12_method_19_code 106 = .ok (.i2l, 1) := by decide +kernel
theorem d_M_numberHere_107 : decode prog_12_method_19_code 107 = .ok (.iload_n 1, 1) := by decide +kernel
theorem d_M_numberHere_108 : decode prog_12_method_19_code 108 = .ok (.i2l, 1) := by decide +kernel
theorem d_M_numberHere_109 : decode prog_12_method_19_code 109 = .ok (.iload_n 2, 1) := by decide +kernel
theorem d_M_numberHere_110 : decode prog_12_method_19_code 110 = .ok (.i2l, 1) := by decide +kernel
theorem d_M_numberHere_111 : decode prog_12_method_19_code 111 = .ok (.invokestatic 138, 3) := by decide +kernel
theorem d_M_numberHere_114 : decode prog_12_method_19_code 114 = .ok (.ifCond .ne 12, 3) := by decide +kernel
theorem d_M_numberHere_117 : decode prog_12_method_19_code 117 = .ok (.aload_n 0, 1) := by decide +kernel
theorem d_M_numberHere_118 : decode prog_12_method_19_code 118 = .ok (.iconst 1, 1) := by decide +kernel
theorem d_M_numberHere_119 : decode prog_12_method_19_code 119 = .ok (.iload_n 3, 1) := by decide +kernel
theorem d_M_numberHere_120 : decode prog_12_method_19_code 120 = .ok (.invokevirtual 131, 3) := by decide +kernel
theorem d_M_numberHere_123 : decode prog_12_method_19_code 123 = .ok (.ifCond .eq 7, 3) := by decide +kernel
theorem d_M_numberHere_126 : decode prog_12_method_19_code 126 = .ok (.iconst 1, 1) := by decide +kernel
theorem d_M_numberHere_127 : decode prog_12_method_19_code 127 = .ok (.goto 4, 3) := by decide +kernel
theorem d_M_numberHere_130 : decode prog_12_method_19_code 130 = .ok (.iconst 0, 1) := by decide +kernel
theorem d_M_numberHere_131 : decode prog_12_method_19_code 131 = .ok (.ireturn, 1) := by decide +kernel
theorem d_M_wordHere_0 : decode prog_12_method_20_code 0 = .ok (.aload_n 0, 1) := by decide +kernel
theorem d_M_wordHere_1 : decode prog_12_method_20_code 1 = .ok (.ldc2_w 142, 3) := by decide +kernel
theorem d_M_wordHere_4 : decode prog_12_method_20_code 4 = .ok (.invokevirtual 121, 3) := by decide +kernel
theorem d_M_wordHere_7 : decode prog_12_method_20_code 7 = .ok (.ifCond .eq 5, 3) := by decide +kernel
theorem d_M_wordHere_10 : decode prog_12_method_20_code 10 = .ok (.iconst 0, 1) := by decide +kernel
theorem d_M_wordHere_11 : decode prog_12_method_20_code 11 = .ok (.ireturn, 1) := by decide +kernel
theorem d_M_wordHere_12 : decode prog_12_method_20_code 12 = .ok (.aload_n 0, 1) := by decide +kernel
theorem d_M_wordHere_13 : decode prog_12_method_20_code 13 = .ok (.ldc2_w 144, 3) := by decide +kernel
theorem d_M_wordHere_16 : decode prog_12_method_20_code 16 = .ok (.invokevirtual 121, 3) := by decide +kernel
theorem d_M_wordHere_19 : decode prog_12_method_20_code 19 = .ok (.ifCond .eq 5, 3) := by decide +kernel
theorem d_M_wordHere_22 : decode prog_12_method_20_code 22 = .ok (.iconst 1, 1) := by decide +kernel
theorem d_M_wordHere_23 : decode prog_12_method_20_code 23 = .ok (.ireturn, 1) := by decide +kernel
theorem d_M_wordHere_24 : decode prog_12_method_20_code 24 = .ok (.aload_n 0, 1) := by decide +kernel
theorem d_M_wordHere_25 : decode prog_12_method_20_code 25 = .ok (.ldc2_w 146, 3) := by decide +kernel
theorem d_M_wordHere_28 : decode prog_12_method_20_code 28 = .ok (.invokevirtual 121, 3) := by decide +kernel
theorem d_M_wordHere_31 : decode prog_12_method_20_code 31 = .ok (.ifCond .eq 5, 3) := by decide +kernel
theorem d_M_wordHere_34 : decode prog_12_method_20_code 34 = .ok (.iconst 2, 1) := by decide +kernel
theorem d_M_wordHere_35 : decode prog_12_method_20_code 35 = .ok (.ireturn, 1) := by decide +kernel
theorem d_M_wordHere_36 : decode prog_12_method_20_code 36 = .ok (.aload_n 0, 1) := by decide +kernel
theorem d_M_wordHere_37 : decode prog_12_method_20_code 37 = .ok (.ldc2_w 148, 3) := by decide +kernel
theorem d_M_wordHere_40 : decode prog_12_method_20_code 40 = .ok (.invokevirtual 121, 3) := by decide +kernel
theorem d_M_wordHere_43 : decode prog_12_method_20_code 43 = .ok (.ifCond .eq 5, 3) := by decide +kernel
theorem d_M_wordHere_46 : decode prog_12_method_20_code 46 = .ok (.iconst 3, 1) := by decide +kernel
theorem d_M_wordHere_47 : decode prog_12_method_20_code 47 = .ok (.ireturn, 1) := by decide +kernel
theorem d_M_wordHere_48 : decode prog_12_method_20_code 48 = .ok (.aload_n 0, 1) := by decide +kernel
theorem d_M_wordHere_49 : decode prog_12_method_20_code 49 = .ok (.ldc2_w 150, 3) := by decide +kernel
theorem d_M_wordHere_52 : decode prog_12_method_20_code 52 = .ok (.invokevirtual 121, 3) := by decide +kernel
theorem d_M_wordHere_55 : decode prog_12_method_20_code 55 = .ok (.ifCond .eq 5, 3) := by decide +kernel
theorem d_M_wordHere_58 : decode prog_12_method_20_code 58 = .ok (.iconst 4, 1) := by decide +kernel
theorem d_M_wordHere_59 : decode prog_12_method_20_code 59 = .ok (.ireturn, 1) := by decide +kernel
theorem d_M_wordHere_60 : decode prog_12_method_20_code 60 = .ok (.aload_n 0, 1) := by decide +kernel
theorem d_M_wordHere_61 : decode prog_12_method_20_code 61 = .ok (.ldc2_w 152, 3) := by decide +kernel
theorem d_M_wordHere_64 : decode prog_12_method_20_code 64 = .ok (.invokevirtual 121, 3) := by decide +kernel
theorem d_M_wordHere_67 : decode prog_12_method_20_code 67 = .ok (.ifCond .eq 5, 3) := by decide +kernel
theorem d_M_wordHere_70 : decode prog_12_method_20_code 70 = .ok (.iconst 5, 1) := by decide +kernel
theorem d_M_wordHere_71 : decode prog_12_method_20_code 71 = .ok (.ireturn, 1) := by decide +kernel
theorem d_M_wordHere_72 : decode prog_12_method_20_code 72 = .ok (.aload_n 0, 1) := by decide +kernel
theorem d_M_wordHere_73 : decode prog_12_method_20_code 73 = .ok (.ldc2_w 154, 3) := by decide +kernel
theorem d_M_wordHere_76 : decode prog_12_method_20_code 76 = .ok (.invokevirtual 121, 3) := by decide +kernel
theorem d_M_wordHere_79 : decode prog_12_method_20_code 79 = .ok (.ifCond .eq 8, 3) := by decide +kernel
theorem d_M_wordHere_82 : decode prog_12_method_20_code 82 = .ok (.bipush 6, 2) := by decide +kernel
theorem d_M_wordHere_84 : decode prog_12_method_20_code 84 = .ok (.goto 19, 3) := by decide +kernel
theorem d_M_wordHere_87 : decode prog_12_method_20_code 87 = .ok (.aload_n 0, 1) := by decide +kernel
theorem d_M_wordHere_88 : decode prog_12_method_20_code 88 = .ok (.ldc2_w 156, 3) := by decide +kernel
theorem d_M_wordHere_91 : decode prog_12_method_20_code 91 = .ok (.invokevirtual 121, 3) := by decide +kernel
theorem d_M_wordHere_94 : decode prog_12_method_20_code 94 = .ok (.ifCond .eq 8, 3) := by decide +kernel
theorem d_M_wordHere_97 : decode prog_12_method_20_code 97 = .ok (.bipush 7, 2) := by decide +kernel
theorem d_M_wordHere_99 : decode prog_12_method_20_code 99 = .ok (.goto 4, 3) := by decide +kernel
theorem d_M_wordHere_102 : decode prog_12_method_20_code 102 = .ok (.iconst (-1), 1) := by decide +kernel
theorem d_M_wordHere_103 : decode prog_12_method_20_code 103 = .ok (.ireturn, 1) := by decide +kernel
theorem d_M_puts_0 : decode prog_12_method_21_code 0 = .ok (.aload_n 0, 1) := by decide +kernel
theorem d_M_puts_1 : decode prog_12_method_21_code 1 = .ok (.getfield 13, 3) := by decide +kernel
theorem d_M_puts_4 : decode prog_12_method_21_code 4 = .ok (.sipush 400, 3) := by decide +kernel
theorem d_M_puts_7 : decode prog_12_method_21_code 7 = .ok (.aload_n 0, 1) := by decide +kernel
theorem d_M_puts_8 : decode prog_12_method_21_code 8 = .ok (.getfield 158, 3) := by decide +kernel
theorem d_M_puts_11 : decode prog_12_method_21_code 11 = .ok (.imul, 1) := by decide +kernel
theorem d_M_puts_12 : decode prog_12_method_21_code 12 = .ok (.aload_n 0, 1) := by decide +kernel
theorem d_M_puts_13 : decode prog_12_method_21_code 13 = .ok (.getfield 17, 3) := by decide +kernel
theorem d_M_puts_16 : decode prog_12_method_21_code 16 = .ok (.aload_n 0, 1) := by decide +kernel
theorem d_M_puts_17 : decode prog_12_method_21_code 17 = .ok (.getfield 158, 3) := by decide +kernel
theorem d_M_puts_20 : decode prog_12_method_21_code 20 = .ok (.iaload, 1) := by decide +kernel
theorem d_M_puts_21 : decode prog_12_method_21_code 21 = .ok (.iadd, 1) := by decide +kernel
theorem d_M_puts_22 : decode prog_12_method_21_code 22 = .ok (.iload_n 1, 1) := by decide +kernel
theorem d_M_puts_23 : decode prog_12_method_21_code 23 = .ok (.bipush 16, 2) := by decide +kernel
theorem d_M_puts_25 : decode prog_12_method_21_code 25 = .ok (.iload_n 2, 1) := by decide +kernel
theorem d_M_puts_26 : decode prog_12_method_21_code 26 = .ok (.imul, 1) := by decide +kernel
theorem d_M_puts_27 : decode prog_12_method_21_code 27 = .ok (.iadd, 1) := by decide +kernel
theorem d_M_puts_28 : decode prog_12_method_21_code 28 = .ok (.iastore, 1) := by decide +kernel
theorem d_M_puts_29 : decode prog_12_method_21_code 29 = .ok (.aload_n 0, 1) := by decide +kernel
theorem d_M_puts_30 : decode prog_12_method_21_code 30 = .ok (.getfield 17, 3) := by decide +kernel
theorem d_M_puts_33 : decode prog_12_method_21_code 33 = .ok (.aload_n 0, 1) := by decide +kernel
theorem d_M_puts_34 : decode prog_12_method_21_code 34 = .ok (.getfield 158, 3) := by decide +kernel
theorem d_M_puts_37 : decode prog_12_method_21_code 37 = .ok (.dup2, 1) := by decide +kernel
theorem d_M_puts_38 : decode prog_12_method_21_code 38 = .ok (.iaload, 1) := by decide +kernel
theorem d_M_puts_39 : decode prog_12_method_21_code 39 = .ok (.iconst 1, 1) := by decide +kernel
theorem d_M_puts_40 : decode prog_12_method_21_code 40 = .ok (.iadd, 1) := by decide +kernel
theorem d_M_puts_41 : decode prog_12_method_21_code 41 = .ok (.iastore, 1) := by decide +kernel
theorem d_M_puts_42 : decode prog_12_method_21_code 42 = .ok (.return_, 1) := by decide +kernel
theorem d_M_makes_0 : decode prog_12_method_22_code 0 = .ok (.aload_n 0, 1) := by decide +kernel
theorem d_M_makes_1 : decode prog_12_method_22_code 1 = .ok (.getfield 161, 3) := by decide +kernel
theorem d_M_makes_4 : decode prog_12_method_22_code 4 = .ok (.bipush 60, 2) := by decide +kernel
theorem d_M_makes_6 : decode prog_12_method_22_code 6 = .ok (.if_icmp .ne 10, 3) := by decide +kernel
theorem d_M_makes_9 : decode prog_12_method_22_code 9 = .ok (.aload_n 0, 1) := by decide +kernel
theorem d_M_makes_10 : decode prog_12_method_22_code 10 = .ok (.iconst 3, 1) := by decide +kernel
theorem d_M_makes_11 : decode prog_12_method_22_code 11 = .ok (.iload_n 1, 1) := by decide +kernel
theorem d_M_makes_12 : decode prog_12_method_22_code 12 = .ok (.invokevirtual 131, 3) := by decide +kernel
theorem d_M_makes_15 : decode prog_12_method_22_code 15 = .ok (.ireturn, 1) := by decide +kernel
theorem d_M_makes_16 : decode prog_12_method_22_code 16 = .ok (.aload_n 0, 1) := by decide +kernel
theorem d_M_makes_17 : decode prog_12_method_22_code 17 = .ok (.dup, 1) := by decide +kernel
theorem d_M_makes_18 : decode prog_12_method_22_code 18 = .ok (.getfield 161, 3) := by decide +kernel
theorem d_M_makes_21 : decode prog_12_method_22_code 21 = .ok (.iconst 1, 1) := by decide +kernel
theorem d_M_makes_22 : decode prog_12_method_22_code 22 = .ok (.iadd, 1) := by decide +kernel
theorem d_M_makes_23 : decode prog_12_method_22_code 23 = .ok (.putfield 161, 3) := by decide +kernel
theorem d_M_makes_26 : decode prog_12_method_22_code 26 = .ok (.iconst 1, 1) := by decide +kernel
theorem d_M_makes_27 : decode prog_12_method_22_code 27 = .ok (.ireturn, 1) := by decide +kernel
theorem d_M_opens_0 : decode prog_12_method_23_code 0 = .ok (.aload_n 0, 1) := by decide +kernel
theorem d_M_opens_1 : decode prog_12_method_23_code 1 = .ok (.getfield 164, 3) := by decide +kernel
theorem d_M_opens_4 : decode prog_12_method_23_code 4 = .ok (.bipush 10, 2) := by decide +kernel
theorem d_M_opens_6 : decode prog_12_method_23_code 6 = .ok (.if_icmp .ne 13, 3) := by decide +kernel
theorem d_M_opens_9 : decode prog_12_method_23_code 9 = .ok (.aload_n 0, 1) := by decide +kernel
theorem d_M_opens_10 : decode prog_12_method_23_code 10 = .ok (.iconst 2, 1) := by decide +kernel
theorem d_M_opens_11 : decode prog_12_method_23_code 11 = .ok (.aload_n 0, 1) := by decide +kernel
theorem d_M_opens_12 : decode prog_12_method_23_code 12 = .ok (.getfield 110, 3) := by decide +kernel
theorem d_M_opens_15 : decode prog_12_method_23_code 15 = .ok (.invokevirtual 131, 3) := by decide +kernel
theorem d_M_opens_18 : decode prog_12_method_23_code 18 = .ok (.ireturn, 1) := by decide +kernel
theorem d_M_opens_19 : decode prog_12_method_23_code 19 = .ok (.aload_n 0, 1) := by decide +kernel
theorem d_M_opens_20 : decode prog_12_method_23_code 20 = .ok (.dup, 1) := by decide +kernel
theorem d_M_opens_21 : decode prog_12_method_23_code 21 = .ok (.getfield 164, 3) := by decide +kernel
theorem d_M_opens_24 : decode prog_12_method_23_code 24 = .ok (.iconst 1, 1) := by decide +kernel
theorem d_M_opens_25 : decode prog_12_method_23_code 25 = .ok (.iadd, 1) := by decide +kernel
theorem d_M_opens_26 : decode prog_12_method_23_code 26 = .ok (.putfield 164, 3) := by decide +kernel
theorem d_M_opens_29 : decode prog_12_method_23_code 29 = .ok (.aload_n 0, 1) := by decide +kernel
theorem d_M_opens_30 : decode prog_12_method_23_code 30 = .ok (.getfield 32, 3) := by decide +kernel
theorem d_M_opens_33 : decode prog_12_method_23_code 33 = .ok (.aload_n 0, 1) := by decide +kernel
theorem d_M_opens_34 : decode prog_12_method_23_code 34 = .ok (.getfield 167, 3) := by decide +kernel
theorem d_M_opens_37 : decode prog_12_method_23_code 37 = .ok (.iload_n 1, 1) := by decide +kernel
theorem d_M_opens_38 : decode prog_12_method_23_code 38 = .ok (.iastore, 1) := by decide +kernel
theorem d_M_opens_39 : decode prog_12_method_23_code 39 = .ok (.aload_n 0, 1) := by decide +kernel
theorem d_M_opens_40 : decode prog_12_method_23_code 40 = .ok (.dup, 1) := by decide +kernel
theorem d_M_opens_41 : decode prog_12_method_23_code 41 = .ok (.getfield 167, 3) := by decide +kernel
theorem d_M_opens_44 : decode prog_12_method_23_code 44 = .ok (.iconst 1, 1) := by decide +kernel
theorem d_M_opens_45 : decode prog_12_method_23_code 45 = .ok (.iadd, 1) := by decide +kernel
theorem d_M_opens_46 : decode prog_12_method_23_code 46 = .ok (.putfield 167, 3) := by decide +kernel
theorem d_M_opens_49 : decode prog_12_method_23_code 49 = .ok (.iconst 1, 1) := by decide +kernel
theorem d_M_opens_50 : decode prog_12_method_23_code 50 = .ok (.ireturn, 1) := by decide +kernel
theorem d_M_strength_0 : decode prog_12_method_24_code 0 = .ok (.iload_n 0, 1) := by decide +kernel
theorem d_M_strength_1 : decode prog_12_method_24_code 1 = .ok (.bipush 13, 2) := by decide +kernel
theorem d_M_strength_3 : decode prog_12_method_24_code 3 = .ok (.if_icmp .ne 7, 3) := by decide +kernel
theorem d_M_strength_6 : decode prog_12_method_24_code 6 = .ok (.iconst 1, 1) := by decide +kernel
theorem d_M_strength_7 : decode prog_12_method_24_code 7 = .ok (.goto 24, 3) := by decide +kernel
theorem d_M_strength_10 : decode prog_12_method_24_code 10 = .ok (.iload_n 0, 1) := by decide +kernel
theorem d_M_strength_11 : decode prog_12_method_24_code 11 = .ok (.bipush 12, 2) := by decide +kernel
theorem d_M_strength_13 : decode prog_12_method_24_code 13 = .ok (.if_icmp .ne 7, 3) := by decide +kernel
theorem d_M_strength_16 : decode prog_12_method_24_code 16 = .ok (.iconst 2, 1) := by decide +kernel
theorem d_M_strength_17 : decode prog_12_method_24_code 17 = .ok (.goto 14, 3) := by decide +kernel
theorem d_M_strength_20 : decode prog_12_method_24_code 20 = .ok (.iload_n 0, 1) := by decide +kernel
theorem d_M_strength_21 : decode prog_12_method_24_code 21 = .ok (.bipush 11, 2) := by decide +kernel
theorem d_M_strength_23 : decode prog_12_method_24_code 23 = .ok (.if_icmp .ne 7, 3) := by decide +kernel
theorem d_M_strength_26 : decode prog_12_method_24_code 26 = .ok (.iconst 3, 1) := by decide +kernel
theorem d_M_strength_27 : decode prog_12_method_24_code 27 = .ok (.goto 4, 3) := by decide +kernel
theorem d_M_strength_30 : decode prog_12_method_24_code 30 = .ok (.iconst 0, 1) := by decide +kernel
theorem d_M_strength_31 : decode prog_12_method_24_code 31 = .ok (.ireturn, 1) := by decide +kernel
theorem d_M_settles_0 : decode prog_12_method_25_code 0 = .ok (.aload_n 0, 1) := by decide +kernel
theorem d_M_settles_1 : decode prog_12_method_25_code 1 = .ok (.getfield 167, 3) := by decide +kernel
theorem d_M_settles_4 : decode prog_12_method_25_code 4 = .ok (.ifCond .le 72, 3) := by decide +kernel
theorem d_M_settles_7 : decode prog_12_method_25_code 7 = .ok (.aload_n 0, 1) := by decide +kernel
theorem d_M_settles_8 : decode prog_12_method_25_code 8 = .ok (.getfield 32, 3) := by decide +kernel
theorem d_M_settles_11 : decode prog_12_method_25_code 11 = .ok (.aload_n 0, 1) := by decide +kernel
theorem d_M_settles_12 : decode prog_12_method_25_code 12 = .ok (.getfield 167, 3) := by decide +kernel
theorem d_M_settles_15 : decode prog_12_method_25_code 15 = .ok (.iconst 1, 1) := by decide +kernel
theorem d_M_settles_16 : decode prog_12_method_25_code 16 = .ok (.isub, 1) := by decide +kernel
theorem d_M_settles_17 : decode prog_12_method_25_code 17 = .ok (.iaload, 1) := by decide +kernel
theorem d_M_settles_18 : decode prog_12_method_25_code 18 = .ok (.invokestatic 170, 3) := by decide +kernel
theorem d_M_settles_21 : decode prog_12_method_25_code 21 = .ok (.iload_n 1, 1) := by decide +kernel
theorem d_M_settles_22 : decode prog_12_method_25_code 22 = .ok (.if_icmp .lt 54, 3) := by decide +kernel
theorem d_M_settles_25 : decode prog_12_method_25_code 25 = .ok (.aload_n 0, 1) := by decide +kernel
theorem d_M_settles_26 : decode prog_12_method_25_code 26 = .ok (.dup, 1) := by decide +kernel
theorem d_M_settles_27 : decode prog_12_method_25_code 27 = .ok (.getfield 167, 3) := by decide +kernel
theorem d_M_settles_30 : decode prog_12_method_25_code 30 = .ok (.iconst 1, 1) := by decide +kernel
theorem d_M_settles_31 : decode prog_12_method_25_code 31 = .ok (.isub, 1) := by decide +kernel
theorem d_M_settles_32 : decode prog_12_method_25_code 32 = .ok (.putfield 167, 3) := by decide +kernel
theorem d_M_settles_35 : decode prog_12_method_25_code 35 = .ok (.aload_n 0, 1) := by decide +kernel
theorem d_M_settles_36 : decode prog_12_method_25_code 36 = .ok (.aload_n 0, 1) := by decide +kernel
theorem d_M_settles_37 : decode prog_12_method_25_code 37 = .ok (.getfield 32, 3) := by decide +kernel
theorem d_M_settles_40 : decode prog_12_method_25_code 40 = .ok (.aload_n 0, 1) := by decide +kernel
theorem d_M_settles_41 : decode prog_12_method_25_code 41 = .ok (.getfield 167, 3) := by decide +kernel
theorem d_M_settles_44 : decode prog_12_method_25_code 44 = .ok (.iaload, 1) := by decide +kernel
theorem d_M_settles_45 : decode prog_12_method_25_code 45 = .ok (.iconst 0, 1) := by decide +kernel
theorem d_M_settles_46 : decode prog_12_method_25_code 46 = .ok (.invokevirtual 174, 3) := by decide +kernel
theorem d_M_settles_49 : decode prog_12_method_25_code 49 = .ok (.aload_n 0, 1) := by decide +kernel
theorem d_M_settles_50 : decode prog_12_method_25_code 50 = .ok (.getfield 32, 3) := by decide +kernel
theorem d_M_settles_53 : decode prog_12_method_25_code 53 = .ok (.aload_n 0, 1) := by decide +kernel
theorem d_M_settles_54 : decode prog_12_method_25_code 54 = .ok (.getfield 167, 3) := by decide +kernel
theorem d_M_settles_57 : decode prog_12_method_25_code 57 = .ok (.iaload, 1) := by decide +kernel
theorem d_M_settles_58 : decode prog_12_method_25_code 58 = .ok (.bipush 11, 2) := by decide +kernel
theorem d_M_settles_60 : decode prog_12_method_25_code 60 = .ok (.if_icmp .ne (-60), 3) := by decide +kernel
theorem d_M_settles_63 : decode prog_12_method_25_code 63 = .ok (.aload_n 0, 1) := by decide +kernel
theorem d_M_settles_64 : decode prog_12_method_25_code 64 = .ok (.dup, 1) := by decide +kernel
theorem d_M_settles_65 : decode prog_12_method_25_code 65 = .ok (.getfield 164, 3) := by decide +kernel
theorem d_M_settles_68 : decode prog_12_method_25_code 68 = .ok (.iconst 1, 1) := by decide +kernel
theorem d_M_settles_69 : decode prog_12_method_25_code 69 = .ok (.isub, 1) := by decide +kernel
theorem d_M_settles_70 : decode prog_12_method_25_code 70 = .ok (.putfield 164, 3) := by decide +kernel
theorem d_M_settles_73 : decode prog_12_method_25_code 73 = .ok (.goto (-73), 3) := by decide +kernel
theorem d_M_settles_76 : decode prog_12_method_25_code 76 = .ok (.return_, 1) := by decide +kernel
theorem d_M_value_0 : decode prog_12_method_26_code 0 = .ok (.aload_n 0, 1) := by decide +kernel
theorem d_M_value_1 : decode prog_12_method_26_code 1 = .ok (.invokevirtual 113, 3) := by decide +kernel
theorem d_M_value_4 : decode prog_12_method_26_code 4 = .ok (.pop, 1) := by decide +kernel
theorem d_M_value_5 : decode prog_12_method_26_code 5 = .ok (.aload_n 0, 1) := by decide +kernel
theorem d_M_value_6 : decode prog_12_method_26_code 6 = .ok (.getfield 110, 3) := by decide +kernel
theorem d_M_value_9 : decode prog_12_method_26_code 9 = .ok (.istore_n 1, 1) := by decide +kernel
theorem d_M_value_10 : decode prog_12_method_26_code 10 = .ok (.aload_n 0, 1) := by decide +kernel
theorem d_M_value_11 : decode prog_12_method_26_code 11 = .ok (.aload_n 0, 1) := by decide +kernel
theorem d_M_value_12 : decode prog_12_method_26_code 12 = .ok (.getfield 110, 3) := by decide +kernel
theorem d_M_value_15 : decode prog_12_method_26_code 15 = .ok (.invokevirtual 128, 3) := by decide +kernel
theorem d_M_value_18 : decode prog_12_method_26_code 18 = .ok (.ifCond .eq 34, 3) := by decide +kernel
theorem d_M_value_21 : decode prog_12_method_26_code 21 = .ok (.aload_n 0, 1) := by decide +kernel
theorem d_M_value_22 : decode prog_12_method_26_code 22 = .ok (.iconst 0, 1) := by decide +kernel
theorem d_M_value_23 : decode prog_12_method_26_code 23 = .ok (.ldc 178, 2) := by decide +kernel
theorem d_M_value_25 : decode prog_12_method_26_code 25 = .ok (.invokevirtual 179, 3) := by decide +kernel
theorem d_M_value_28 : decode prog_12_method_26_code 28 = .ok (.ifCond .eq 11, 3) := by decide +kernel
theorem d_M_value_31 : decode prog_12_method_26_code 31 = .ok (.aload_n 0, 1) := by decide +kernel
theorem d_M_value_32 : decode prog_12_method_26_code 32 = .ok (.iload_n 1, 1) := by decide +kernel
theorem d_M_value_33 : decode prog_12_method_26_code 33 = .ok (.invokevirtual 182, 3) := by decide +kernel
theorem d_M_value_36 : decode prog_12_method_26_code 36 = .ok (.ifCond .ne 5, 3) := by decide +kernel
theorem d_M_value_39 : decode prog_12_method_26_code 39 = .ok (.iconst 0, 1) := by decide +kernel
theorem d_M_value_40 : decode prog_12_method_26_code 40 = .ok (.ireturn, 1) := by decide +kernel
theorem d_M_value_41 : decode prog_12_method_26_code 41 = .ok (.aload_n 0, 1) := by decide +kernel
theorem d_M_value_42 : decode prog_12_method_26_code 42 = .ok (.iconst 0, 1) := by decide +kernel
theorem d_M_value_43 : decode prog_12_method_26_code 43 = .ok (.aload_n 0, 1) := by decide +kernel
theorem d_M_value_44 : decode prog_12_method_26_code 44 = .ok (.getfield 135, 3) := by decide +kernel
theorem d_M_value_47 : decode prog_12_method_26_code 47 = .ok (.invokevirtual 174, 3) := by decide +kernel
theorem d_M_value_50 : decode prog_12_method_26_code 50 = .ok (.iconst 1, 1) := by decide +kernel
theorem d_M_value_51 : decode prog_12_method_26_code 51 = .ok (.ireturn, 1) := by decide +kernel
theorem d_M_value_52 : decode prog_12_method_26_code 52 = .ok (.aload_n 0, 1) := by decide +kernel
theorem d_M_value_53 : decode prog_12_method_26_code 53 = .ok (.invokevirtual 185, 3) := by decide +kernel
theorem d_M_value_56 : decode prog_12_method_26_code 56 = .ok (.istore_n 2, 1) := by decide +kernel
theorem d_M_value_57 : decode prog_12_method_26_code 57 = .ok (.iload_n 2, 1) := by decide +kernel
theorem d_M_value_58 : decode prog_12_method_26_code 58 = .ok (.ifCond .ge 10, 3) := by decide +kernel
theorem d_M_value_61 : decode prog_12_method_26_code 61 = .ok (.aload_n 0, 1) := by decide +kernel
theorem d_M_value_62 : decode prog_12_method_26_code 62 = .ok (.iconst 0, 1) := by decide +kernel
theorem d_M_value_63 : decode prog_12_method_26_code 63 = .ok (.iload_n 1, 1) := by decide +kernel
theorem d_M_value_64 : decode prog_12_method_26_code 64 = .ok (.invokevirtual 131, 3) := by decide +kernel
theorem d_M_value_67 : decode prog_12_method_26_code 67 = .ok (.ireturn, 1) := by decide +kernel
theorem d_M_value_68 : decode prog_12_method_26_code 68 = .ok (.aload_n 0, 1) := by decide +kernel
theorem d_M_value_69 : decode prog_12_method_26_code 69 = .ok (.iload_n 1, 1) := by decide +kernel
theorem d_M_value_70 : decode prog_12_method_26_code 70 = .ok (.invokevirtual 182, 3) := by decide +kernel
theorem d_M_value_73 : decode prog_12_method_26_code 73 = .ok (.ifCond .ne 5, 3) := by decide +kernel
theorem d_M_value_76 : decode prog_12_method_26_code 76 = .ok (.iconst 0, 1) := by decide +kernel
theorem d_M_value_77 : decode prog_12_method_26_code 77 = .ok (.ireturn, 1) := by decide +kernel
theorem d_M_value_78 : decode prog_12_method_26_code 78 = .ok (.aload_n 0, 1) := by decide +kernel
theorem d_M_value_79 : decode prog_12_method_26_code 79 = .ok (.invokevirtual 125, 3) := by decide +kernel
theorem d_M_value_82 : decode prog_12_method_26_code 82 = .ok (.aload_n 0, 1) := by decide +kernel
theorem d_M_value_83 : decode prog_12_method_26_code 83 = .ok (.iconst 1, 1) := by decide +kernel
theorem d_M_value_84 : decode prog_12_method_26_code 84 = .ok (.iload_n 2, 1) := by decide +kernel
theorem d_M_value_85 : decode prog_12_method_26_code 85 = .ok (.invokevirtual 174, 3) := by decide +kernel
theorem d_M_value_88 : decode prog_12_method_26_code 88 = .ok (.iconst 1, 1) := by decide +kernel
theorem d_M_value_89 : decode prog_12_method_26_code 89 = .ok (.ireturn, 1) := by decide +kernel
theorem d_M_term_0 : decode prog_12_method_27_code 0 = .ok (.aload_n 0, 1) := by decide +kernel
theorem d_M_term_1 : decode prog_12_method_27_code 1 = .ok (.invokevirtual 188, 3) := by decide +kernel
theorem d_M_term_4 : decode prog_12_method_27_code 4 = .ok (.ifCond .ne 5, 3) := by decide +kernel
theorem d_M_term_7 : decode prog_12_method_27_code 7 = .ok (.iconst 0, 1) := by decide +kernel
theorem d_M_term_8 : decode prog_12_method_27_code 8 = .ok (.ireturn, 1) := by decide +kernel
theorem d_M_term_9 : decode prog_12_method_27_code 9 = .ok (.aload_n 0, 1) := by decide +kernel
theorem d_M_term_10 : decode prog_12_method_27_code 10 = .ok (.invokevirtual 113, 3) := by decide +kernel
theorem d_M_term_13 : decode prog_12_method_27_code 13 = .ok (.bipush 42, 2) := by decide +kernel
theorem d_M_term_15 : decode prog_12_method_27_code 15 = .ok (.if_icmp .eq 12, 3) := by decide +kernel
theorem d_M_term_18 : decode prog_12_method_27_code 18 = .ok (.aload_n 0, 1) := by decide +kernel
theorem d_M_term_19 : decode prog_12_method_27_code 19 = .ok (.invokevirtual 113, 3) := by decide +kernel
theorem d_M_term_22 : decode prog_12_method_27_code 22 = .ok (.bipush 47, 2) := by decide +kernel
theorem d_M_term_24 : decode prog_12_method_27_code 24 = .ok (.if_icmp .ne 51, 3) := by decide +kernel
theorem d_M_term_27 : decode prog_12_method_27_code 27 = .ok (.aload_n 0, 1) := by decide +kernel
theorem d_M_term_28 : decode prog_12_method_27_code 28 = .ok (.getfield 7, 3) := by decide +kernel
theorem d_M_term_31 : decode prog_12_method_27_code 31 = .ok (.aload_n 0, 1) := by decide +kernel
theorem d_M_term_32 : decode prog_12_method_27_code 32 = .ok (.getfield 110, 3) := by decide +kernel
theorem d_M_term_35 : decode prog_12_method_27_code 35 = .ok (.baload, 1) := by decide +kernel
theorem d_M_term_36 : decode prog_12_method_27_code 36 = .ok (.bipush 42, 2) := by decide +kernel
theorem d_M_term_38 : decode prog_12_method_27_code 38 = .ok (.if_icmp .ne 7, 3) := by decide +kernel
theorem d_M_term_41 : decode prog_12_method_27_code 41 = .ok (.iconst 4, 1) := by decide +kernel
theorem d_M_term_42 : decode prog_12_method_27_code 42 = .ok (.goto 4, 3) := by decide +kernel
theorem d_M_term_45 : decode prog_12_method_27_code 45 = .ok (.iconst 5, 1) := by decide +kernel
theorem d_M_term_46 : decode prog_12_method_27_code 46 = .ok (.istore_n 1, 1) := by decide +kernel
theorem d_M_term_47 : decode prog_12_method_27_code 47 = .ok (.aload_n 0, 1) := by decide +kernel
theorem d_M_term_48 : decode prog_12_method_27_code 48 = .ok (.dup, 1) := by decide +kernel
theorem d_M_term_49 : decode prog_12_method_27_code 49 = .ok (.getfield 110, 3) := by decide +kernel
theorem d_M_term_52 : decode prog_12_method_27_code 52 = .ok (.iconst 1, 1) := by decide +kernel
theorem d_M_term_53 : decode prog_12_method_27_code 53 = .ok (.iadd, 1) := by decide +kernel
theorem d_M_term_54 : decode prog_12_method_27_code 54 = .ok (.putfield 110, 3) := by decide +kernel
theorem d_M_term_57 : decode prog_12_method_27_code 57 = .ok (.aload_n 0, 1) := by decide +kernel
theorem d_M_term_58 : decode prog_12_method_27_code 58 = .ok (.invokevirtual 188, 3) := by decide +kernel
theorem d_M_term_61 : decode prog_12_method_27_code 61 = .ok (.ifCond .ne 5, 3) := by decide +kernel
theorem d_M_term_64 : decode prog_12_method_27_code 64 = .ok (.iconst 0, 1) := by decide +kernel
theorem d_M_term_65 : decode prog_12_method_27_code 65 = .ok (.ireturn, 1) := by decide +kernel
theorem d_M_term_66 : decode prog_12_method_27_code 66 = .ok (.aload_n 0, 1) := by decide +kernel
theorem d_M_term_67 : decode prog_12_method_27_code 67 = .ok (.iload_n 1, 1) := by decide +kernel
theorem d_M_term_68 : decode prog_12_method_27_code 68 = .ok (.iconst 0, 1) := by decide +kernel
theorem d_M_term_69 : decode prog_12_method_27_code 69 = .ok (.invokevirtual 174, 3) := by decide +kernel
theorem d_M_term_72 : decode prog_12_method_27_code 72 = .ok (.goto (-63), 3) := by decide +kernel
theorem d_M_term_75 : decode prog_12_method_27_code 75 = .ok (.iconst 1, 1) := by decide +kernel
theorem d_M_term_76 : decode prog_12_method_27_code 76 = .ok (.ireturn, 1) := by decide +kernel
theorem d_M_sum_0 : decode prog_12_method_28_code 0 = .ok (.aload_n 0, 1) := by decide +kernel
theorem d_M_sum_1 : decode prog_12_method_28_code 1 = .ok (.invokevirtual 192, 3) := by decide +kernel
theorem d_M_sum_4 : decode prog_12_method_28_code 4 = .ok (.ifCond .ne 5, 3) := by decide +kernel
theorem d_M_sum_7 : decode prog_12_method_28_code 7 = .ok (.iconst 0, 1) := by decide +kernel
theorem d_M_sum_8 : decode prog_12_method_28_code 8 = .ok (.ireturn, 1) := by decide +kernel
theorem d_M_sum_9 : decode prog_12_method_28_code 9 = .ok (.aload_n 0, 1) := by decide +kernel
theorem d_M_sum_10 : decode prog_12_method_28_code 10 = .ok (.invokevirtual 113, 3) := by decide +kernel
theorem d_M_sum_13 : decode prog_12_method_28_code 13 = .ok (.bipush 43, 2) := by decide +kernel
theorem d_M_sum_15 : decode prog_12_method_28_code 15 = .ok (.if_icmp .eq 12, 3) := by decide +kernel
theorem d_M_sum_18 : decode prog_12_method_28_code 18 = .ok (.aload_n 0, 1) := by decide +kernel
theorem d_M_sum_19 : decode prog_12_method_28_code 19 = .ok (.invokevirtual 113, 3) := by decide +kernel
theorem d_M_sum_22 : decode prog_12_method_28_code 22 = .ok (.bipush 45, 2) := by decide +kernel
theorem d_M_sum_24 : decode prog_12_method_28_code 24 = .ok (.if_icmp .ne 51, 3) := by decide +kernel
theorem d_M_sum_27 : decode prog_12_method_28_code 27 = .ok (.aload_n 0, 1) := by decide +kernel
theorem d_M_sum_28 : decode prog_12_method_28_code 28 = .ok (.getfield 7, 3) := by decide +kernel
theorem d_M_sum_31 : decode prog_12_method_28_code 31 = .ok (.aload_n 0, 1) := by decide +kernel
theorem d_M_sum_32 : decode prog_12_method_28_code 32 = .ok (.getfield 110, 3) := by decide +kernel
theorem d_M_sum_35 : decode prog_12_method_28_code 35 = .ok (.baload, 1) := by decide +kernel
theorem d_M_sum_36 : decode prog_12_method_28_code 36 = .ok (.bipush 43, 2) := by decide +kernel
theorem d_M_sum_38 : decode prog_12_method_28_code 38 = .ok (.if_icmp .ne 7, 3) := by decide +kernel
theorem d_M_sum_41 : decode prog_12_method_28_code 41 = .ok (.iconst 2, 1) := by decide +kernel
theorem d_M_sum_42 : decode prog_12_method_28_code 42 = .ok (.goto 4, 3) := by decide +kernel
theorem d_M_sum_45 : decode prog_12_method_28_code 45 = .ok (.iconst 3, 1) := by decide +kernel
theorem d_M_sum_46 : decode prog_12_method_28_code 46 = .ok (.istore_n 1, 1) := by decide +kernel
theorem d_M_sum_47 : decode prog_12_method_28_code 47 = .ok (.aload_n 0, 1) := by decide +kernel
theorem d_M_sum_48 : decode prog_12_method_28_code 48 = .ok (.dup, 1) := by decide +kernel
theorem d_M_sum_49 : decode prog_12_method_28_code 49 = .ok (.getfield 110, 3) := by decide +kernel
theorem d_M_sum_52 : decode prog_12_method_28_code 52 = .ok (.iconst 1, 1) := by decide +kernel
theorem d_M_sum_53 : decode prog_12_method_28_code 53 = .ok (.iadd, 1) := by decide +kernel
theorem d_M_sum_54 : decode prog_12_method_28_code 54 = .ok (.putfield 110, 3) := by decide +kernel
theorem d_M_sum_57 : decode prog_12_method_28_code 57 = .ok (.aload_n 0, 1) := by decide +kernel
theorem d_M_sum_58 : decode prog_12_method_28_code 58 = .ok (.invokevirtual 192, 3) := by decide +kernel
theorem d_M_sum_61 : decode prog_12_method_28_code 61 = .ok (.ifCond .ne 5, 3) := by decide +kernel
theorem d_M_sum_64 : decode prog_12_method_28_code 64 = .ok (.iconst 0, 1) := by decide +kernel
theorem d_M_sum_65 : decode prog_12_method_28_code 65 = .ok (.ireturn, 1) := by decide +kernel
theorem d_M_sum_66 : decode prog_12_method_28_code 66 = .ok (.aload_n 0, 1) := by decide +kernel
theorem d_M_sum_67 : decode prog_12_method_28_code 67 = .ok (.iload_n 1, 1) := by decide +kernel
theorem d_M_sum_68 : decode prog_12_method_28_code 68 = .ok (.iconst 0, 1) := by decide +kernel
theorem d_M_sum_69 : decode prog_12_method_28_code 69 = .ok (.invokevirtual 174, 3) := by decide +kernel
theorem d_M_sum_72 : decode prog_12_method_28_code 72 = .ok (.goto (-63), 3) := by decide +kernel
theorem d_M_sum_75 : decode prog_12_method_28_code 75 = .ok (.iconst 1, 1) := by decide +kernel
theorem d_M_sum_76 : decode prog_12_method_28_code 76 = .ok (.ireturn, 1) := by decide +kernel
theorem d_M_compare_0 : decode prog_12_method_29_code 0 = .ok (.aload_n 0, 1) := by decide +kernel
theorem d_M_compare_1 : decode prog_12_method_29_code 1 = .ok (.invokevirtual 195, 3) := by decide +kernel
theorem d_M_compare_4 : decode prog_12_method_29_code 4 = .ok (.ifCond .ne 5, 3) := by decide +kernel
theorem d_M_compare_7 : decode prog_12_method_29_code 7 = .ok (.iconst 0, 1) := by decide +kernel
theorem d_M_compare_8 : decode prog_12_method_29_code 8 = .ok (.ireturn, 1) := by decide +kernel
theorem d_M_compare_9 : decode prog_12_method_29_code 9 = .ok (.aload_n 0, 1) := by decide +kernel
theorem d_M_compare_10 : decode prog_12_method_29_code 10 = .ok (.invokevirtual 113, 3) := by decide +kernel
theorem d_M_compare_13 : decode prog_12_method_29_code 13 = .ok (.istore_n 1, 1) := by decide +kernel
theorem d_M_compare_14 : decode prog_12_method_29_code 14 = .ok (.aload_n 0, 1) := by decide +kernel
theorem d_M_compare_15 : decode prog_12_method_29_code 15 = .ok (.getfield 110, 3) := by decide +kernel
theorem d_M_compare_18 : decode prog_12_method_29_code 18 = .ok (.istore_n 2, 1) := by decide +kernel
theorem d_M_compare_19 : decode prog_12_method_29_code 19 = .ok (.iload_n 1, 1) := by decide +kernel
theorem d_M_compare_20 : decode prog_12_method_29_code 20 = .ok (.bipush 60, 2) := by decide +kernel
theorem d_M_compare_22 : decode prog_12_method_29_code 22 = .ok (.if_icmp .eq 22, 3) := by decide +kernel
theorem d_M_compare_25 : decode prog_12_method_29_code 25 = .ok (.iload_n 1, 1) := by decide +kernel
theorem d_M_compare_26 : decode prog_12_method_29_code 26 = .ok (.bipush 61, 2) := by decide +kernel
theorem d_M_compare_28 : decode prog_12_method_29_code 28 = .ok (.if_icmp .eq 16, 3) := by decide +kernel
theorem d_M_compare_31 : decode prog_12_method_29_code 31 = .ok (.iload_n 1, 1) := by decide +kernel
theorem d_M_compare_32 : decode prog_12_method_29_code 32 = .ok (.bipush 62, 2) := by decide +kernel
theorem d_M_compare_34 : decode prog_12_method_29_code 34 = .ok (.if_icmp .eq 10, 3) := by decide +kernel
theorem d_M_compare_37 : decode prog_12_method_29_code 37 = .ok (.aload_n 0, 1) := by decide +kernel
theorem d_M_compare_38 : decode prog_12_method_29_code 38 = .ok (.iconst 0, 1) := by decide +kernel
theorem d_M_compare_39 : decode prog_12_method_29_code 39 = .ok (.iload_n 2, 1) := by decide +kernel
theorem d_M_compare_40 : decode prog_12_method_29_code 40 = .ok (.invokevirtual 131, 3) := by decide +kernel
theorem d_M_compare_43 : decode prog_12_method_29_code 43 = .ok (.ireturn, 1) := by decide +kernel
theorem d_M_compare_44 : decode prog_12_method_29_code 44 = .ok (.aload_n 0, 1) := by decide +kernel
theorem d_M_compare_45 : decode prog_12_method_29_code 45 = .ok (.dup, 1) := by decide +kernel
theorem d_M_compare_46 : decode prog_12_method_29_code 46 = .ok (.getfield 110, 3) := by decide +kernel
theorem d_M_compare_49 : decode prog_12_method_29_code 49 = .ok (.iconst 1, 1) := by decide +kernel
theorem d_M_compare_50 : decode prog_12_method_29_code 50 = .ok (.iadd, 1) := by decide +kernel
theorem d_M_compare_51 : decode prog_12_method_29_code 51 = .ok (.putfield 110, 3) := by decide +kernel
theorem d_M_compare_54 : decode prog_12_method_29_code 54 = .ok (.iload_n 1, 1) := by decide +kernel
theorem d_M_compare_55 : decode prog_12_method_29_code 55 = .ok (.bipush 61, 2) := by decide +kernel
theorem d_M_compare_57 : decode prog_12_method_29_code 57 = .ok (.if_icmp .eq 32, 3) := by decide +kernel
theorem d_M_compare_60 : decode prog_12_method_29_code 60 = .ok (.aload_n 0, 1) := by decide +kernel
theorem d_M_compare_61 : decode prog_12_method_29_code 61 = .ok (.getfield 110, 3) := by decide +kernel
theorem d_M_compare_64 : decode prog_12_method_29_code 64 = .ok (.aload_n 0, 1) := by decide +kernel
theorem d_M_compare_65 : decode prog_12_method_29_code 65 = .ok (.getfield 99, 3) := by decide +kernel
theorem d_M_compare_68 : decode prog_12_method_29_code 68 = .ok (.if_icmp .ge 21, 3) := by decide +kernel
theorem d_M_compare_71 : decode prog_12_method_29_code 71 = .ok (.aload_n 0, 1) := by decide +kernel
theorem d_M_compare_72 : decode prog_12_method_29_code 72 = .ok (.getfield 7, 3) := by decide +kernel
theorem d_M_compare_75 : decode prog_12_method_29_code 75 = .ok (.aload_n 0, 1) := by decide +kernel
theorem d_M_compare_76 : decode prog_12_method_29_code 76 = .ok (.getfield 110, 3) := by decide +kernel
theorem d_M_compare_79 : decode prog_12_method_29_code 79 = .ok (.baload, 1) := by decide +kernel
theorem d_M_compare_80 : decode prog_12_method_29_code 80 = .ok (.bipush 61, 2) := by decide +kernel
theorem d_M_compare_82 : decode prog_12_method_29_code 82 = .ok (.if_icmp .ne 7, 3) := by decide +kernel
theorem d_M_compare_85 : decode prog_12_method_29_code 85 = .ok (.iconst 1, 1) := by decide +kernel
theorem d_M_compare_86 : decode prog_12_method_29_code 86 = .ok (.goto 4, 3) := by decide +kernel
theorem d_M_compare_89 : decode prog_12_method_29_code 89 = .ok (.iconst 0, 1) := by decide +kernel
theorem d_M_compare_90 : decode prog_12_method_29_code 90 = .ok (.istore_n 3, 1) := by decide +kernel
theorem d_M_compare_91 : decode prog_12_method_29_code 91 = .ok (.iload_n 3, 1) := by decide +kernel
theorem d_M_compare_92 : decode prog_12_method_29_code 92 = .ok (.ifCond .eq 13, 3) := by decide +kernel
theorem d_M_compare_95 : decode prog_12_method_29_code 95 = .ok (.aload_n 0, 1) := by decide +kernel
theorem d_M_compare_96 : decode prog_12_method_29_code 96 = .ok (.dup, 1) := by decide +kernel
theorem d_M_compare_97 : decode prog_12_method_29_code 97 = .ok (.getfield 110, 3) := by decide +kernel
theorem d_M_compare_100 : decode prog_12_method_29_code 100 = .ok (.iconst 1, 1) := by decide +kernel
theorem d_M_compare_101 : decode prog_12_method_29_code 101 = .ok (.iadd, 1) := by decide +kernel
theorem d_M_compare_102 : decode prog_12_method_29_code 102 = .ok (.putfield 110, 3) := by decide +kernel
theorem d_M_compare_105 : decode prog_12_method_29_code 105 = .ok (.aload_n 0, 1) := by decide +kernel
theorem d_M_compare_106 : decode prog_12_method_29_code 106 = .ok (.iload_n 2, 1) := by decide +kernel
theorem d_M_compare_107 : decode prog_12_method_29_code 107 = .ok (.invokevirtual 182, 3) := by decide +kernel
theorem d_M_compare_110 : decode prog_12_method_29_code 110 = .ok (.ifCond .ne 5, 3) := by decide +kernel
theorem d_M_compare_113 : decode prog_12_method_29_code 113 = .ok (.iconst 0, 1) := by decide +kernel
theorem d_M_compare_114 : decode prog_12_method_29_code 114 = .ok (.ireturn, 1) := by decide +kernel
theorem d_M_compare_115 : decode prog_12_method_29_code 115 = .ok (.iload_n 1, 1) := by decide +kernel
theorem d_M_compare_116 : decode prog_12_method_29_code 116 = .ok (.bipush 60, 2) := by decide +kernel
theorem d_M_compare_118 : decode prog_12_method_29_code 118 = .ok (.if_icmp .ne 15, 3) := by decide +kernel
theorem d_M_compare_121 : decode prog_12_method_29_code 121 = .ok (.iload_n 3, 1) := by decide +kernel
theorem d_M_compare_122 : decode prog_12_method_29_code 122 = .ok (.ifCond .eq 7, 3) := by decide +kernel
theorem d_M_compare_125 : decode prog_12_method_29_code 125 = .ok (.iconst 1, 1) := by decide +kernel
theorem d_M_compare_126 : decode prog_12_method_29_code 126 = .ok (.goto 26, 3) := by decide +kernel
theorem d_M_compare_129 : decode prog_12_method_29_code 129 = .ok (.iconst 0, 1) := by decide +kernel
theorem d_M_compare_130 : decode prog_12_method_29_code 130 = .ok (.goto 22, 3) := by decide +kernel
theorem d_M_compare_133 : decode prog_12_method_29_code 133 = .ok (.iload_n 1, 1) := by decide +kernel
theorem d_M_compare_134 : decode prog_12_method_29_code 134 = .ok (.bipush 61, 2) := by decide +kernel
theorem d_M_compare_136 : decode prog_12_method_29_code 136 = .ok (.if_icmp .ne 7, 3) := by decide +kernel
theorem d_M_compare_139 : decode prog_12_method_29_code 139 = .ok (.iconst 2, 1) := by decide +kernel
theorem d_M_compare_140 : decode prog_12_method_29_code 140 = .ok (.goto 12, 3) := by decide +kernel
theorem d_M_compare_143 : decode prog_12_method_29_code 143 = .ok (.iload_n 3, 1) := by decide +kernel
theorem d_M_compare_144 : decode prog_12_method_29_code 144 = .ok (.ifCond .eq 7, 3) := by decide +kernel
theorem d_M_compare_147 : decode prog_12_method_29_code 147 = .ok (.iconst 3, 1) := by decide +kernel
theorem d_M_compare_148 : decode prog_12_method_29_code 148 = .ok (.goto 4, 3) := by decide +kernel
theorem d_M_compare_151 : decode prog_12_method_29_code 151 = .ok (.iconst 4, 1) := by decide +kernel
theorem d_M_compare_152 : decode prog_12_method_29_code 152 = .ok (.istore 4, 2) := by decide +kernel
theorem d_M_compare_154 : decode prog_12_method_29_code 154 = .ok (.aload_n 0, 1) := by decide +kernel
theorem d_M_compare_155 : decode prog_12_method_29_code 155 = .ok (.invokevirtual 195, 3) := by decide +kernel
theorem d_M_compare_158 : decode prog_12_method_29_code 158 = .ok (.ifCond .ne 5, 3) := by decide +kernel
theorem d_M_compare_161 : decode prog_12_method_29_code 161 = .ok (.iconst 0, 1) := by decide +kernel
theorem d_M_compare_162 : decode prog_12_method_29_code 162 = .ok (.ireturn, 1) := by decide +kernel
theorem d_M_compare_163 : decode prog_12_method_29_code 163 = .ok (.aload_n 0, 1) := by decide +kernel
theorem d_M_compare_164 : decode prog_12_method_29_code 164 = .ok (.bipush 6, 2) := by decide +kernel
theorem d_M_compare_166 : decode prog_12_method_29_code 166 = .ok (.iload 4, 2) := by decide +kernel
theorem d_M_compare_168 : decode prog_12_method_29_code 168 = .ok (.iadd, 1) := by decide +kernel
theorem d_M_compare_169 : decode prog_12_method_29_code 169 = .ok (.iconst 0, 1) := by decide +kernel
theorem d_M_compare_170 : decode prog_12_method_29_code 170 = .ok (.invokevirtual 174, 3) := by decide +kernel
theorem d_M_compare_173 : decode prog_12_method_29_code 173 = .ok (.iconst 1, 1) := by decide +kernel
theorem d_M_compare_174 : decode prog_12_method_29_code 174 = .ok (.ireturn, 1) := by decide +kernel
theorem d_M_fact_0 : decode prog_12_method_30_code 0 = .ok (.iconst 1, 1) := by decide +kernel
theorem d_M_fact_1 : decode prog_12_method_30_code 1 = .ok (.istore_n 1, 1) := by decide +kernel
theorem d_M_fact_2 : decode prog_12_method_30_code 2 = .ok (.iload_n 1, 1) := by decide +kernel
theorem d_M_fact_3 : decode prog_12_method_30_code 3 = .ok (.ifCond .eq 72, 3) := by decide +kernel
theorem d_M_fact_6 : decode prog_12_method_30_code 6 = .ok (.iconst 0, 1) := by decide +kernel
theorem d_M_fact_7 : decode prog_12_method_30_code 7 = .ok (.istore_n 1, 1) := by decide +kernel
theorem d_M_fact_8 : decode prog_12_method_30_code 8 = .ok (.aload_n 0, 1) := by decide +kernel
theorem d_M_fact_9 : decode prog_12_method_30_code 9 = .ok (.invokevirtual 113, 3) := by decide +kernel
theorem d_M_fact_12 : decode prog_12_method_30_code 12 = .ok (.istore_n 2, 1) := by decide +kernel
theorem d_M_fact_13 : decode prog_12_method_30_code 13 = .ok (.aload_n 0, 1) := by decide +kernel
theorem d_M_fact_14 : decode prog_12_method_30_code 14 = .ok (.ldc2_w 198, 3) := by decide +kernel
theorem d_M_fact_17 : decode prog_12_method_30_code 17 = .ok (.invokevirtual 121, 3) := by decide +kernel
theorem d_M_fact_20 : decode prog_12_method_30_code 20 = .ok (.ifCond .eq 23, 3) := by decide +kernel
theorem d_M_fact_23 : decode prog_12_method_30_code 23 = .ok (.aload_n 0, 1) := by decide +kernel
theorem d_M_fact_24 : decode prog_12_method_30_code 24 = .ok (.bipush 11, 2) := by decide +kernel
theorem d_M_fact_26 : decode prog_12_method_30_code 26 = .ok (.invokevirtual 200, 3) := by decide +kernel
theorem d_M_fact_29 : decode prog_12_method_30_code 29 = .ok (.ifCond .ne 5, 3) := by decide +kernel
theorem d_M_fact_32 : decode prog_12_method_30_code 32 = .ok (.iconst 0, 1) := by decide +kernel
theorem d_M_fact_33 : decode prog_12_method_30_code 33 = .ok (.ireturn, 1) := by decide +kernel
theorem d_M_fact_34 : decode prog_12_method_30_code 34 = .ok (.aload_n 0, 1) := by decide +kernel
theorem d_M_fact_35 : decode prog_12_method_30_code 35 = .ok (.invokevirtual 125, 3) := by decide +kernel
theorem d_M_fact_38 : decode prog_12_method_30_code 38 = .ok (.iconst 1, 1) := by decide +kernel
theorem d_M_fact_39 : decode prog_12_method_30_code 39 = .ok (.istore_n 1, 1) := by decide +kernel
theorem d_M_fact_40 : decode prog_12_method_30_code 40 = .ok (.goto 32, 3) := by decide +kernel
theorem d_M_fact_43 : decode prog_12_method_30_code 43 = .ok (.iload_n 2, 1) := by decide +kernel
theorem d_M_fact_44 : decode prog_12_method_30_code 44 = .ok (.bipush 91, 2) := by decide +kernel
theorem d_M_fact_46 : decode prog_12_method_30_code 46 = .ok (.if_icmp .ne 26, 3) := by decide +kernel
theorem d_M_fact_49 : decode prog_12_method_30_code 49 = .ok (.aload_n 0, 1) := by decide +kernel
theorem d_M_fact_50 : decode prog_12_method_30_code 50 = .ok (.bipush 91, 2) := by decide +kernel
theorem d_M_fact_52 : decode prog_12_method_30_code 52 = .ok (.invokevirtual 200, 3) := by decide +kernel
theorem d_M_fact_55 : decode prog_12_method_30_code 55 = .ok (.ifCond .ne 5, 3) := by decide +kernel
theorem d_M_fact_58 : decode prog_12_method_30_code 58 = .ok (.iconst 0, 1) := by decide +kernel
theorem d_M_fact_59 : decode prog_12_method_30_code 59 = .ok (.ireturn, 1) := by decide +kernel
theorem d_M_fact_60 : decode prog_12_method_30_code 60 = .ok (.aload_n 0, 1) := by decide +kernel
theorem d_M_fact_61 : decode prog_12_method_30_code 61 = .ok (.dup, 1) := by decide +kernel
theorem d_M_fact_62 : decode prog_12_method_30_code 62 = .ok (.getfield 110, 3) := by decide +kernel
theorem d_M_fact_65 : decode prog_12_method_30_code 65 = .ok (.iconst 1, 1) := by decide +kernel
theorem d_M_fact_66 : decode prog_12_method_30_code 66 = .ok (.iadd, 1) := by decide +kernel
theorem d_M_fact_67 : decode prog_12_method_30_code 67 = .ok (.putfield 110, 3) := by decide +kernel
theorem d_M_fact_70 : decode prog_12_method_30_code 70 = .ok (.iconst 1, 1) := by decide +kernel
theorem d_M_fact_71 : decode prog_12_method_30_code 71 = .ok (.istore_n 1, 1) := by decide +kernel
theorem d_M_fact_72 : decode prog_12_method_30_code 72 = .ok (.goto (-70), 3) := by decide +kernel
theorem d_M_fact_75 : decode prog_12_method_30_code 75 = .ok (.aload_n 0, 1) := by decide +kernel
theorem d_M_fact_76 : decode prog_12_method_30_code 76 = .ok (.invokevirtual 203, 3) := by decide +kernel
theorem d_M_fact_79 : decode prog_12_method_30_code 79 = .ok (.ireturn, 1) := by decide +kernel
theorem d_M_isInside_0 : decode prog_12_method_31_code 0 = .ok (.iconst 0, 1) := by decide +kernel
theorem d_M_isInside_1 : decode prog_12_method_31_code 1 = .ok (.istore_n 1, 1) := by decide +kernel
theorem d_M_isInside_2 : decode prog_12_method_31_code 2 = .ok (.iload_n 1, 1) := by decide +kernel
theorem d_M_isInside_3 : decode prog_12_method_31_code 3 = .ok (.aload_n 0, 1) := by decide +kernel
theorem d_M_isInside_4 : decode prog_12_method_31_code 4 = .ok (.getfield 167, 3) := by decide +kernel
theorem d_M_isInside_7 : decode prog_12_method_31_code 7 = .ok (.if_icmp .ge 22, 3) := by decide +kernel
theorem d_M_isInside_10 : decode prog_12_method_31_code 10 = .ok (.aload_n 0, 1) := by decide +kernel
theorem d_M_isInside_11 : decode prog_12_method_31_code 11 = .ok (.getfield 32, 3) := by decide +kernel
theorem d_M_isInside_14 : decode prog_12_method_31_code 14 = .ok (.iload_n 1, 1) := by decide +kernel
theorem d_M_isInside_15 : decode prog_12_method_31_code 15 = .ok (.iaload, 1) := by decide +kernel
theorem d_M_isInside_16 : decode prog_12_method_31_code 16 = .ok (.bipush 91, 2) := by decide +kernel
theorem d_M_isInside_18 : decode prog_12_method_31_code 18 = .ok (.if_icmp .ne 5, 3) := by decide +kernel
theorem d_M_isInside_21 : decode prog_12_method_31_code 21 = .ok (.iconst 1, 1) := by decide +kernel
theorem d_M_isInside_22 : decode prog_12_method_31_code 22 = .ok (.ireturn, 1) := by decide +kernel
theorem d_M_isInside_23 : decode prog_12_method_31_code 23 = .ok (.iinc 1 1, 3) := by decide +kernel
theorem d_M_isInside_26 : decode prog_12_method_31_code 26 = .ok (.goto (-24), 3) := by decide +kernel
theorem d_M_isInside_29 : decode prog_12_method_31_code 29 = .ok (.iconst 0, 1) := by decide +kernel
theorem d_M_isInside_30 : decode prog_12_method_31_code 30 = .ok (.ireturn, 1) := by decide +kernel
theorem d_M_closes_0 : decode prog_12_method_32_code 0 = .ok (.aload_n 0, 1) := by decide +kernel
theorem d_M_closes_1 : decode prog_12_method_32_code 1 = .ok (.iconst 3, 1) := by decide +kernel
theorem d_M_closes_2 : decode prog_12_method_32_code 2 = .ok (.invokevirtual 206, 3) := by decide +kernel
theorem d_M_closes_5 : decode prog_12_method_32_code 5 = .ok (.aload_n 0, 1) := by decide +kernel
theorem d_M_closes_6 : decode prog_12_method_32_code 6 = .ok (.invokevirtual 113, 3) := by decide +kernel
theorem d_M_closes_9 : decode prog_12_method_32_code 9 = .ok (.bipush 93, 2) := by decide +kernel
theorem d_M_closes_11 : decode prog_12_method_32_code 11 = .ok (.if_icmp .ne 53, 3) := by decide +kernel
theorem d_M_closes_14 : decode prog_12_method_32_code 14 = .ok (.aload_n 0, 1) := by decide +kernel
theorem d_M_closes_15 : decode prog_12_method_32_code 15 = .ok (.invokevirtual 209, 3) := by decide +kernel
theorem d_M_closes_18 : decode prog_12_method_32_code 18 = .ok (.ifCond .eq 46, 3) := by decide +kernel
theorem d_M_closes_21 : decode prog_12_method_32_code 21 = .ok (.aload_n 0, 1) := by decide +kernel
theorem d_M_closes_22 : decode prog_12_method_32_code 22 = .ok (.iconst 1, 1) := by decide +kernel
theorem d_M_closes_23 : decode prog_12_method_32_code 23 = .ok (.invokevirtual 206, 3) := by decide +kernel
theorem d_M_closes_26 : decode prog_12_method_32_code 26 = .ok (.aload_n 0, 1) := by decide +kernel
theorem d_M_closes_27 : decode prog_12_method_32_code 27 = .ok (.dup, 1) := by decide +kernel
theorem d_M_closes_28 : decode prog_12_method_32_code 28 = .ok (.getfield 167, 3) := by decide +kernel
theorem d_M_closes_31 : decode prog_12_method_32_code 31 = .ok (.iconst 1, 1) := by decide +kernel
theorem d_M_closes_32 : decode prog_12_method_32_code 32 = .ok (.isub, 1) := by decide +kernel
theorem d_M_closes_33 : decode prog_12_method_32_code 33 = .ok (.putfield 167, 3) := by decide +kernel
theorem d_M_closes_36 : decode prog_12_method_32_code 36 = .ok (.aload_n 0, 1) := by decide +kernel
theorem d_M_closes_37 : decode prog_12_method_32_code 37 = .ok (.dup, 1) := by decide +kernel
theorem d_M_closes_38 : decode prog_12_method_32_code 38 = .ok (.getfield 164, 3) := by decide +kernel
theorem d_M_closes_41 : decode prog_12_method_32_code 41 = .ok (.iconst 1, 1) := by decide +kernel
theorem d_M_closes_42 : decode prog_12_method_32_code 42 = .ok (.isub, 1) := by decide +kernel
theorem d_M_closes_43 : decode prog_12_method_32_code 43 = .ok (.putfield 164, 3) := by decide +kernel
theorem d_M_closes_46 : decode prog_12_method_32_code 46 = .ok (.aload_n 0, 1) := by decide +kernel
theorem d_M_closes_47 : decode prog_12_method_32_code 47 = .ok (.dup, 1) := by decide +kernel
theorem d_M_closes_48 : decode prog_12_method_32_code 48 = .ok (.getfield 110, 3) := by decide +kernel
theorem d_M_closes_51 : decode prog_12_method_32_code 51 = .ok (.iconst 1, 1) := by decide +kernel
theorem d_M_closes_52 : decode prog_12_method_32_code 52 = .ok (.iadd, 1) := by decide +kernel
theorem d_M_closes_53 : decode prog_12_method_32_code 53 = .ok (.putfield 110, 3) := by decide +kernel
theorem d_M_closes_56 : decode prog_12_method_32_code 56 = .ok (.aload_n 0, 1) := by decide +kernel
theorem d_M_closes_57 : decode prog_12_method_32_code 57 = .ok (.iconst 3, 1) := by decide +kernel
theorem d_M_closes_58 : decode prog_12_method_32_code 58 = .ok (.invokevirtual 206, 3) := by decide +kernel
theorem d_M_closes_61 : decode prog_12_method_32_code 61 = .ok (.goto (-56), 3) := by decide +kernel
theorem d_M_closes_64 : decode prog_12_method_32_code 64 = .ok (.return_, 1) := by decide +kernel
theorem d_M_tested_0 : decode prog_12_method_33_code 0 = .ok (.aload_n 0, 1) := by decide +kernel
theorem d_M_tested_1 : decode prog_12_method_33_code 1 = .ok (.iconst 0, 1) := by decide +kernel
theorem d_M_tested_2 : decode prog_12_method_33_code 2 = .ok (.putfield 167, 3) := by decide +kernel
theorem d_M_tested_5 : decode prog_12_method_33_code 5 = .ok (.aload_n 0, 1) := by decide +kernel
theorem d_M_tested_6 : decode prog_12_method_33_code 6 = .ok (.iconst 0, 1) := by decide +kernel
theorem d_M_tested_7 : decode prog_12_method_33_code 7 = .ok (.putfield 164, 3) := by decide +kernel
theorem d_M_tested_10 : decode prog_12_method_33_code 10 = .ok (.iconst 1, 1) := by decide +kernel
theorem d_M_tested_11 : decode prog_12_method_33_code 11 = .ok (.istore_n 1, 1) := by decide +kernel
theorem d_M_tested_12 : decode prog_12_method_33_code 12 = .ok (.iload_n 1, 1) := by decide +kernel
theorem d_M_tested_13 : decode prog_12_method_33_code 13 = .ok (.ifCond .eq 99, 3) := by decide +kernel
theorem d_M_tested_16 : decode prog_12_method_33_code 16 = .ok (.aload_n 0, 1) := by decide +kernel
theorem d_M_tested_17 : decode prog_12_method_33_code 17 = .ok (.invokevirtual 212, 3) := by decide +kernel
theorem d_M_tested_20 : decode prog_12_method_33_code 20 = .ok (.ifCond .ne 5, 3) := by decide +kernel
theorem d_M_tested_23 : decode prog_12_method_33_code 23 = .ok (.iconst 0, 1) := by decide +kernel
theorem d_M_tested_24 : decode prog_12_method_33_code 24 = .ok (.ireturn, 1) := by decide +kernel
theorem d_M_tested_25 : decode prog_12_method_33_code 25 = .ok (.aload_n 0, 1) := by decide +kernel
theorem d_M_tested_26 : decode prog_12_method_33_code 26 = .ok (.invokevirtual 215, 3) := by decide +kernel
theorem d_M_tested_29 : decode prog_12_method_33_code 29 = .ok (.aload_n 0, 1) := by decide +kernel
theorem d_M_tested_30 : decode prog_12_method_33_code 30 = .ok (.ldc2_w 218, 3) := by decide +kernel
theorem d_M_tested_33 : decode prog_12_method_33_code 33 = .ok (.invokevirtual 121, 3) := by decide +kernel
theorem d_M_tested_36 : decode prog_12_method_33_code 36 = .ok (.ifCond .ne 13, 3) := by decide +kernel
theorem d_M_tested_39 : decode prog_12_method_33_code 39 = .ok (.aload_n 0, 1) := by decide +kernel
theorem d_M_tested_40 : decode prog_12_method_33_code 40 = .ok (.ldc2_w 220, 3) := by decide +kernel
theorem d_M_tested_43 : decode prog_12_method_33_code 43 = .ok (.invokevirtual 121, 3) := by decide +kernel
theorem d_M_tested_46 : decode prog_12_method_33_code 46 = .ok (.ifCond .eq 7, 3) := by decide +kernel
theorem d_M_tested_49 : decode prog_12_method_33_code 49 = .ok (.iconst 1, 1) := by decide +kernel
theorem d_M_tested_50 : decode prog_12_method_33_code 50 = .ok (.goto 4, 3) := by decide +kernel
theorem d_M_tested_53 : decode prog_12_method_33_code 53 = .ok (.iconst 0, 1) := by decide +kernel
theorem d_M_tested_54 : decode prog_12_method_33_code 54 = .ok (.istore_n 1, 1) := by decide +kernel
theorem d_M_tested_55 : decode prog_12_method_33_code 55 = .ok (.iload_n 1, 1) := by decide +kernel
theorem d_M_tested_56 : decode prog_12_method_33_code 56 = .ok (.ifCond .eq (-44), 3) := by decide +kernel
theorem d_M_tested_59 : decode prog_12_method_33_code 59 = .ok (.aload_n 0, 1) := by decide +kernel
theorem d_M_tested_60 : decode prog_12_method_33_code 60 = .ok (.ldc2_w 218, 3) := by decide +kernel
theorem d_M_tested_63 : decode prog_12_method_33_code 63 = .ok (.invokevirtual 121, 3) := by decide +kernel
theorem d_M_tested_66 : decode prog_12_method_33_code 66 = .ok (.ifCond .eq 8, 3) := by decide +kernel
theorem d_M_tested_69 : decode prog_12_method_33_code 69 = .ok (.bipush 12, 2) := by decide +kernel
theorem d_M_tested_71 : decode prog_12_method_33_code 71 = .ok (.goto 5, 3) := by decide +kernel
theorem d_M_tested_74 : decode prog_12_method_33_code 74 = .ok (.bipush 13, 2) := by decide +kernel
theorem d_M_tested_76 : decode prog_12_method_33_code 76 = .ok (.istore_n 2, 1) := by decide +kernel
theorem d_M_tested_77 : decode prog_12_method_33_code 77 = .ok (.aload_n 0, 1) := by decide +kernel
theorem d_M_tested_78 : decode prog_12_method_33_code 78 = .ok (.invokevirtual 125, 3) := by decide +kernel
theorem d_M_tested_81 : decode prog_12_method_33_code 81 = .ok (.aload_n 0, 1) := by decide +kernel
theorem d_M_tested_82 : decode prog_12_method_33_code 82 = .ok (.iload_n 2, 1) := by decide +kernel
theorem d_M_tested_83 : decode prog_12_method_33_code 83 = .ok (.invokestatic 170, 3) := by decide +kernel
theorem d_M_tested_86 : decode prog_12_method_33_code 86 = .ok (.invokevirtual 206, 3) := by decide +kernel
theorem d_M_tested_89 : decode prog_12_method_33_code 89 = .ok (.aload_n 0, 1) := by decide +kernel
theorem d_M_tested_90 : decode prog_12_method_33_code 90 = .ok (.getfield 32, 3) := by decide +kernel
theorem d_M_tested_93 : decode prog_12_method_33_code 93 = .ok (.aload_n 0, 1) := by decide +kernel
theorem d_M_tested_94 : decode prog_12_method_33_code 94 = .ok (.getfield 167, 3) := by decide +kernel
theorem d_M_tested_97 : decode prog_12_method_33_code 97 = .ok (.iload_n 2, 1) := by decide +kernel
theorem d_M_tested_98 : decode prog_12_method_33_code 98 = .ok (.iastore, 1) := by decide +kernel
theorem d_M_tested_99 : decode prog_12_method_33_code 99 = .ok (.aload_n 0, 1) := by decide +kernel
theorem d_M_tested_100 : decode prog_12_method_33_code 100 = .ok (.dup, 1) := by decide +kernel
theorem d_M_tested_101 : decode prog_12_method_33_code 101 = .ok (.getfield 167, 3) := by decide +kernel
theorem d_M_tested_104 : decode prog_12_method_33_code 104 = .ok (.iconst 1, 1) := by decide +kernel
theorem d_M_tested_105 : decode prog_12_method_33_code 105 = .ok (.iadd, 1) := by decide +kernel
theorem d_M_tested_106 : decode prog_12_method_33_code 106 = .ok (.putfield 167, 3) := by decide +kernel
theorem d_M_tested_109 : decode prog_12_method_33_code 109 = .ok (.goto (-97), 3) := by decide +kernel
theorem d_M_tested_112 : decode prog_12_method_33_code 112 = .ok (.aload_n 0, 1) := by decide +kernel
theorem d_M_tested_113 : decode prog_12_method_33_code 113 = .ok (.invokevirtual 209, 3) := by decide +kernel
theorem d_M_tested_116 : decode prog_12_method_33_code 116 = .ok (.ifCond .eq 18, 3) := by decide +kernel
theorem d_M_tested_119 : decode prog_12_method_33_code 119 = .ok (.aload_n 0, 1) := by decide +kernel
theorem d_M_tested_120 : decode prog_12_method_33_code 120 = .ok (.invokevirtual 113, 3) := by decide +kernel
theorem d_M_tested_123 : decode prog_12_method_33_code 123 = .ok (.pop, 1) := by decide +kernel
theorem d_M_tested_124 : decode prog_12_method_33_code 124 = .ok (.aload_n 0, 1) := by decide +kernel
theorem d_M_tested_125 : decode prog_12_method_33_code 125 = .ok (.iconst 0, 1) := by decide +kernel
theorem d_M_tested_126 : decode prog_12_method_33_code 126 = .ok (.aload_n 0, 1) := by decide +kernel
theorem d_M_tested_127 : decode prog_12_method_33_code 127 = .ok (.getfield 110, 3) := by decide +kernel
theorem d_M_tested_130 : decode prog_12_method_33_code 130 = .ok (.invokevirtual 131, 3) := by decide +kernel
theorem d_M_tested_133 : decode prog_12_method_33_code 133 = .ok (.ireturn, 1) := by decide +kernel
theorem d_M_tested_134 : decode prog_12_method_33_code 134 = .ok (.aload_n 0, 1) := by decide +kernel
theorem d_M_tested_135 : decode prog_12_method_33_code 135 = .ok (.iconst 1, 1) := by decide +kernel
theorem d_M_tested_136 : decode prog_12_method_33_code 136 = .ok (.invokevirtual 206, 3) := by decide +kernel
theorem d_M_tested_139 : decode prog_12_method_33_code 139 = .ok (.iconst 1, 1) := by decide +kernel
theorem d_M_tested_140 : decode prog_12_method_33_code 140 = .ok (.ireturn, 1) := by decide +kernel
theorem d_M_isPushHere_0 : decode prog_12_method_34_code 0 = .ok (.aload_n 0, 1) := by decide +kernel
theorem d_M_isPushHere_1 : decode prog_12_method_34_code 1 = .ok (.invokevirtual 125, 3) := by decide +kernel
theorem d_M_isPushHere_4 : decode prog_12_method_34_code 4 = .ok (.bipush 48, 2) := by decide +kernel
theorem d_M_isPushHere_6 : decode prog_12_method_34_code 6 = .ok (.aload_n 0, 1) := by decide +kernel
theorem d_M_isPushHere_7 : decode prog_12_method_34_code 7 = .ok (.getfield 158, 3) := by decide +kernel
theorem d_M_isPushHere_10 : decode prog_12_method_34_code 10 = .ok (.imul, 1) := by decide +kernel
theorem d_M_isPushHere_11 : decode prog_12_method_34_code 11 = .ok (.iconst 4, 1) := by decide +kernel
theorem d_M_isPushHere_12 : decode prog_12_method_34_code 12 = .ok (.aload_n 0, 1) := by decide +kernel
theorem d_M_isPushHere_13 : decode prog_12_method_34_code 13 = .ok (.getfield 23, 3) := by decide +kernel
theorem d_M_isPushHere_16 : decode prog_12_method_34_code 16 = .ok (.aload_n 0, 1) := by decide +kernel
theorem d_M_isPushHere_17 : decode prog_12_method_34_code 17 = .ok (.getfield 158, 3) := by decide +kernel
theorem d_M_isPushHere_20 : decode prog_12_method_34_code 20 = .ok (.iaload, 1) := by decide +kernel
theorem d_M_isPushHere_21 : decode prog_12_method_34_code 21 = .ok (.imul, 1) := by decide +kernel
theorem d_M_isPushHere_22 : decode prog_12_method_34_code 22 = .ok (.iadd, 1) := by decide +kernel
theorem d_M_isPushHere_23 : decode prog_12_method_34_code 23 = .ok (.istore_n 1, 1) := by decide +kernel
theorem d_M_isPushHere_24 : decode prog_12_method_34_code 24 = .ok (.aload_n 0, 1) := by decide +kernel
theorem d_M_isPushHere_25 : decode prog_12_method_34_code 25 = .ok (.getfield 20, 3) := by decide +kernel
theorem d_M_isPushHere_28 : decode prog_12_method_34_code 28 = .ok (.iload_n 1, 1) := by decide +kernel
theorem d_M_isPushHere_29 : decode prog_12_method_34_code 29 = .ok (.aload_n 0, 1) := by decide +kernel
theorem d_M_isPushHere_30 : decode prog_12_method_34_code 30 = .ok (.getfield 17, 3) := by decide +kernel
theorem d_M_isPushHere_33 : decode prog_12_method_34_code 33 = .ok (.aload_n 0, 1) := by decide +kernel
theorem d_M_isPushHere_34 : decode prog_12_method_34_code 34 = .ok (.getfield 158, 3) := by decide +kernel
theorem d_M_isPushHere_37 : decode prog_12_method_34_code 37 = .ok (.iaload, 1) := by decide +kernel
theorem d_M_isPushHere_38 : decode prog_12_method_34_code 38 = .ok (.iastore, 1) := by decide +kernel
theorem d_M_isPushHere_39 : decode prog_12_method_34_code 39 = .ok (.aload_n 0, 1) := by decide +kernel
theorem d_M_isPushHere_40 : decode prog_12_method_34_code 40 = .ok (.invokevirtual 195, 3) := by decide +kernel
theorem d_M_isPushHere_43 : decode prog_12_method_34_code 43 = .ok (.ifCond .ne 5, 3) := by decide +kernel
theorem d_M_isPushHere_46 : decode prog_12_method_34_code 46 = .ok (.iconst 0, 1) := by decide +kernel
theorem d_M_isPushHere_47 : decode prog_12_method_34_code 47 = .ok (.ireturn, 1) := by decide +kernel
theorem d_M_isPushHere_48 : decode prog_12_method_34_code 48 = .ok (.aload_n 0, 1) := by decide +kernel
theorem d_M_isPushHere_49 : decode prog_12_method_34_code 49 = .ok (.getfield 20, 3) := by decide +kernel
theorem d_M_isPushHere_52 : decode prog_12_method_34_code 52 = .ok (.iload_n 1, 1) := by decide +kernel
theorem d_M_isPushHere_53 : decode prog_12_method_34_code 53 = .ok (.iconst 1, 1) := by decide +kernel
theorem d_M_isPushHere_54 : decode prog_12_method_34_code 54 = .ok (.iadd, 1) := by decide +kernel
theorem d_M_isPushHere_55 : decode prog_12_method_34_code 55 = .ok (.aload_n 0, 1) := by decide +kernel
theorem d_M_isPushHere_56 : decode prog_12_method_34_code 56 = .ok (.getfield 17, 3) := by decide +kernel
theorem d_M_isPushHere_59 : decode prog_12_method_34_code 59 = .ok (.aload_n 0, 1) := by decide +kernel
theorem d_M_isPushHere_60 : decode prog_12_method_34_code 60 = .ok (.getfield 158, 3) := by decide +kernel
theorem d_M_isPushHere_63 : decode prog_12_method_34_code 63 = .ok (.iaload, 1) := by decide +kernel
theorem d_M_isPushHere_64 : decode prog_12_method_34_code 64 = .ok (.iastore, 1) := by decide +kernel
theorem d_M_isPushHere_65 : decode prog_12_method_34_code 65 = .ok (.aload_n 0, 1) := by decide +kernel
theorem d_M_isPushHere_66 : decode prog_12_method_34_code 66 = .ok (.getfield 20, 3) := by decide +kernel
theorem d_M_isPushHere_69 : decode prog_12_method_34_code 69 = .ok (.iload_n 1, 1) := by decide +kernel
theorem d_M_isPushHere_70 : decode prog_12_method_34_code 70 = .ok (.iconst 2, 1) := by decide +kernel
theorem d_M_isPushHere_71 : decode prog_12_method_34_code 71 = .ok (.iadd, 1) := by decide +kernel
theorem d_M_isPushHere_72 : decode prog_12_method_34_code 72 = .ok (.iconst (-1), 1) := by decide +kernel
theorem d_M_isPushHere_73 : decode prog_12_method_34_code 73 = .ok (.iastore, 1) := by decide +kernel
theorem d_M_isPushHere_74 : decode prog_12_method_34_code 74 = .ok (.aload_n 0, 1) := by decide +kernel
theorem d_M_isPushHere_75 : decode prog_12_method_34_code 75 = .ok (.ldc2_w 222, 3) := by decide +kernel
theorem d_M_isPushHere_78 : decode prog_12_method_34_code 78 = .ok (.invokevirtual 224, 3) := by decide +kernel
theorem d_M_isPushHere_81 : decode prog_12_method_34_code 81 = .ok (.ifCond .eq 29, 3) := by decide +kernel
theorem d_M_isPushHere_84 : decode prog_12_method_34_code 84 = .ok (.aload_n 0, 1) := by decide +kernel
theorem d_M_isPushHere_85 : decode prog_12_method_34_code 85 = .ok (.getfield 20, 3) := by decide +kernel
theorem d_M_isPushHere_88 : decode prog_12_method_34_code 88 = .ok (.iload_n 1, 1) := by decide +kernel
theorem d_M_isPushHere_89 : decode prog_12_method_34_code 89 = .ok (.iconst 2, 1) := by decide +kernel
theorem d_M_isPushHere_90 : decode prog_12_method_34_code 90 = .ok (.iadd, 1) := by decide +kernel
theorem d_M_isPushHere_91 : decode prog_12_method_34_code 91 = .ok (.aload_n 0, 1) := by decide +kernel
theorem d_M_isPushHere_92 : decode prog_12_method_34_code 92 = .ok (.getfield 17, 3) := by decide +kernel
theorem d_M_isPushHere_95 : decode prog_12_method_34_code 95 = .ok (.aload_n 0, 1) := by decide +kernel
theorem d_M_isPushHere_96 : decode prog_12_method_34_code 96 = .ok (.getfield 158, 3) := by decide +kernel
theorem d_M_isPushHere_99 : decode prog_12_method_34_code 99 = .ok (.iaload, 1) := by decide +kernel
theorem d_M_isPushHere_100 : decode prog_12_method_34_code 100 = .ok (.iastore, 1) := by decide +kernel
theorem d_M_isPushHere_101 : decode prog_12_method_34_code 101 = .ok (.aload_n 0, 1) := by decide +kernel
theorem d_M_isPushHere_102 : decode prog_12_method_34_code 102 = .ok (.invokevirtual 227, 3) := by decide +kernel
theorem d_M_isPushHere_105 : decode prog_12_method_34_code 105 = .ok (.ifCond .ne 5, 3) := by decide +kernel
theorem d_M_isPushHere_108 : decode prog_12_method_34_code 108 = .ok (.iconst 0, 1) := by decide +kernel
theorem d_M_isPushHere_109 : decode prog_12_method_34_code 109 = .ok (.ireturn, 1) := by decide +kernel
theorem d_M_isPushHere_110 : decode prog_12_method_34_code 110 = .ok (.aload_n 0, 1) := by decide +kernel
theorem d_M_isPushHere_111 : decode prog_12_method_34_code 111 = .ok (.getfield 20, 3) := by decide +kernel
theorem d_M_isPushHere_114 : decode prog_12_method_34_code 114 = .ok (.iload_n 1, 1) := by decide +kernel
theorem d_M_isPushHere_115 : decode prog_12_method_34_code 115 = .ok (.iconst 3, 1) := by decide +kernel
theorem d_M_isPushHere_116 : decode prog_12_method_34_code 116 = .ok (.iadd, 1) := by decide +kernel
theorem d_M_isPushHere_117 : decode prog_12_method_34_code 117 = .ok (.aload_n 0, 1) := by decide +kernel
theorem d_M_isPushHere_118 : decode prog_12_method_34_code 118 = .ok (.getfield 17, 3) := by decide +kernel
theorem d_M_isPushHere_121 : decode prog_12_method_34_code 121 = .ok (.aload_n 0, 1) := by decide +kernel
theorem d_M_isPushHere_122 : decode prog_12_method_34_code 122 = .ok (.getfield 158, 3) := by decide +kernel
theorem d_M_isPushHere_125 : decode prog_12_method_34_code 125 = .ok (.iaload, 1) := by decide +kernel
theorem d_M_isPushHere_126 : decode prog_12_method_34_code 126 = .ok (.iastore, 1) := by decide +kernel
theorem d_M_isPushHere_127 : decode prog_12_method_34_code 127 = .ok (.aload_n 0, 1) := by decide +kernel
theorem d_M_isPushHere_128 : decode prog_12_method_34_code 128 = .ok (.getfield 23, 3) := by decide +kernel
theorem d_M_isPushHere_131 : decode prog_12_method_34_code 131 = .ok (.aload_n 0, 1) := by decide +kernel
theorem d_M_isPushHere_132 : decode prog_12_method_34_code 132 = .ok (.getfield 158, 3) := by decide +kernel
theorem d_M_isPushHere_135 : decode prog_12_method_34_code 135 = .ok (.dup2, 1) := by decide +kernel
theorem d_M_isPushHere_136 : decode prog_12_method_34_code 136 = .ok (.iaload, 1) := by decide +kernel
theorem d_M_isPushHere_137 : decode prog_12_method_34_code 137 = .ok (.iconst 1, 1) := by decide +kernel
theorem d_M_isPushHere_138 : decode prog_12_method_34_code 138 = .ok (.iadd, 1) := by decide +kernel
theorem d_M_isPushHere_139 : decode prog_12_method_34_code 139 = .ok (.iastore, 1) := by decide +kernel
theorem d_M_isPushHere_140 : decode prog_12_method_34_code 140 = .ok (.iconst 1, 1) := by decide +kernel
theorem d_M_isPushHere_141 : decode prog_12_method_34_code 141 = .ok (.ireturn, 1) := by decide +kernel
theorem d_M_isDoorHere_0 : decode prog_12_method_35_code 0 = .ok (.aload_n 0, 1) := by decide +kernel
theorem d_M_isDoorHere_1 : decode prog_12_method_35_code 1 = .ok (.getfield 230, 3) := by decide +kernel
theorem d_M_isDoorHere_4 : decode prog_12_method_35_code 4 = .ok (.bipush 12, 2) := by decide +kernel
theorem d_M_isDoorHere_6 : decode prog_12_method_35_code 6 = .ok (.if_icmp .ne 10, 3) := by decide +kernel
theorem d_M_isDoorHere_9 : decode prog_12_method_35_code 9 = .ok (.aload_n 0, 1) := by decide +kernel
theorem d_M_isDoorHere_10 : decode prog_12_method_35_code 10 = .ok (.iconst 4, 1) := by decide +kernel
theorem d_M_isDoorHere_11 : decode prog_12_method_35_code 11 = .ok (.iload_n 1, 1) := by decide +kernel
theorem d_M_isDoorHere_12 : decode prog_12_method_35_code 12 = .ok (.invokevirtual 131, 3) := by decide +kernel
theorem d_M_isDoorHere_15 : decode prog_12_method_35_code 15 = .ok (.ireturn, 1) := by decide +kernel
theorem d_M_isDoorHere_16 : decode prog_12_method_35_code 16 = .ok (.aload_n 0, 1) := by decide +kernel
theorem d_M_isDoorHere_17 : decode prog_12_method_35_code 17 = .ok (.invokevirtual 125, 3) := by decide +kernel
theorem d_M_isDoorHere_20 : decode prog_12_method_35_code 20 = .ok (.aload_n 0, 1) := by decide +kernel
theorem d_M_isDoorHere_21 : decode prog_12_method_35_code 21 = .ok (.iconst 4, 1) := by decide +kernel
theorem d_M_isDoorHere_22 : decode prog_12_method_35_code 22 = .ok (.bipush 60, 2) := by decide +kernel
theorem d_M_isDoorHere_24 : decode prog_12_method_35_code 24 = .ok (.invokevirtual 179, 3) := by decide +kernel
theorem d_M_isDoorHere_27 : decode prog_12_method_35_code 27 = .ok (.ifCond .ne 5, 3) := by decide +kernel
theorem d_M_isDoorHere_30 : decode prog_12_method_35_code 30 = .ok (.iconst 0, 1) := by decide +kernel
theorem d_M_isDoorHere_31 : decode prog_12_method_35_code 31 = .ok (.ireturn, 1) := by decide +kernel
theorem d_M_isDoorHere_32 : decode prog_12_method_35_code 32 = .ok (.aload_n 0, 1) := by decide +kernel
theorem d_M_isDoorHere_33 : decode prog_12_method_35_code 33 = .ok (.getfield 26, 3) := by decide +kernel
theorem d_M_isDoorHere_36 : decode prog_12_method_35_code 36 = .ok (.iconst 2, 1) := by decide +kernel
theorem d_M_isDoorHere_37 : decode prog_12_method_35_code 37 = .ok (.aload_n 0, 1) := by decide +kernel
theorem d_M_isDoorHere_38 : decode prog_12_method_35_code 38 = .ok (.getfield 230, 3) := by decide +kernel
theorem d_M_isDoorHere_41 : decode prog_12_method_35_code 41 = .ok (.imul, 1) := by decide +kernel
theorem d_M_isDoorHere_42 : decode prog_12_method_35_code 42 = .ok (.aload_n 0, 1) := by decide +kernel
theorem d_M_isDoorHere_43 : decode prog_12_method_35_code 43 = .ok (.getfield 135, 3) := by decide +kernel
theorem d_M_isDoorHere_46 : decode prog_12_method_35_code 46 = .ok (.iastore, 1) := by decide +kernel
theorem d_M_isDoorHere_47 : decode prog_12_method_35_code 47 = .ok (.aload_n 0, 1) := by decide +kernel
theorem d_M_isDoorHere_48 : decode prog_12_method_35_code 48 = .ok (.iconst 0, 1) := by decide +kernel
theorem d_M_isDoorHere_49 : decode prog_12_method_35_code 49 = .ok (.aload_n 0, 1) := by decide +kernel
theorem d_M_isDoorHere_50 : decode prog_12_method_35_code 50 = .ok (.getfield 135, 3) := by decide +kernel
theorem d_M_isDoorHere_53 : decode prog_12_method_35_code 53 = .ok (.invokevirtual 179, 3) := by decide +kernel
theorem d_M_isDoorHere_56 : decode prog_12_method_35_code 56 = .ok (.ifCond .ne 5, 3) := by decide +kernel
theorem d_M_isDoorHere_59 : decode prog_12_method_35_code 59 = .ok (.iconst 0, 1) := by decide +kernel
theorem d_M_isDoorHere_60 : decode prog_12_method_35_code 60 = .ok (.ireturn, 1) := by decide +kernel
theorem d_M_isDoorHere_61 : decode prog_12_method_35_code 61 = .ok (.aload_n 0, 1) := by decide +kernel
theorem d_M_isDoorHere_62 : decode prog_12_method_35_code 62 = .ok (.getfield 26, 3) := by decide +kernel
theorem d_M_isDoorHere_65 : decode prog_12_method_35_code 65 = .ok (.iconst 2, 1) := by decide +kernel
theorem d_M_isDoorHere_66 : decode prog_12_method_35_code 66 = .ok (.aload_n 0, 1) := by decide +kernel
theorem d_M_isDoorHere_67 : decode prog_12_method_35_code 67 = .ok (.getfield 230, 3) := by decide +kernel
theorem d_M_isDoorHere_70 : decode prog_12_method_35_code 70 = .ok (.imul, 1) := by decide +kernel
theorem d_M_isDoorHere_71 : decode prog_12_method_35_code 71 = .ok (.iconst 1, 1) := by decide +kernel
theorem d_M_isDoorHere_72 : decode prog_12_method_35_code 72 = .ok (.iadd, 1) := by decide +kernel
theorem d_M_isDoorHere_73 : decode prog_12_method_35_code 73 = .ok (.aload_n 0, 1) := by decide +kernel
theorem d_M_isDoorHere_74 : decode prog_12_method_35_code 74 = .ok (.getfield 135, 3) := by decide +kernel
theorem d_M_isDoorHere_77 : decode prog_12_method_35_code 77 = .ok (.iastore, 1) := by decide +kernel
theorem d_M_isDoorHere_78 : decode prog_12_method_35_code 78 = .ok (.aload_n 0, 1) := by decide +kernel
theorem d_M_isDoorHere_79 : decode prog_12_method_35_code 79 = .ok (.dup, 1) := by decide +kernel
theorem d_M_isDoorHere_80 : decode prog_12_method_35_code 80 = .ok (.getfield 230, 3) := by decide +kernel
theorem d_M_isDoorHere_83 : decode prog_12_method_35_code 83 = .ok (.iconst 1, 1) := by decide +kernel
theorem d_M_isDoorHere_84 : decode prog_12_method_35_code 84 = .ok (.iadd, 1) := by decide +kernel
theorem d_M_isDoorHere_85 : decode prog_12_method_35_code 85 = .ok (.putfield 230, 3) := by decide +kernel
theorem d_M_isDoorHere_88 : decode prog_12_method_35_code 88 = .ok (.iconst 1, 1) := by decide +kernel
theorem d_M_isDoorHere_89 : decode prog_12_method_35_code 89 = .ok (.ireturn, 1) := by decide +kernel
theorem d_M_isJoinHere_0 : decode prog_12_method_36_code 0 = .ok (.aload_n 0, 1) := by decide +kernel
theorem d_M_isJoinHere_1 : decode prog_12_method_36_code 1 = .ok (.getfield 233, 3) := by decide +kernel
theorem d_M_isJoinHere_4 : decode prog_12_method_36_code 4 = .ok (.bipush 16, 2) := by decide +kernel
theorem d_M_isJoinHere_6 : decode prog_12_method_36_code 6 = .ok (.if_icmp .eq 16, 3) := by decide +kernel
theorem d_M_isJoinHere_9 : decode prog_12_method_36_code 9 = .ok (.iload_n 1, 1) := by decide +kernel
theorem d_M_isJoinHere_10 : decode prog_12_method_36_code 10 = .ok (.iconst 2, 1) := by decide +kernel
theorem d_M_isJoinHere_11 : decode prog_12_method_36_code 11 = .ok (.if_icmp .ne 18, 3) := by decide +kernel
theorem d_M_isJoinHere_14 : decode prog_12_method_36_code 14 = .ok (.aload_n 0, 1) := by decide +kernel
theorem d_M_isJoinHere_15 : decode prog_12_method_36_code 15 = .ok (.getfield 236, 3) := by decide +kernel
theorem d_M_isJoinHere_18 : decode prog_12_method_36_code 18 = .ok (.iconst 3, 1) := by decide +kernel
theorem d_M_isJoinHere_19 : decode prog_12_method_36_code 19 = .ok (.if_icmp .ne 10, 3) := by decide +kernel
theorem d_M_isJoinHere_22 : decode prog_12_method_36_code 22 = .ok (.aload_n 0, 1) := by decide +kernel
theorem d_M_isJoinHere_23 : decode prog_12_method_36_code 23 = .ok (.iconst 4, 1) := by decide +kernel
theorem d_M_isJoinHere_24 : decode prog_12_method_36_code 24 = .ok (.iload_n 2, 1) := by decide +kernel
theorem d_M_isJoinHere_25 : decode prog_12_method_36_code 25 = .ok (.invokevirtual 131, 3) := by decide +kernel
theorem d_M_isJoinHere_28 : decode prog_12_method_36_code 28 = .ok (.ireturn, 1) := by decide +kernel
theorem d_M_isJoinHere_29 : decode prog_12_method_36_code 29 = .ok (.aload_n 0, 1) := by decide +kernel
theorem d_M_isJoinHere_30 : decode prog_12_method_36_code 30 = .ok (.invokevirtual 125, 3) := by decide +kernel
theorem d_M_isJoinHere_33 : decode prog_12_method_36_code 33 = .ok (.iconst 3, 1) := by decide +kernel
theorem d_M_isJoinHere_34 : decode prog_12_method_36_code 34 = .ok (.aload_n 0, 1) := by decide +kernel
theorem d_M_isJoinHere_35 : decode prog_12_method_36_code 35 = .ok (.getfield 233, 3) := by decide +kernel
theorem d_M_isJoinHere_38 : decode prog_12_method_36_code 38 = .ok (.imul, 1) := by decide +kernel
theorem d_M_isJoinHere_39 : decode prog_12_method_36_code 39 = .ok (.istore_n 3, 1) := by decide +kernel
theorem d_M_isJoinHere_40 : decode prog_12_method_36_code 40 = .ok (.aload_n 0, 1) := by decide +kernel
theorem d_M_isJoinHere_41 : decode prog_12_method_36_code 41 = .ok (.iconst 0, 1) := by decide +kernel
theorem d_M_isJoinHere_42 : decode prog_12_method_36_code 42 = .ok (.aload_n 0, 1) := by decide +kernel
theorem d_M_isJoinHere_43 : decode prog_12_method_36_code 43 = .ok (.getfield 230, 3) := by decide +kernel
theorem d_M_isJoinHere_46 : decode prog_12_method_36_code 46 = .ok (.iconst 1, 1) := by decide +kernel
theorem d_M_isJoinHere_47 : decode prog_12_method_36_code 47 = .ok (.isub, 1) := by decide +kernel
theorem d_M_isJoinHere_48 : decode prog_12_method_36_code 48 = .ok (.invokevirtual 179, 3) := by decide +kernel
theorem d_M_isJoinHere_51 : decode prog_12_method_36_code 51 = .ok (.ifCond .ne 5, 3) := by decide +kernel
theorem d_M_isJoinHere_54 : decode prog_12_method_36_code 54 = .ok (.iconst 0, 1) := by decide +kernel
theorem d_M_isJoinHere_55 : decode prog_12_method_36_code 55 = .ok (.ireturn, 1) := by decide +kernel
theorem d_M_isJoinHere_56 : decode prog_12_method_36_code 56 = .ok (.aload_n 0, 1) := by decide +kernel
theorem d_M_isJoinHere_57 : decode prog_12_method_36_code 57 = .ok (.getfield 29, 3) := by decide +kernel
theorem d_M_isJoinHere_60 : decode prog_12_method_36_code 60 = .ok (.iload_n 3, 1) := by decide +kernel
theorem d_M_isJoinHere_61 : decode prog_12_method_36_code 61 = .ok (.aload_n 0, 1) := by decide +kernel
theorem d_M_isJoinHere_62 : decode prog_12_method_36_code 62 = .ok (.getfield 135, 3) := by decide +kernel
theorem d_M_isJoinHere_65 : decode prog_12_method_36_code 65 = .ok (.iastore, 1) := by decide +kernel
theorem d_M_isJoinHere_66 : decode prog_12_method_36_code 66 = .ok (.aload_n 0, 1) := by decide +kernel
theorem d_M_isJoinHere_67 : decode prog_12_method_36_code 67 = .ok (.invokevirtual 113, 3) := by decide +kernel
theorem d_M_isJoinHere_70 : decode prog_12_method_36_code 70 = .ok (.pop, 1) := by decide +kernel
theorem d_M_isJoinHere_71 : decode prog_12_method_36_code 71 = .ok (.aload_n 0, 1) := by decide +kernel
theorem d_M_isJoinHere_72 : decode prog_12_method_36_code 72 = .ok (.getfield 110, 3) := by decide +kernel
theorem d_M_isJoinHere_75 : decode prog_12_method_36_code 75 = .ok (.istore 4, 2) := by decide +kernel
theorem d_M_isJoinHere_77 : decode prog_12_method_36_code 77 = .ok (.aload_n 0, 1) := by decide +kernel
theorem d_M_isJoinHere_78 : decode prog_12_method_36_code 78 = .ok (.iconst 0, 1) := by decide +kernel
theorem d_M_isJoinHere_79 : decode prog_12_method_36_code 79 = .ok (.aload_n 0, 1) := by decide +kernel
theorem d_M_isJoinHere_80 : decode prog_12_method_36_code 80 = .ok (.getfield 230, 3) := by decide +kernel
theorem d_M_isJoinHere_83 : decode prog_12_method_36_code 83 = .ok (.iconst 1, 1) := by decide +kernel
theorem d_M_isJoinHere_84 : decode prog_12_method_36_code 84 = .ok (.isub, 1) := by decide +kernel
theorem d_M_isJoinHere_85 : decode prog_12_method_36_code 85 = .ok (.invokevirtual 179, 3) := by decide +kernel
theorem d_M_isJoinHere_88 : decode prog_12_method_36_code 88 = .ok (.ifCond .ne 5, 3) := by decide +kernel
theorem d_M_isJoinHere_91 : decode prog_12_method_36_code 91 = .ok (.iconst 0, 1) := by decide +kernel
theorem d_M_isJoinHere_92 : decode prog_12_method_36_code 92 = .ok (.ireturn, 1) := by decide +kernel
theorem d_M_isJoinHere_93 : decode prog_12_method_36_code 93 = .ok (.aload_n 0, 1) := by decide +kernel
theorem d_M_isJoinHere_94 : decode prog_12_method_36_code 94 = .ok (.getfield 135, 3) := by decide +kernel
theorem d_M_isJoinHere_97 : decode prog_12_method_36_code 97 = .ok (.aload_n 0, 1) := by decide +kernel
theorem d_M_isJoinHere_98 : decode prog_12_method_36_code 98 = .ok (.getfield 29, 3) := by decide +kernel
theorem d_M_isJoinHere_101 : decode prog_12_method_36_code 101 = .ok (.iload_n 3, 1) := by decide +kernel
theorem d_M_isJoinHere_102 : decode prog_12_method_36_code 102 = .ok (.iaload, 1) := by decide +kernel
theorem d_M_isJoinHere_103 : decode prog_12_method_36_code 103 = .ok (.if_icmp .ne 11, 3) := by decide +kernel
theorem d_M_isJoinHere_106 : decode prog_12_method_36_code 106 = .ok (.aload_n 0, 1) := by decide +kernel
theorem d_M_isJoinHere_107 : decode prog_12_method_36_code 107 = .ok (.iconst 1, 1) := by decide +kernel
theorem d_M_isJoinHere_108 : decode prog_12_method_36_code 108 = .ok (.iload 4, 2) := by decide +kernel
theorem d_M_isJoinHere_110 : decode prog_12_method_36_code 110 = .ok (.invokevirtual 131, 3) := by decide +kernel
theorem d_M_isJoinHere_113 : decode prog_12_method_36_code 113 = .ok (.ireturn, 1) := by decide +kernel
theorem d_M_isJoinHere_114 : decode prog_12_method_36_code 114 = .ok (.aload_n 0, 1) := by decide +kernel
theorem d_M_isJoinHere_115 : decode prog_12_method_36_code 115 = .ok (.getfield 29, 3) := by decide +kernel
theorem d_M_isJoinHere_118 : decode prog_12_method_36_code 118 = .ok (.iload_n 3, 1) := by decide +kernel
theorem d_M_isJoinHere_119 : decode prog_12_method_36_code 119 = .ok (.iconst 1, 1) := by decide +kernel
theorem d_M_isJoinHere_120 : decode prog_12_method_36_code 120 = .ok (.iadd, 1) := by decide +kernel
theorem d_M_isJoinHere_121 : decode prog_12_method_36_code 121 = .ok (.aload_n 0, 1) := by decide +kernel
theorem d_M_isJoinHere_122 : decode prog_12_method_36_code 122 = .ok (.getfield 135, 3) := by decide +kernel
theorem d_M_isJoinHere_125 : decode prog_12_method_36_code 125 = .ok (.iastore, 1) := by decide +kernel
theorem d_M_isJoinHere_126 : decode prog_12_method_36_code 126 = .ok (.aload_n 0, 1) := by decide +kernel
theorem d_M_isJoinHere_127 : decode prog_12_method_36_code 127 = .ok (.getfield 29, 3) := by decide +kernel
theorem d_M_isJoinHere_130 : decode prog_12_method_36_code 130 = .ok (.iload_n 3, 1) := by decide +kernel
theorem d_M_isJoinHere_131 : decode prog_12_method_36_code 131 = .ok (.iconst 2, 1) := by decide +kernel
theorem d_M_isJoinHere_132 : decode prog_12_method_36_code 132 = .ok (.iadd, 1) := by decide +kernel
theorem d_M_isJoinHere_133 : decode prog_12_method_36_code 133 = .ok (.iload_n 1, 1) := by decide +kernel
theorem d_M_isJoinHere_134 : decode prog_12_method_36_code 134 = .ok (.iastore, 1) := by decide +kernel
theorem d_M_isJoinHere_135 : decode prog_12_method_36_code 135 = .ok (.aload_n 0, 1) := by decide +kernel
theorem d_M_isJoinHere_136 : decode prog_12_method_36_code 136 = .ok (.dup, 1) := by decide +kernel
theorem d_M_isJoinHere_137 : decode prog_12_method_36_code 137 = .ok (.getfield 236, 3) := by decide +kernel
theorem d_M_isJoinHere_140 : decode prog_12_method_36_code 140 = .ok (.iload_n 1, 1) := by decide +kernel
theorem d_M_isJoinHere_141 : decode prog_12_method_36_code 141 = .ok (.iconst 2, 1) := by decide +kernel
theorem d_M_isJoinHere_142 : decode prog_12_method_36_code 142 = .ok (.if_icmp .ne 7, 3) := by decide +kernel
theorem d_M_isJoinHere_145 : decode prog_12_method_36_code 145 = .ok (.iconst 1, 1) := by decide +kernel
theorem d_M_isJoinHere_146 : decode prog_12_method_36_code 146 = .ok (.goto 4, 3) := by decide +kernel
theorem d_M_isJoinHere_149 : decode prog_12_method_36_code 149 = .ok (.iconst 0, 1) := by decide +kernel
theorem d_M_isJoinHere_150 : decode prog_12_method_36_code 150 = .ok (.iadd, 1) := by decide +kernel
theorem d_M_isJoinHere_151 : decode prog_12_method_36_code 151 = .ok (.putfield 236, 3) := by decide +kernel
theorem d_M_isJoinHere_154 : decode prog_12_method_36_code 154 = .ok (.aload_n 0, 1) := by decide +kernel
theorem d_M_isJoinHere_155 : decode prog_12_method_36_code 155 = .ok (.dup, 1) := by decide +kernel
theorem d_M_isJoinHere_156 : decode prog_12_method_36_code 156 = .ok (.getfield 233, 3) := by decide +kernel
theorem d_M_isJoinHere_159 : decode prog_12_method_36_code 159 = .ok (.iconst 1, 1) := by decide +kernel
theorem d_M_isJoinHere_160 : decode prog_12_method_36_code 160 = .ok (.iadd, 1) := by decide +kernel
theorem d_M_isJoinHere_161 : decode prog_12_method_36_code 161 = .ok (.putfield 233, 3) := by decide +kernel
theorem d_M_isJoinHere_164 : decode prog_12_method_36_code 164 = .ok (.iconst 1, 1) := by decide +kernel
theorem d_M_isJoinHere_165 : decode prog_12_method_36_code 165 = .ok (.ireturn, 1) := by decide +kernel
theorem d_M_isFixedHere_0 : decode prog_12_method_37_code 0 = .ok (.aload_n 0, 1) := by decide +kernel
theorem d_M_isFixedHere_1 : decode prog_12_method_37_code 1 = .ok (.invokevirtual 125, 3) := by decide +kernel
theorem d_M_isFixedHere_4 : decode prog_12_method_37_code 4 = .ok (.aload_n 0, 1) := by decide +kernel
theorem d_M_isFixedHere_5 : decode prog_12_method_37_code 5 = .ok (.iconst 0, 1) := by decide +kernel
theorem d_M_isFixedHere_6 : decode prog_12_method_37_code 6 = .ok (.aload_n 0, 1) := by decide +kernel
theorem d_M_isFixedHere_7 : decode prog_12_method_37_code 7 = .ok (.getfield 230, 3) := by decide +kernel
theorem d_M_isFixedHere_10 : decode prog_12_method_37_code 10 = .ok (.iconst 1, 1) := by decide +kernel
theorem d_M_isFixedHere_11 : decode prog_12_method_37_code 11 = .ok (.isub, 1) := by decide +kernel
theorem d_M_isFixedHere_12 : decode prog_12_method_37_code 12 = .ok (.invokevirtual 179, 3) := by decide +kernel
theorem d_M_isFixedHere_15 : decode prog_12_method_37_code 15 = .ok (.ifCond .ne 5, 3) := by decide +kernel
theorem d_M_isFixedHere_18 : decode prog_12_method_37_code 18 = .ok (.iconst 0, 1) := by decide +kernel
theorem d_M_isFixedHere_19 : decode prog_12_method_37_code 19 = .ok (.ireturn, 1) := by decide +kernel
theorem d_M_isFixedHere_20 : decode prog_12_method_37_code 20 = .ok (.aload_n 0, 1) := by decide +kernel
theorem d_M_isFixedHere_21 : decode prog_12_method_37_code 21 = .ok (.dup, 1) := by decide +kernel
theorem d_M_isFixedHere_22 : decode prog_12_method_37_code 22 = .ok (.getfield 239, 3) := by decide +kernel
theorem d_M_isFixedHere_25 : decode prog_12_method_37_code 25 = .ok (.iconst 1, 1) := by decide +kernel
theorem d_M_isFixedHere_26 : decode prog_12_method_37_code 26 = .ok (.aload_n 0, 1) := by decide +kernel
theorem d_M_isFixedHere_27 : decode prog_12_method_37_code 27 = .ok (.getfield 135, 3) := by decide +kernel
theorem d_M_isFixedHere_30 : decode prog_12_method_37_code 30 = .ok (.ishl, 1) := by decide +kernel
theorem d_M_isFixedHere_31 : decode prog_12_method_37_code 31 = .ok (.ior, 1) := by decide +kernel
theorem d_M_isFixedHere_32 : decode prog_12_method_37_code 32 = .ok (.putfield 239, 3) := by decide +kernel
theorem d_M_isFixedHere_35 : decode prog_12_method_37_code 35 = .ok (.iconst 1, 1) := by decide +kernel
theorem d_M_isFixedHere_36 : decode prog_12_method_37_code 36 = .ok (.ireturn, 1) := by decide +kernel
theorem d_M_joinSort_0 : decode prog_12_method_38_code 0 = .ok (.aload_n 0, 1) := by decide +kernel
theorem d_M_joinSort_1 : decode prog_12_method_38_code 1 = .ok (.ldc2_w 242, 3) := by decide +kernel
theorem d_M_joinSort_4 : decode prog_12_method_38_code 4 = .ok (.invokevirtual 121, 3) := by decide +kernel
theorem d_M_joinSort_7 : decode prog_12_method_38_code 7 = .ok (.ifCond .eq 7, 3) := by decide +kernel
theorem d_M_joinSort_10 : decode prog_12_method_38_code 10 = .ok (.iconst 0, 1) := by decide +kernel
theorem d_M_joinSort_11 : decode prog_12_method_38_code 11 = .ok (.goto 32, 3) := by decide +kernel
theorem d_M_joinSort_14 : decode prog_12_method_38_code 14 = .ok (.aload_n 0, 1) := by decide +kernel
theorem d_M_joinSort_15 : decode prog_12_method_38_code 15 = .ok (.ldc2_w 244, 3) := by decide +kernel
theorem d_M_joinSort_18 : decode prog_12_method_38_code 18 = .ok (.invokevirtual 121, 3) := by decide +kernel
theorem d_M_joinSort_21 : decode prog_12_method_38_code 21 = .ok (.ifCond .eq 7, 3) := by decide +kernel
theorem d_M_joinSort_24 : decode prog_12_method_38_code 24 = .ok (.iconst 1, 1) := by decide +kernel
theorem d_M_joinSort_25 : decode prog_12_method_38_code 25 = .ok (.goto 18, 3) := by decide +kernel
theorem d_M_joinSort_28 : decode prog_12_method_38_code 28 = .ok (.aload_n 0, 1) := by decide +kernel
theorem d_M_joinSort_29 : decode prog_12_method_38_code 29 = .ok (.ldc2_w 246, 3) := by decide +kernel
theorem d_M_joinSort_32 : decode prog_12_method_38_code 32 = .ok (.invokevirtual 121, 3) := by decide +kernel
theorem d_M_joinSort_35 : decode prog_12_method_38_code 35 = .ok (.ifCond .eq 7, 3) := by decide +kernel
theorem d_M_joinSort_38 : decode prog_12_method_38_code 38 = .ok (.iconst 2, 1) := by decide +kernel
theorem d_M_joinSort_39 : decode prog_12_method_38_code 39 = .ok (.goto 4, 3) := by decide +kernel
theorem d_M_joinSort_42 : decode prog_12_method_38_code 42 = .ok (.iconst (-1), 1) := by decide +kernel
theorem d_M_joinSort_43 : decode prog_12_method_38_code 43 = .ok (.ireturn, 1) := by decide +kernel
theorem d_M_clauseHere_0 : decode prog_12_method_39_code 0 = .ok (.aload_n 0, 1) := by decide +kernel
theorem d_M_clauseHere_1 : decode prog_12_method_39_code 1 = .ok (.invokevirtual 113, 3) := by decide +kernel
theorem d_M_clauseHere_4 : decode prog_12_method_39_code 4 = .ok (.pop, 1) := by decide +kernel
theorem d_M_clauseHere_5 : decode prog_12_method_39_code 5 = .ok (.aload_n 0, 1) := by decide +kernel
theorem d_M_clauseHere_6 : decode prog_12_method_39_code 6 = .ok (.getfield 110, 3) := by decide +kernel
theorem d_M_clauseHere_9 : decode prog_12_method_39_code 9 = .ok (.istore_n 1, 1) := by decide +kernel
theorem d_M_clauseHere_10 : decode prog_12_method_39_code 10 = .ok (.aload_n 0, 1) := by decide +kernel
theorem d_M_clauseHere_11 : decode prog_12_method_39_code 11 = .ok (.getfield 158, 3) := by decide +kernel
theorem d_M_clauseHere_14 : decode prog_12_method_39_code 14 = .ok (.bipush 6, 2) := by decide +kernel
theorem d_M_clauseHere_16 : decode prog_12_method_39_code 16 = .ok (.if_icmp .ne 7, 3) := by decide +kernel
theorem d_M_clauseHere_19 : decode prog_12_method_39_code 19 = .ok (.iconst 1, 1) := by decide +kernel
theorem d_M_clauseHere_20 : decode prog_12_method_39_code 20 = .ok (.goto 4, 3) := by decide +kernel
theorem d_M_clauseHere_23 : decode prog_12_method_39_code 23 = .ok (.iconst 0, 1) := by decide +kernel
theorem d_M_clauseHere_24 : decode prog_12_method_39_code 24 = .ok (.istore_n 2, 1) := by decide +kernel
theorem d_M_clauseHere_25 : decode prog_12_method_39_code 25 = .ok (.iload_n 2, 1) := by decide +kernel
theorem d_M_clauseHere_26 : decode prog_12_method_39_code 26 = .ok (.ifCond .eq 38, 3) := by decide +kernel
theorem d_M_clauseHere_29 : decode prog_12_method_39_code 29 = .ok (.aload_n 0, 1) := by decide +kernel
theorem d_M_clauseHere_30 : decode prog_12_method_39_code 30 = .ok (.ldc2_w 142, 3) := by decide +kernel
theorem d_M_clauseHere_33 : decode prog_12_method_39_code 33 = .ok (.invokevirtual 121, 3) := by decide +kernel
theorem d_M_clauseHere_36 : decode prog_12_method_39_code 36 = .ok (.ifCond .ne 20, 3) := by decide +kernel
theorem d_M_clauseHere_39 : decode prog_12_method_39_code 39 = .ok (.aload_n 0, 1) := by decide +kernel
theorem d_M_clauseHere_40 : decode prog_12_method_39_code 40 = .ok (.ldc2_w 248, 3) := by decide +kernel
theorem d_M_clauseHere_43 : decode prog_12_method_39_code 43 = .ok (.invokevirtual 121, 3) := by decide +kernel
theorem d_M_clauseHere_46 : decode prog_12_method_39_code 46 = .ok (.ifCond .ne 10, 3) := by decide +kernel
theorem d_M_clauseHere_49 : decode prog_12_method_39_code 49 = .ok (.aload_n 0, 1) := by decide +kernel
theorem d_M_clauseHere_50 : decode prog_12_method_39_code 50 = .ok (.invokevirtual 250, 3) := by decide +kernel
theorem d_M_clauseHere_53 : decode prog_12_method_39_code 53 = .ok (.ifCond .lt 7, 3) := by decide +kernel
theorem d_M_clauseHere_56 : decode prog_12_method_39_code 56 = .ok (.iconst 1, 1) := by decide +kernel
theorem d_M_clauseHere_57 : decode prog_12_method_39_code 57 = .ok (.goto 14, 3) := by decide +kernel
theorem d_M_clauseHere_60 : decode prog_12_method_39_code 60 = .ok (.iconst 0, 1) := by decide +kernel
theorem d_M_clauseHere_61 : decode prog_12_method_39_code 61 = .ok (.goto 10, 3) := by decide +kernel
theorem d_M_clauseHere_64 : decode prog_12_method_39_code 64 = .ok (.aload_n 0, 1) := by decide +kernel
theorem d_M_clauseHere_65 : decode prog_12_method_39_code 65 = .ok (.ldc2_w 253, 3) := by decide +kernel
theorem d_M_clauseHere_68 : decode prog_12_method_39_code 68 = .ok (.invokevirtual 121, 3) := by decide +kernel
theorem d_M_clauseHere_71 : decode prog_12_method_39_code 71 = .ok (.istore_n 3, 1) := by decide +kernel
theorem d_M_clauseHere_72 : decode prog_12_method_39_code 72 = .ok (.iload_n 3, 1) := by decide +kernel
theorem d_M_clauseHere_73 : decode prog_12_method_39_code 73 = .ok (.ifCond .ne 10, 3) := by decide +kernel
theorem d_M_clauseHere_76 : decode prog_12_method_39_code 76 = .ok (.aload_n 0, 1) := by decide +kernel
theorem d_M_clauseHere_77 : decode prog_12_method_39_code 77 = .ok (.iconst 0, 1) := by decide +kernel
theorem d_M_clauseHere_78 : decode prog_12_method_39_code 78 = .ok (.iload_n 1, 1) := by decide +kernel
theorem d_M_clauseHere_79 : decode prog_12_method_39_code 79 = .ok (.invokevirtual 131, 3) := by decide +kernel
theorem d_M_clauseHere_82 : decode prog_12_method_39_code 82 = .ok (.ireturn, 1) := by decide +kernel
theorem d_M_clauseHere_83 : decode prog_12_method_39_code 83 = .ok (.aload_n 0, 1) := by decide +kernel
theorem d_M_clauseHere_84 : decode prog_12_method_39_code 84 = .ok (.getfield 255, 3) := by decide +kernel
theorem d_M_clauseHere_87 : decode prog_12_method_39_code 87 = .ok (.iload_n 2, 1) := by decide +kernel
theorem d_M_clauseHere_88 : decode prog_12_method_39_code 88 = .ok (.ifCond .eq 8, 3) := by decide +kernel
theorem d_M_clauseHere_91 : decode prog_12_method_39_code 91 = .ok (.bipush 32, 2) := by decide +kernel
theorem d_M_clauseHere_93 : decode prog_12_method_39_code 93 = .ok (.goto 5, 3) := by decide +kernel
theorem d_M_clauseHere_96 : decode prog_12_method_39_code 96 = .ok (.bipush 12, 2) := by decide +kernel
theorem d_M_clauseHere_98 : decode prog_12_method_39_code 98 = .ok (.if_icmp .ne 10, 3) := by decide +kernel
theorem d_M_clauseHere_101 : decode prog_12_method_39_code 101 = .ok (.aload_n 0, 1) := by decide +kernel
theorem d_M_clauseHere_102 : decode prog_12_method_39_code 102 = .ok (.iconst 4, 1) := by decide +kernel
theorem d_M_clauseHere_103 : decode prog_12_method_39_code 103 = .ok (.iload_n 1, 1) := by decide +kernel
theorem d_M_clauseHere_104 : decode prog_12_method_39_code 104 = .ok (.invokevirtual 131, 3) := by decide +kernel
theorem d_M_clauseHere_107 : decode prog_12_method_39_code 107 = .ok (.ireturn, 1) := by decide +kernel
theorem d_M_clauseHere_108 : decode prog_12_method_39_code 108 = .ok (.aload_n 0, 1) := by decide +kernel
theorem d_M_clauseHere_109 : decode prog_12_method_39_code 109 = .ok (.dup, 1) := by decide +kernel
theorem d_M_clauseHere_110 : decode prog_12_method_39_code 110 = .ok (.getfield 255, 3) := by decide +kernel
theorem d_M_clauseHere_113 : decode prog_12_method_39_code 113 = .ok (.iconst 1, 1) := by decide +kernel
theorem d_M_clauseHere_114 : decode prog_12_method_39_code 114 = .ok (.iadd, 1) := by decide +kernel
theorem d_M_clauseHere_115 : decode prog_12_method_39_code 115 = .ok (.putfield 255, 3) := by decide +kernel
theorem d_M_clauseHere_118 : decode prog_12_method_39_code 118 = .ok (.iload_n 2, 1) := by decide +kernel
theorem d_M_clauseHere_119 : decode prog_12_method_39_code 119 = .ok (.ifCond .ne 8, 3) := by decide +kernel
theorem d_M_clauseHere_122 : decode prog_12_method_39_code 122 = .ok (.aload_n 0, 1) := by decide +kernel
theorem d_M_clauseHere_123 : decode prog_12_method_39_code 123 = .ok (.invokevirtual 258, 3) := by decide +kernel
theorem d_M_clauseHere_126 : decode prog_12_method_39_code 126 = .ok (.ireturn, 1) := by decide +kernel
theorem d_M_clauseHere_127 : decode prog_12_method_39_code 127 = .ok (.aload_n 0, 1) := by decide +kernel
theorem d_M_clauseHere_128 : decode prog_12_method_39_code 128 = .ok (.ldc2_w 142, 3) := by decide +kernel
theorem d_M_clauseHere_131 : decode prog_12_method_39_code 131 = .ok (.invokevirtual 121, 3) := by decide +kernel
theorem d_M_clauseHere_134 : decode prog_12_method_39_code 134 = .ok (.ifCond .eq 11, 3) := by decide +kernel
theorem d_M_clauseHere_137 : decode prog_12_method_39_code 137 = .ok (.aload_n 0, 1) := by decide +kernel
theorem d_M_clauseHere_138 : decode prog_12_method_39_code 138 = .ok (.iload_n 1, 1) := by decide +kernel
theorem d_M_clauseHere_139 : decode prog_12_method_39_code 139 = .ok (.invokevirtual 261, 3) := by decide +kernel
theorem d_M_clauseHere_142 : decode prog_12_method_39_code 142 = .ok (.goto 29, 3) := by decide +kernel
theorem d_M_clauseHere_145 : decode prog_12_method_39_code 145 = .ok (.aload_n 0, 1) := by decide +kernel
theorem d_M_clauseHere_146 : decode prog_12_method_39_code 146 = .ok (.ldc2_w 248, 3) := by decide +kernel
theorem d_M_clauseHere_149 : decode prog_12_method_39_code 149 = .ok (.invokevirtual 121, 3) := by decide +kernel
theorem d_M_clauseHere_152 : decode prog_12_method_39_code 152 = .ok (.ifCond .eq 10, 3) := by decide +kernel
theorem d_M_clauseHere_155 : decode prog_12_method_39_code 155 = .ok (.aload_n 0, 1) := by decide +kernel
theorem d_M_clauseHere_156 : decode prog_12_method_39_code 156 = .ok (.invokevirtual 264, 3) := by decide +kernel
theorem d_M_clauseHere_159 : decode prog_12_method_39_code 159 = .ok (.goto 12, 3) := by decide +kernel
theorem d_M_clauseHere_162 : decode prog_12_method_39_code 162 = .ok (.aload_n 0, 1) := by decide +kernel
theorem d_M_clauseHere_163 : decode prog_12_method_39_code 163 = .ok (.aload_n 0, 1) := by decide +kernel
theorem d_M_clauseHere_164 : decode prog_12_method_39_code 164 = .ok (.invokevirtual 250, 3) := by decide +kernel
theorem d_M_clauseHere_167 : decode prog_12_method_39_code 167 = .ok (.iload_n 1, 1) := by decide +kernel
theorem d_M_clauseHere_168 : decode prog_12_method_39_code 168 = .ok (.invokevirtual 267, 3) := by decide +kernel
theorem d_M_clauseHere_171 : decode prog_12_method_39_code 171 = .ok (.ireturn, 1) := by decide +kernel
theorem d_M_readsAll_0 : decode prog_12_method_40_code 0 = .ok (.aload_n 0, 1) := by decide +kernel
theorem d_M_readsAll_1 : decode prog_12_method_40_code 1 = .ok (.getfield 17, 3) := by decide +kernel
theorem d_M_readsAll_4 : decode prog_12_method_40_code 4 = .ok (.aload_n 0, 1) := by decide +kernel
theorem d_M_readsAll_5 : decode prog_12_method_40_code 5 = .ok (.getfield 158, 3) := by decide +kernel
theorem d_M_readsAll_8 : decode prog_12_method_40_code 8 = .ok (.iconst 0, 1) := by decide +kernel
theorem d_M_readsAll_9 : decode prog_12_method_40_code 9 = .ok (.iastore, 1) := by decide +kernel
theorem d_M_readsAll_10 : decode prog_12_method_40_code 10 = .ok (.aload_n 0, 1) := by decide +kernel
theorem d_M_readsAll_11 : decode prog_12_method_40_code 11 = .ok (.iconst 0, 1) := by decide +kernel
theorem d_M_readsAll_12 : decode prog_12_method_40_code 12 = .ok (.putfield 255, 3) := by decide +kernel
theorem d_M_readsAll_15 : decode prog_12_method_40_code 15 = .ok (.aload_n 0, 1) := by decide +kernel
theorem d_M_readsAll_16 : decode prog_12_method_40_code 16 = .ok (.iconst 0, 1) := by decide +kernel
theorem d_M_readsAll_17 : decode prog_12_method_40_code 17 = .ok (.putfield 110, 3) := by decide +kernel
theorem d_M_readsAll_20 : decode prog_12_method_40_code 20 = .ok (.aload_n 0, 1) := by decide +kernel
theorem d_M_readsAll_21 : decode prog_12_method_40_code 21 = .ok (.iconst 0, 1) := by decide +kernel
theorem d_M_readsAll_22 : decode prog_12_method_40_code 22 = .ok (.putfield 107, 3) := by decide +kernel
theorem d_M_readsAll_25 : decode prog_12_method_40_code 25 = .ok (.aload_n 0, 1) := by decide +kernel
theorem d_M_readsAll_26 : decode prog_12_method_40_code 26 = .ok (.iconst 0, 1) := by decide +kernel
theorem d_M_readsAll_27 : decode prog_12_method_40_code 27 = .ok (.putfield 161, 3) := by decide +kernel
theorem d_M_readsAll_30 : decode prog_12_method_40_code 30 = .ok (.aload_n 0, 1) := by decide +kernel
theorem d_M_readsAll_31 : decode prog_12_method_40_code 31 = .ok (.invokevirtual 270, 3) := by decide +kernel
theorem d_M_readsAll_34 : decode prog_12_method_40_code 34 = .ok (.istore_n 1, 1) := by decide +kernel
theorem d_M_readsAll_35 : decode prog_12_method_40_code 35 = .ok (.iload_n 1, 1) := by decide +kernel
theorem d_M_readsAll_36 : decode prog_12_method_40_code 36 = .ok (.ifCond .eq 30, 3) := by decide +kernel
theorem d_M_readsAll_39 : decode prog_12_method_40_code 39 = .ok (.aload_n 0, 1) := by decide +kernel
theorem d_M_readsAll_40 : decode prog_12_method_40_code 40 = .ok (.invokevirtual 113, 3) := by decide +kernel
theorem d_M_readsAll_43 : decode prog_12_method_40_code 43 = .ok (.bipush 59, 2) := by decide +kernel
theorem d_M_readsAll_45 : decode prog_12_method_40_code 45 = .ok (.if_icmp .ne 21, 3) := by decide +kernel
theorem d_M_readsAll_48 : decode prog_12_method_40_code 48 = .ok (.aload_n 0, 1) := by decide +kernel
theorem d_M_readsAll_49 : decode prog_12_method_40_code 49 = .ok (.dup, 1) := by decide +kernel
theorem d_M_readsAll_50 : decode prog_12_method_40_code 50 = .ok (.getfield 110, 3) := by decide +kernel
theorem d_M_readsAll_53 : decode prog_12_method_40_code 53 = .ok (.iconst 1, 1) := by decide +kernel
theorem d_M_readsAll_54 : decode prog_12_method_40_code 54 = .ok (.iadd, 1) := by decide +kernel
theorem d_M_readsAll_55 : decode prog_12_method_40_code 55 = .ok (.putfield 110, 3) := by decide +kernel
theorem d_M_readsAll_58 : decode prog_12_method_40_code 58 = .ok (.aload_n 0, 1) := by decide +kernel
theorem d_M_readsAll_59 : decode prog_12_method_40_code 59 = .ok (.invokevirtual 270, 3) := by decide +kernel
theorem d_M_readsAll_62 : decode prog_12_method_40_code 62 = .ok (.istore_n 1, 1) := by decide +kernel
theorem d_M_readsAll_63 : decode prog_12_method_40_code 63 = .ok (.goto (-28), 3) := by decide +kernel
theorem d_M_readsAll_66 : decode prog_12_method_40_code 66 = .ok (.iload_n 1, 1) := by decide +kernel
theorem d_M_readsAll_67 : decode prog_12_method_40_code 67 = .ok (.ifCond .eq 21, 3) := by decide +kernel
theorem d_M_readsAll_70 : decode prog_12_method_40_code 70 = .ok (.aload_n 0, 1) := by decide +kernel
theorem d_M_readsAll_71 : decode prog_12_method_40_code 71 = .ok (.invokevirtual 113, 3) := by decide +kernel
theorem d_M_readsAll_74 : decode prog_12_method_40_code 74 = .ok (.iconst (-1), 1) := by decide +kernel
theorem d_M_readsAll_75 : decode prog_12_method_40_code 75 = .ok (.if_icmp .eq 13, 3) := by decide +kernel
theorem d_M_readsAll_78 : decode prog_12_method_40_code 78 = .ok (.aload_n 0, 1) := by decide +kernel
theorem d_M_readsAll_79 : decode prog_12_method_40_code 79 = .ok (.iconst 0, 1) := by decide +kernel
theorem d_M_readsAll_80 : decode prog_12_method_40_code 80 = .ok (.aload_n 0, 1) := by decide +kernel
theorem d_M_readsAll_81 : decode prog_12_method_40_code 81 = .ok (.getfield 110, 3) := by decide +kernel
theorem d_M_readsAll_84 : decode prog_12_method_40_code 84 = .ok (.invokevirtual 131, 3) := by decide +kernel
theorem d_M_readsAll_87 : decode prog_12_method_40_code 87 = .ok (.istore_n 1, 1) := by decide +kernel
theorem d_M_readsAll_88 : decode prog_12_method_40_code 88 = .ok (.iload_n 1, 1) := by decide +kernel
theorem d_M_readsAll_89 : decode prog_12_method_40_code 89 = .ok (.ifCond .eq 29, 3) := by decide +kernel
theorem d_M_readsAll_92 : decode prog_12_method_40_code 92 = .ok (.aload_n 0, 1) := by decide +kernel
theorem d_M_readsAll_93 : decode prog_12_method_40_code 93 = .ok (.getfield 158, 3) := by decide +kernel
theorem d_M_readsAll_96 : decode prog_12_method_40_code 96 = .ok (.bipush 6, 2) := by decide +kernel
theorem d_M_readsAll_98 : decode prog_12_method_40_code 98 = .ok (.if_icmp .ne 20, 3) := by decide +kernel
theorem d_M_readsAll_101 : decode prog_12_method_40_code 101 = .ok (.aload_n 0, 1) := by decide +kernel
theorem d_M_readsAll_102 : decode prog_12_method_40_code 102 = .ok (.getfield 230, 3) := by decide +kernel
theorem d_M_readsAll_105 : decode prog_12_method_40_code 105 = .ok (.ifCond .ne 13, 3) := by decide +kernel
theorem d_M_readsAll_108 : decode prog_12_method_40_code 108 = .ok (.aload_n 0, 1) := by decide +kernel
theorem d_M_readsAll_109 : decode prog_12_method_40_code 109 = .ok (.iconst 0, 1) := by decide +kernel
theorem d_M_readsAll_110 : decode prog_12_method_40_code 110 = .ok (.aload_n 0, 1) := by decide +kernel
theorem d_M_readsAll_111 : decode prog_12_method_40_code 111 = .ok (.getfield 110, 3) := by decide +kernel
theorem d_M_readsAll_114 : decode prog_12_method_40_code 114 = .ok (.invokevirtual 131, 3) := by decide +kernel
theorem d_M_readsAll_117 : decode prog_12_method_40_code 117 = .ok (.pop, 1) := by decide +kernel
theorem d_M_readsAll_118 : decode prog_12_method_40_code 118 = .ok (.aload_n 0, 1) := by decide +kernel
theorem d_M_readsAll_119 : decode prog_12_method_40_code 119 = .ok (.iconst 0, 1) := by decide +kernel
theorem d_M_readsAll_120 : decode prog_12_method_40_code 120 = .ok (.putfield 99, 3) := by decide +kernel
theorem d_M_readsAll_123 : decode prog_12_method_40_code 123 = .ok (.aload_n 0, 1) := by decide +kernel
theorem d_M_readsAll_124 : decode prog_12_method_40_code 124 = .ok (.getfield 107, 3) := by decide +kernel
theorem d_M_readsAll_127 : decode prog_12_method_40_code 127 = .ok (.ifCond .ne 7, 3) := by decide +kernel
theorem d_M_readsAll_130 : decode prog_12_method_40_code 130 = .ok (.iconst 1, 1) := by decide +kernel
theorem d_M_readsAll_131 : decode prog_12_method_40_code 131 = .ok (.goto 4, 3) := by decide +kernel
theorem d_M_readsAll_134 : decode prog_12_method_40_code 134 = .ok (.iconst 0, 1) := by decide +kernel
theorem d_M_readsAll_135 : decode prog_12_method_40_code 135 = .ok (.ireturn, 1) := by decide +kernel
theorem d_M_rule_0 : decode prog_12_method_41_code 0 = .ok (.aload_n 0, 1) := by decide +kernel
theorem d_M_rule_1 : decode prog_12_method_41_code 1 = .ok (.getfield 273, 3) := by decide +kernel
theorem d_M_rule_4 : decode prog_12_method_41_code 4 = .ok (.bipush 6, 2) := by decide +kernel
theorem d_M_rule_6 : decode prog_12_method_41_code 6 = .ok (.if_icmp .ne 5, 3) := by decide +kernel
theorem d_M_rule_9 : decode prog_12_method_41_code 9 = .ok (.iconst (-1), 1) := by decide +kernel
theorem d_M_rule_10 : decode prog_12_method_41_code 10 = .ok (.ireturn, 1) := by decide +kernel
theorem d_M_rule_11 : decode prog_12_method_41_code 11 = .ok (.aload_n 0, 1) := by decide +kernel
theorem d_M_rule_12 : decode prog_12_method_41_code 12 = .ok (.aload_n 0, 1) := by decide +kernel
theorem d_M_rule_13 : decode prog_12_method_41_code 13 = .ok (.getfield 273, 3) := by decide +kernel
theorem d_M_rule_16 : decode prog_12_method_41_code 16 = .ok (.putfield 158, 3) := by decide +kernel
theorem d_M_rule_19 : decode prog_12_method_41_code 19 = .ok (.aload_n 0, 1) := by decide +kernel
theorem d_M_rule_20 : decode prog_12_method_41_code 20 = .ok (.getfield 23, 3) := by decide +kernel
theorem d_M_rule_23 : decode prog_12_method_41_code 23 = .ok (.aload_n 0, 1) := by decide +kernel
theorem d_M_rule_24 : decode prog_12_method_41_code 24 = .ok (.getfield 158, 3) := by decide +kernel
theorem d_M_rule_27 : decode prog_12_method_41_code 27 = .ok (.iconst 0, 1) := by decide +kernel
theorem d_M_rule_28 : decode prog_12_method_41_code 28 = .ok (.iastore, 1) := by decide +kernel
theorem d_M_rule_29 : decode prog_12_method_41_code 29 = .ok (.aload_n 0, 1) := by decide +kernel
theorem d_M_rule_30 : decode prog_12_method_41_code 30 = .ok (.invokevirtual 276, 3) := by decide +kernel
theorem d_M_rule_33 : decode prog_12_method_41_code 33 = .ok (.ifCond .ne 11, 3) := by decide +kernel
theorem d_M_rule_36 : decode prog_12_method_41_code 36 = .ok (.bipush (-2), 2) := by decide +kernel
theorem d_M_rule_38 : decode prog_12_method_41_code 38 = .ok (.aload_n 0, 1) := by decide +kernel
theorem d_M_rule_39 : decode prog_12_method_41_code 39 = .ok (.getfield 107, 3) := by decide +kernel
theorem d_M_rule_42 : decode prog_12_method_41_code 42 = .ok (.isub, 1) := by decide +kernel
theorem d_M_rule_43 : decode prog_12_method_41_code 43 = .ok (.ireturn, 1) := by decide +kernel
theorem d_M_rule_44 : decode prog_12_method_41_code 44 = .ok (.aload_n 0, 1) := by decide +kernel
theorem d_M_rule_45 : decode prog_12_method_41_code 45 = .ok (.dup, 1) := by decide +kernel
theorem d_M_rule_46 : decode prog_12_method_41_code 46 = .ok (.getfield 273, 3) := by decide +kernel
theorem d_M_rule_49 : decode prog_12_method_41_code 49 = .ok (.iconst 1, 1) := by decide +kernel
theorem d_M_rule_50 : decode prog_12_method_41_code 50 = .ok (.iadd, 1) := by decide +kernel
theorem d_M_rule_51 : decode prog_12_method_41_code 51 = .ok (.putfield 273, 3) := by decide +kernel
theorem d_M_rule_54 : decode prog_12_method_41_code 54 = .ok (.aload_n 0, 1) := by decide +kernel
theorem d_M_rule_55 : decode prog_12_method_41_code 55 = .ok (.getfield 273, 3) := by decide +kernel
theorem d_M_rule_58 : decode prog_12_method_41_code 58 = .ok (.iconst 1, 1) := by decide +kernel
theorem d_M_rule_59 : decode prog_12_method_41_code 59 = .ok (.isub, 1) := by decide +kernel
theorem d_M_rule_60 : decode prog_12_method_41_code 60 = .ok (.ireturn, 1) := by decide +kernel
theorem d_M_street_0 : decode prog_12_method_42_code 0 = .ok (.aload_n 0, 1) := by decide +kernel
theorem d_M_street_1 : decode prog_12_method_42_code 1 = .ok (.bipush 6, 2) := by decide +kernel
theorem d_M_street_3 : decode prog_12_method_42_code 3 = .ok (.putfield 158, 3) := by decide +kernel
theorem d_M_street_6 : decode prog_12_method_42_code 6 = .ok (.aload_n 0, 1) := by decide +kernel
theorem d_M_street_7 : decode prog_12_method_42_code 7 = .ok (.iconst 0, 1) := by decide +kernel
theorem d_M_street_8 : decode prog_12_method_42_code 8 = .ok (.putfield 230, 3) := by decide +kernel
theorem d_M_street_11 : decode prog_12_method_42_code 11 = .ok (.aload_n 0, 1) := by decide +kernel
theorem d_M_street_12 : decode prog_12_method_42_code 12 = .ok (.iconst 0, 1) := by decide +kernel
theorem d_M_street_13 : decode prog_12_method_42_code 13 = .ok (.putfield 233, 3) := by decide +kernel
theorem d_M_street_16 : decode prog_12_method_42_code 16 = .ok (.aload_n 0, 1) := by decide +kernel
theorem d_M_street_17 : decode prog_12_method_42_code 17 = .ok (.iconst 0, 1) := by decide +kernel
theorem d_M_street_18 : decode prog_12_method_42_code 18 = .ok (.putfield 236, 3) := by decide +kernel
theorem d_M_street_21 : decode prog_12_method_42_code 21 = .ok (.aload_n 0, 1) := by decide +kernel
theorem d_M_street_22 : decode prog_12_method_42_code 22 = .ok (.iconst 0, 1) := by decide +kernel
theorem d_M_street_23 : decode prog_12_method_42_code 23 = .ok (.putfield 239, 3) := by decide +kernel
theorem d_M_street_26 : decode prog_12_method_42_code 26 = .ok (.aload_n 0, 1) := by decide +kernel
theorem d_M_street_27 : decode prog_12_method_42_code 27 = .ok (.invokevirtual 276, 3) := by decide +kernel
theorem d_M_street_30 : decode prog_12_method_42_code 30 = .ok (.ifCond .ne 11, 3) := by decide +kernel
theorem d_M_street_33 : decode prog_12_method_42_code 33 = .ok (.bipush (-2), 2) := by decide +kernel
theorem d_M_street_35 : decode prog_12_method_42_code 35 = .ok (.aload_n 0, 1) := by decide +kernel
theorem d_M_street_36 : decode prog_12_method_42_code 36 = .ok (.getfield 107, 3) := by decide +kernel
theorem d_M_street_39 : decode prog_12_method_42_code 39 = .ok (.isub, 1) := by decide +kernel
theorem d_M_street_40 : decode prog_12_method_42_code 40 = .ok (.ireturn, 1) := by decide +kernel
theorem d_M_street_41 : decode prog_12_method_42_code 41 = .ok (.aload_n 0, 1) := by decide +kernel
theorem d_M_street_42 : decode prog_12_method_42_code 42 = .ok (.getfield 42, 3) := by decide +kernel
theorem d_M_street_45 : decode prog_12_method_42_code 45 = .ok (.bipush 8, 2) := by decide +kernel
theorem d_M_street_47 : decode prog_12_method_42_code 47 = .ok (.iaload, 1) := by decide +kernel
theorem d_M_street_48 : decode prog_12_method_42_code 48 = .ok (.istore_n 1, 1) := by decide +kernel
theorem d_M_street_49 : decode prog_12_method_42_code 49 = .ok (.iconst 0, 1) := by decide +kernel
theorem d_M_street_50 : decode prog_12_method_42_code 50 = .ok (.istore_n 2, 1) := by decide +kernel
theorem d_M_street_51 : decode prog_12_method_42_code 51 = .ok (.iload_n 2, 1) := by decide +kernel
theorem d_M_street_52 : decode prog_12_method_42_code 52 = .ok (.sipush 134, 3) := by decide +kernel
theorem d_M_street_55 : decode prog_12_method_42_code 55 = .ok (.if_icmp .ge 16, 3) := by decide +kernel
theorem d_M_street_58 : decode prog_12_method_42_code 58 = .ok (.aload_n 0, 1) := by decide +kernel
theorem d_M_street_59 : decode prog_12_method_42_code 59 = .ok (.getfield 42, 3) := by decide +kernel
theorem d_M_street_62 : decode prog_12_method_42_code 62 = .ok (.iload_n 2, 1) := by decide +kernel
theorem d_M_street_63 : decode prog_12_method_42_code 63 = .ok (.iconst 0, 1) := by decide +kernel
theorem d_M_street_64 : decode prog_12_method_42_code 64 = .ok (.iastore, 1) := by decide +kernel
theorem d_M_street_65 : decode prog_12_method_42_code 65 = .ok (.iinc 2 1, 3) := by decide +kernel
theorem d_M_street_68 : decode prog_12_method_42_code 68 = .ok (.goto (-17), 3) := by decide +kernel
theorem d_M_street_71 : decode prog_12_method_42_code 71 = .ok (.aload_n 0, 1) := by decide +kernel
theorem d_M_street_72 : decode prog_12_method_42_code 72 = .ok (.getfield 42, 3) := by decide +kernel
theorem d_M_street_75 : decode prog_12_method_42_code 75 = .ok (.bipush 8, 2) := by decide +kernel
theorem d_M_street_77 : decode prog_12_method_42_code 77 = .ok (.iload_n 1, 1) := by decide +kernel
theorem d_M_street_78 : decode prog_12_method_42_code 78 = .ok (.iastore, 1) := by decide +kernel
theorem d_M_street_79 : decode prog_12_method_42_code 79 = .ok (.aload_n 0, 1) := by decide +kernel
theorem d_M_street_80 : decode prog_12_method_42_code 80 = .ok (.getfield 42, 3) := by decide +kernel
theorem d_M_street_83 : decode prog_12_method_42_code 83 = .ok (.iconst 0, 1) := by decide +kernel
theorem d_M_street_84 : decode prog_12_method_42_code 84 = .ok (.aload_n 0, 1) := by decide +kernel
theorem d_M_street_85 : decode prog_12_method_42_code 85 = .ok (.getfield 230, 3) := by decide +kernel
theorem d_M_street_88 : decode prog_12_method_42_code 88 = .ok (.iastore, 1) := by decide +kernel
theorem d_M_street_89 : decode prog_12_method_42_code 89 = .ok (.aload_n 0, 1) := by decide +kernel
theorem d_M_street_90 : decode prog_12_method_42_code 90 = .ok (.getfield 42, 3) := by decide +kernel
theorem d_M_street_93 : decode prog_12_method_42_code 93 = .ok (.iconst 1, 1) := by decide +kernel
theorem d_M_street_94 : decode prog_12_method_42_code 94 = .ok (.aload_n 0, 1) := by decide +kernel
theorem d_M_street_95 : decode prog_12_method_42_code 95 = .ok (.getfield 233, 3) := by decide +kernel
theorem d_M_street_98 : decode prog_12_method_42_code 98 = .ok (.iastore, 1) := by decide +kernel
theorem d_M_street_99 : decode prog_12_method_42_code 99 = .ok (.aload_n 0, 1) := by decide +kernel
theorem d_M_street_100 : decode prog_12_method_42_code 100 = .ok (.getfield 42, 3) := by decide +kernel
theorem d_M_street_103 : decode prog_12_method_42_code 103 = .ok (.iconst 2, 1) := by decide +kernel
theorem d_M_street_104 : decode prog_12_method_42_code 104 = .ok (.aload_n 0, 1) := by decide +kernel
theorem d_M_street_105 : decode prog_12_method_42_code 105 = .ok (.getfield 239, 3) := by decide +kernel
theorem d_M_street_108 : decode prog_12_method_42_code 108 = .ok (.iastore, 1) := by decide +kernel
theorem d_M_street_109 : decode prog_12_method_42_code 109 = .ok (.iconst 0, 1) := by decide +kernel
theorem d_M_street_110 : decode prog_12_method_42_code 110 = .ok (.istore_n 2, 1) := by decide +kernel
theorem d_M_street_111 : decode prog_12_method_42_code 111 = .ok (.iload_n 2, 1) := by decide +kernel
theorem d_M_street_112 : decode prog_12_method_42_code 112 = .ok (.iconst 2, 1) := by decide +kernel
theorem d_M_street_113 : decode prog_12_method_42_code 113 = .ok (.aload_n 0, 1) := by decide +kernel
theorem d_M_street_114 : decode prog_12_method_42_code 114 = .ok (.getfield 230, 3) := by decide +kernel
theorem d_M_street_117 : decode prog_12_method_42_code 117 = .ok (.imul, 1) := by decide +kernel
theorem d_M_street_118 : decode prog_12_method_42_code 118 = .ok (.if_icmp .ge 24, 3) := by decide +kernel
theorem d_M_street_121 : decode prog_12_method_42_code 121 = .ok (.aload_n 0, 1) := by decide +kernel
theorem d_M_street_122 : decode prog_12_method_42_code 122 = .ok (.getfield 42, 3) := by decide +kernel
theorem d_M_street_125 : decode prog_12_method_42_code 125 = .ok (.bipush 10, 2) := by decide +kernel
theorem d_M_street_127 : decode prog_12_method_42_code 127 = .ok (.iload_n 2, 1) := by decide +kernel
theorem d_M_street_128 : decode prog_12_method_42_code 128 = .ok (.iadd, 1) := by decide +kernel
theorem d_M_street_129 : decode prog_12_method_42_code 129 = .ok (.aload_n 0, 1) := by decide +kernel
theorem d_M_street_130 : decode prog_12_method_42_code 130 = .ok (.getfield 26, 3) := by decide +kernel
theorem d_M_street_133 : decode prog_12_method_42_code 133 = .ok (.iload_n 2, 1) := by decide +kernel
theorem d_M_street_134 : decode prog_12_method_42_code 134 = .ok (.iaload, 1) := by decide +kernel
theorem d_M_street_135 : decode prog_12_method_42_code 135 = .ok (.iastore, 1) := by decide +kernel
theorem d_M_street_136 : decode prog_12_method_42_code 136 = .ok (.iinc 2 1, 3) := by decide +kernel
theorem d_M_street_139 : decode prog_12_method_42_code 139 = .ok (.goto (-28), 3) := by decide +kernel
theorem d_M_street_142 : decode prog_12_method_42_code 142 = .ok (.iconst 0, 1) := by decide +kernel
theorem d_M_street_143 : decode prog_12_method_42_code 143 = .ok (.istore_n 2, 1) := by decide +kernel
theorem d_M_street_144 : decode prog_12_method_42_code 144 = .ok (.iload_n 2, 1) := by decide +kernel
theorem d_M_street_145 : decode prog_12_method_42_code 145 = .ok (.iconst 3, 1) := by decide +kernel
theorem d_M_street_146 : decode prog_12_method_42_code 146 = .ok (.aload_n 0, 1) := by decide +kernel
theorem d_M_street_147 : decode prog_12_method_42_code 147 = .ok (.getfield 233, 3) := by decide +kernel
theorem d_M_street_150 : decode prog_12_method_42_code 150 = .ok (.imul, 1) := by decide +kernel
theorem d_M_street_151 : decode prog_12_method_42_code 151 = .ok (.if_icmp .ge 24, 3) := by decide +kernel
theorem d_M_street_154 : decode prog_12_method_42_code 154 = .ok (.aload_n 0, 1) := by decide +kernel
theorem d_M_street_155 : decode prog_12_method_42_code 155 = .ok (.getfield 42, 3) := by decide +kernel
theorem d_M_street_158 : decode prog_12_method_42_code 158 = .ok (.bipush 34, 2) := by decide +kernel
theorem d_M_street_160 : decode prog_12_method_42_code 160 = .ok (.iload_n 2, 1) := by decide +kernel
theorem d_M_street_161 : decode prog_12_method_42_code 161 = .ok (.iadd, 1) := by decide +kernel
theorem d_M_street_162 : decode prog_12_method_42_code 162 = .ok (.aload_n 0, 1) := by decide +kernel
theorem d_M_street_163 : decode prog_12_method_42_code 163 = .ok (.getfield 29, 3) := by decide +kernel
theorem d_M_street_166 : decode prog_12_method_42_code 166 = .ok (.iload_n 2, 1) := by decide +kernel
theorem d_M_street_167 : decode prog_12_method_42_code 167 = .ok (.iaload, 1) := by decide +kernel
theorem d_M_street_168 : decode prog_12_method_42_code 168 = .ok (.iastore, 1) := by decide +kernel
theorem d_M_street_169 : decode prog_12_method_42_code 169 = .ok (.iinc 2 1, 3) := by decide +kernel
theorem d_M_street_172 : decode prog_12_method_42_code 172 = .ok (.goto (-28), 3) := by decide +kernel
theorem d_M_street_175 : decode prog_12_method_42_code 175 = .ok (.iconst 0, 1) := by decide +kernel
theorem d_M_street_176 : decode prog_12_method_42_code 176 = .ok (.istore_n 2, 1) := by decide +kernel
theorem d_M_street_177 : decode prog_12_method_42_code 177 = .ok (.iload_n 2, 1) := by decide +kernel
theorem d_M_street_178 : decode prog_12_method_42_code 178 = .ok (.bipush 12, 2) := by decide +kernel
theorem d_M_street_180 : decode prog_12_method_42_code 180 = .ok (.if_icmp .ge 16, 3) := by decide +kernel
theorem d_M_street_183 : decode prog_12_method_42_code 183 = .ok (.aload_n 0, 1) := by decide +kernel
theorem d_M_street_184 : decode prog_12_method_42_code 184 = .ok (.getfield 45, 3) := by decide +kernel
theorem d_M_street_187 : decode prog_12_method_42_code 187 = .ok (.iload_n 2, 1) := by decide +kernel
theorem d_M_street_188 : decode prog_12_method_42_code 188 = .ok (.lconst 0, 1) := by decide +kernel
theorem d_M_street_189 : decode prog_12_method_42_code 189 = .ok (.lastore, 1) := by decide +kernel
theorem d_M_street_190 : decode prog_12_method_42_code 190 = .ok (.iinc 2 1, 3) := by decide +kernel
theorem d_M_street_193 : decode prog_12_method_42_code 193 = .ok (.goto (-16), 3) := by decide +kernel
theorem d_M_street_196 : decode prog_12_method_42_code 196 = .ok (.aload_n 0, 1) := by decide +kernel
theorem d_M_street_197 : decode prog_12_method_42_code 197 = .ok (.invokevirtual 279, 3) := by decide +kernel
theorem d_M_street_200 : decode prog_12_method_42_code 200 = .ok (.aload_n 0, 1) := by decide +kernel
theorem d_M_street_201 : decode prog_12_method_42_code 201 = .ok (.getfield 230, 3) := by decide +kernel
theorem d_M_street_204 : decode prog_12_method_42_code 204 = .ok (.ireturn, 1) := by decide +kernel
theorem d_M_isRule_0 : decode prog_12_method_43_code 0 = .ok (.iload_n 1, 1) := by decide +kernel
theorem d_M_isRule_1 : decode prog_12_method_43_code 1 = .ok (.ifCond .lt 15, 3) := by decide +kernel
theorem d_M_isRule_4 : decode prog_12_method_43_code 4 = .ok (.iload_n 1, 1) := by decide +kernel
theorem d_M_isRule_5 : decode prog_12_method_43_code 5 = .ok (.aload_n 0, 1) := by decide +kernel
theorem d_M_isRule_6 : decode prog_12_method_43_code 6 = .ok (.getfield 273, 3) := by decide +kernel
theorem d_M_isRule_9 : decode prog_12_method_43_code 9 = .ok (.if_icmp .ge 7, 3) := by decide +kernel
theorem d_M_isRule_12 : decode prog_12_method_43_code 12 = .ok (.iconst 1, 1) := by decide +kernel
theorem d_M_isRule_13 : decode prog_12_method_43_code 13 = .ok (.goto 4, 3) := by decide +kernel
theorem d_M_isRule_16 : decode prog_12_method_43_code 16 = .ok (.iconst 0, 1) := by decide +kernel
theorem d_M_isRule_17 : decode prog_12_method_43_code 17 = .ok (.ireturn, 1) := by decide +kernel
theorem d_M_heaps_0 : decode prog_12_method_44_code 0 = .ok (.aload_n 0, 1) := by decide +kernel
theorem d_M_heaps_1 : decode prog_12_method_44_code 1 = .ok (.getfield 35, 3) := by decide +kernel
theorem d_M_heaps_4 : decode prog_12_method_44_code 4 = .ok (.aload_n 0, 1) := by decide +kernel
theorem d_M_heaps_5 : decode prog_12_method_44_code 5 = .ok (.getfield 282, 3) := by decide +kernel
theorem d_M_heaps_8 : decode prog_12_method_44_code 8 = .ok (.lload_n 1, 1) := by decide +kernel
theorem d_M_heaps_9 : decode prog_12_method_44_code 9 = .ok (.lastore, 1) := by decide +kernel
theorem d_M_heaps_10 : decode prog_12_method_44_code 10 = .ok (.aload_n 0, 1) := by decide +kernel
theorem d_M_heaps_11 : decode prog_12_method_44_code 11 = .ok (.dup, 1) := by decide +kernel
theorem d_M_heaps_12 : decode prog_12_method_44_code 12 = .ok (.getfield 282, 3) := by decide +kernel
theorem d_M_heaps_15 : decode prog_12_method_44_code 15 = .ok (.iconst 1, 1) := by decide +kernel
theorem d_M_heaps_16 : decode prog_12_method_44_code 16 = .ok (.iadd, 1) := by decide +kernel
theorem d_M_heaps_17 : decode prog_12_method_44_code 17 = .ok (.putfield 282, 3) := by decide +kernel
theorem d_M_heaps_20 : decode prog_12_method_44_code 20 = .ok (.return_, 1) := by decide +kernel
theorem d_M_pop_0 : decode prog_12_method_45_code 0 = .ok (.aload_n 0, 1) := by decide +kernel
theorem d_M_pop_1 : decode prog_12_method_45_code 1 = .ok (.dup, 1) := by decide +kernel
theorem d_M_pop_2 : decode prog_12_method_45_code 2 = .ok (.getfield 282, 3) := by decide +kernel
theorem d_M_pop_5 : decode prog_12_method_45_code 5 = .ok (.iconst 1, 1) := by decide +kernel
theorem d_M_pop_6 : decode prog_12_method_45_code 6 = .ok (.isub, 1) := by decide +kernel
theorem d_M_pop_7 : decode prog_12_method_45_code 7 = .ok (.putfield 282, 3) := by decide +kernel
theorem d_M_pop_10 : decode prog_12_method_45_code 10 = .ok (.aload_n 0, 1) := by decide +kernel
theorem d_M_pop_11 : decode prog_12_method_45_code 11 = .ok (.getfield 35, 3) := by decide +kernel
theorem d_M_pop_14 : decode prog_12_method_45_code 14 = .ok (.aload_n 0, 1) := by decide +kernel
theorem d_M_pop_15 : decode prog_12_method_45_code 15 = .ok (.getfield 282, 3) := by decide +kernel
theorem d_M_pop_18 : decode prog_12_method_45_code 18 = .ok (.laload, 1) := by decide +kernel
theorem d_M_pop_19 : decode prog_12_method_45_code 19 = .ok (.lreturn, 1) := by decide +kernel
theorem d_M_one_0 : decode prog_12_method_46_code 0 = .ok (.iload_n 0, 1) := by decide +kernel
theorem d_M_one_1 : decode prog_12_method_46_code 1 = .ok (.tableswitch 149 2 12 #[59, 63, 67, 71, 85, 97, 109, 121, 133, 149, 145], 59) := by decide +kernel
theorem d_M_one_60 : decode prog_12_method_46_code 60 = .ok (.lload_n 1, 1) := by decide +kernel
theorem d_M_one_61 : decode prog_12_method_46_code 61 = .ok (.lload_n 3, 1) := by decide +kernel
theorem d_M_one_62 : decode prog_12_method_46_code 62 = .ok (.ladd, 1) := by decide +kernel
theorem d_M_one_63 : decode prog_12_method_46_code 63 = .ok (.lreturn, 1) := by decide +kernel
theorem d_M_one_64 : decode prog_12_method_46_code 64 = .ok (.lload_n 1, 1) := by decide +kernel
theorem d_M_one_65 : decode prog_12_method_46_code 65 = .ok (.lload_n 3, 1) := by decide +kernel
theorem d_M_one_66 : decode prog_12_method_46_code 66 = .ok (.lsub, 1) := by decide +kernel
theorem d_M_one_67 : decode prog_12_method_46_code 67 = .ok (.lreturn, 1) := by decide +kernel
theorem d_M_one_68 : decode prog_12_method_46_code 68 = .ok (.lload_n 1, 1) := by decide +kernel
theorem d_M_one_69 : decode prog_12_method_46_code 69 = .ok (.lload_n 3, 1) := by decide +kernel
theorem d_M_one_70 : decode prog_12_method_46_code 70 = .ok (.lmul, 1) := by decide +kernel
theorem d_M_one_71 : decode prog_12_method_46_code 71 = .ok (.lreturn, 1) := by decide +kernel
theorem d_M_one_72 : decode prog_12_method_46_code 72 = .ok (.lload_n 3, 1) := by decide +kernel
theorem d_M_one_73 : decode prog_12_method_46_code 73 = .ok (.lconst 0, 1) := by decide +kernel
theorem d_M_one_74 : decode prog_12_method_46_code 74 = .ok (.lcmp, 1) := by decide +kernel
theorem d_M_one_75 : decode prog_12_method_46_code 75 = .ok (.ifCond .ne 7, 3) := by decide +kernel
theorem d_M_one_78 : decode prog_12_method_46_code 78 = .ok (.lconst 0, 1) := by decide +kernel
theorem d_M_one_79 : decode prog_12_method_46_code 79 = .ok (.goto 6, 3) := by decide +kernel
theorem d_M_one_82 : decode prog_12_method_46_code 82 = .ok (.lload_n 1, 1) := by decide +kernel
theorem d_M_one_83 : decode prog_12_method_46_code 83 = .ok (.lload_n 3, 1) := by decide +kernel
theorem d_M_one_84 : decode prog_12_method_46_code 84 = .ok (.ldiv, 1) := by decide +kernel
theorem d_M_one_85 : decode prog_12_method_46_code 85 = .ok (.lreturn, 1) := by decide +kernel
theorem d_M_one_86 : decode prog_12_method_46_code 86 = .ok (.lload_n 1, 1) := by decide +kernel
theorem d_M_one_87 : decode prog_12_method_46_code 87 = .ok (.lload_n 3, 1) := by decide +kernel
theorem d_M_one_88 : decode prog_12_method_46_code 88 = .ok (.lcmp, 1) := by decide +kernel
theorem d_M_one_89 : decode prog_12_method_46_code 89 = .ok (.ifCond .ge 7, 3) := by decide +kernel
theorem d_M_one_92 : decode prog_12_method_46_code 92 = .ok (.lconst 1, 1) := by decide +kernel
theorem d_M_one_93 : decode prog_12_method_46_code 93 = .ok (.goto 4, 3) := by decide +kernel
theorem d_M_one_96 : decode prog_12_method_46_code 96 = .ok (.lconst 0, 1) := by decide +kernel
theorem d_M_one_97 : decode prog_12_method_46_code 97 = .ok (.lreturn, 1) := by decide +kernel
theorem d_M_one_98 : decode prog_12_method_46_code 98 = .ok (.lload_n 1, 1) := by decide +kernel
theorem d_M_one_99 : decode prog_12_method_46_code 99 = .ok (.lload_n 3, 1) := by decide +kernel
theorem d_M_one_100 : decode prog_12_method_46_code 100 = .ok (.lcmp, 1) := by decide +kernel
theorem d_M_one_101 : decode prog_12_method_46_code 101 = .ok (.ifCond .gt 7, 3) := by decide +kernel
theorem d_M_one_104 : decode prog_12_method_46_code 104 = .ok (.lconst 1, 1) := by decide +kernel
theorem d_M_one_105 : decode prog_12_method_46_code 105 = .ok (.goto 4, 3) := by decide +kernel
theorem d_M_one_108 : decode prog_12_method_46_code 108 = .ok (.lconst 0, 1) := by decide +kernel
theorem d_M_one_109 : decode prog_12_method_46_code 109 = .ok (.lreturn, 1) := by decide +kernel
theorem d_M_one_110 : decode prog_12_method_46_code 110 = .ok (.lload_n 1, 1) := by decide +kernel
theorem d_M_one_111 : decode prog_12_method_46_code 111 = .ok (.lload_n 3, 1) := by decide +kernel
theorem d_M_one_112 : decode prog_12_method_46_code 112 = .ok (.lcmp, 1) := by decide +kernel
theorem d_M_one_113 : decode prog_12_method_46_code 113 = .ok (.ifCond .ne 7, 3) := by decide +kernel
theorem d_M_one_116 : decode prog_12_method_46_code 116 = .ok (.lconst 1, 1) := by decide +kernel
theorem d_M_one_117 : decode prog_12_method_46_code 117 = .ok (.goto 4, 3) := by decide +kernel
theorem d_M_one_120 : decode prog_12_method_46_code 120 = .ok (.lconst 0, 1) := by decide +kernel
theorem d_M_one_121 : decode prog_12_method_46_code 121 = .ok (.lreturn, 1) := by decide +kernel
theorem d_M_one_122 : decode prog_12_method_46_code 122 = .ok (.lload_n 1, 1) := by decide +kernel
theorem d_M_one_123 : decode prog_12_method_46_code 123 = .ok (.lload_n 3, 1) := by decide +kernel
theorem d_M_one_124 : decode prog_12_method_46_code 124 = .ok (.lcmp, 1) := by decide +kernel
theorem d_M_one_125 : decode prog_12_method_46_code 125 = .ok (.ifCond .lt 7, 3) := by decide +kernel
theorem d_M_one_128 : decode prog_12_method_46_code 128 = .ok (.lconst 1, 1) := by decide +kernel
theorem d_M_one_129 : decode prog_12_method_46_code 129 = .ok (.goto 4, 3) := by decide +kernel
theorem d_M_one_132 : decode prog_12_method_46_code 132 = .ok (.lconst 0, 1) := by decide +kernel
theorem d_M_one_133 : decode prog_12_method_46_code 133 = .ok (.lreturn, 1) := by decide +kernel
theorem d_M_one_134 : decode prog_12_method_46_code 134 = .ok (.lload_n 1, 1) := by decide +kernel
theorem d_M_one_135 : decode prog_12_method_46_code 135 = .ok (.lload_n 3, 1) := by decide +kernel
theorem d_M_one_136 : decode prog_12_method_46_code 136 = .ok (.lcmp, 1) := by decide +kernel
theorem d_M_one_137 : decode prog_12_method_46_code 137 = .ok (.ifCond .le 7, 3) := by decide +kernel
theorem d_M_one_140 : decode prog_12_method_46_code 140 = .ok (.lconst 1, 1) := by decide +kernel
theorem d_M_one_141 : decode prog_12_method_46_code 141 = .ok (.goto 4, 3) := by decide +kernel
theorem d_M_one_144 : decode prog_12_method_46_code 144 = .ok (.lconst 0, 1) := by decide +kernel
theorem d_M_one_145 : decode prog_12_method_46_code 145 = .ok (.lreturn, 1) := by decide +kernel
theorem d_M_one_146 : decode prog_12_method_46_code 146 = .ok (.lload_n 1, 1) := by decide +kernel
theorem d_M_one_147 : decode prog_12_method_46_code 147 = .ok (.lload_n 3, 1) := by decide +kernel
theorem d_M_one_148 : decode prog_12_method_46_code 148 = .ok (.land, 1) := by decide +kernel
theorem d_M_one_149 : decode prog_12_method_46_code 149 = .ok (.lreturn, 1) := by decide +kernel
theorem d_M_one_150 : decode prog_12_method_46_code 150 = .ok (.lload_n 1, 1) := by decide +kernel
theorem d_M_one_151 : decode prog_12_method_46_code 151 = .ok (.lload_n 3, 1) := by decide +kernel
theorem d_M_one_152 : decode prog_12_method_46_code 152 = .ok (.lor, 1) := by decide +kernel
theorem d_M_one_153 : decode prog_12_method_46_code 153 = .ok (.lreturn, 1) := by decide +kernel
theorem d_M_reckons_0 : decode prog_12_method_47_code 0 = .ok (.aload_n 0, 1) := by decide +kernel
theorem d_M_reckons_1 : decode prog_12_method_47_code 1 = .ok (.iconst 0, 1) := by decide +kernel
theorem d_M_reckons_2 : decode prog_12_method_47_code 2 = .ok (.putfield 282, 3) := by decide +kernel
theorem d_M_reckons_5 : decode prog_12_method_47_code 5 = .ok (.iload_n 2, 1) := by decide +kernel
theorem d_M_reckons_6 : decode prog_12_method_47_code 6 = .ok (.istore 4, 2) := by decide +kernel
theorem d_M_reckons_8 : decode prog_12_method_47_code 8 = .ok (.iload 4, 2) := by decide +kernel
theorem d_M_reckons_10 : decode prog_12_method_47_code 10 = .ok (.iload_n 3, 1) := by decide +kernel
theorem d_M_reckons_11 : decode prog_12_method_47_code 11 = .ok (.if_icmp .ge 124, 3) := by decide +kernel
theorem d_M_reckons_14 : decode prog_12_method_47_code 14 = .ok (.aload_n 0, 1) := by decide +kernel
theorem d_M_reckons_15 : decode prog_12_method_47_code 15 = .ok (.getfield 13, 3) := by decide +kernel
theorem d_M_reckons_18 : decode prog_12_method_47_code 18 = .ok (.sipush 400, 3) := by decide +kernel
theorem d_M_reckons_21 : decode prog_12_method_47_code 21 = .ok (.iload_n 1, 1) := by decide +kernel
theorem d_M_reckons_22 : decode prog_12_method_47_code 22 = .ok (.imul, 1) := by decide +kernel
theorem d_M_reckons_23 : decode prog_12_method_47_code 23 = .ok (.iload 4, 2) := by decide +kernel
theorem d_M_reckons_25 : decode prog_12_method_47_code 25 = .ok (.iadd, 1) := by decide +kernel
theorem d_M_reckons_26 : decode prog_12_method_47_code 26 = .ok (.iaload, 1) := by decide +kernel
theorem d_M_reckons_27 : decode prog_12_method_47_code 27 = .ok (.bipush 15, 2) := by decide +kernel
theorem d_M_reckons_29 : decode prog_12_method_47_code 29 = .ok (.iand, 1) := by decide +kernel
theorem d_M_reckons_30 : decode prog_12_method_47_code 30 = .ok (.istore 5, 2) := by decide +kernel
theorem d_M_reckons_32 : decode prog_12_method_47_code 32 = .ok (.aload_n 0, 1) := by decide +kernel
theorem d_M_reckons_33 : decode prog_12_method_47_code 33 = .ok (.getfield 13, 3) := by decide +kernel
theorem d_M_reckons_36 : decode prog_12_method_47_code 36 = .ok (.sipush 400, 3) := by decide +kernel
theorem d_M_reckons_39 : decode prog_12_method_47_code 39 = .ok (.iload_n 1, 1) := by decide +kernel
theorem d_M_reckons_40 : decode prog_12_method_47_code 40 = .ok (.imul, 1) := by decide +kernel
theorem d_M_reckons_41 : decode prog_12_method_47_code 41 = .ok (.iload 4, 2) := by decide +kernel
theorem d_M_reckons_43 : decode prog_12_method_47_code 43 = .ok (.iadd, 1) := by decide +kernel
theorem d_M_reckons_44 : decode prog_12_method_47_code 44 = .ok (.iaload, 1) := by decide +kernel
theorem d_M_reckons_45 : decode prog_12_method_47_code 45 = .ok (.iconst 4, 1) := by decide +kernel
theorem d_M_reckons_46 : decode prog_12_method_47_code 46 = .ok (.ishr, 1) := by decide +kernel
theorem d_M_reckons_47 : decode prog_12_method_47_code 47 = .ok (.istore 6, 2) := by decide +kernel
theorem d_M_reckons_49 : decode prog_12_method_47_code 49 = .ok (.iload 5, 2) := by decide +kernel
theorem d_M_reckons_51 : decode prog_12_method_47_code 51 = .ok (.ifCond .ne 13, 3) := by decide +kernel
theorem d_M_reckons_54 : decode prog_12_method_47_code 54 = .ok (.aload_n 0, 1) := by decide +kernel
theorem d_M_reckons_55 : decode prog_12_method_47_code 55 = .ok (.iload 6, 2) := by decide +kernel
theorem d_M_reckons_57 : decode prog_12_method_47_code 57 = .ok (.i2l, 1) := by decide +kernel
theorem d_M_reckons_58 : decode prog_12_method_47_code 58 = .ok (.invokevirtual 285, 3) := by decide +kernel
theorem d_M_reckons_61 : decode prog_12_method_47_code 61 = .ok (.goto 68, 3) := by decide +kernel
theorem d_M_reckons_64 : decode prog_12_method_47_code 64 = .ok (.iload 5, 2) := by decide +kernel
theorem d_M_reckons_66 : decode prog_12_method_47_code 66 = .ok (.iconst 1, 1) := by decide +kernel
theorem d_M_reckons_67 : decode prog_12_method_47_code 67 = .ok (.if_icmp .ne 17, 3) := by decide +kernel
theorem d_M_reckons_70 : decode prog_12_method_47_code 70 = .ok (.aload_n 0, 1) := by decide +kernel
theorem d_M_reckons_71 : decode prog_12_method_47_code 71 = .ok (.aload_n 0, 1) := by decide +kernel
theorem d_M_reckons_72 : decode prog_12_method_47_code 72 = .ok (.getfield 39, 3) := by decide +kernel
theorem d_M_reckons_75 : decode prog_12_method_47_code 75 = .ok (.iload 6, 2) := by decide +kernel
theorem d_M_reckons_77 : decode prog_12_method_47_code 77 = .ok (.laload, 1) := by decide +kernel
theorem d_M_reckons_78 : decode prog_12_method_47_code 78 = .ok (.invokevirtual 285, 3) := by decide +kernel
theorem d_M_reckons_81 : decode prog_12_method_47_code 81 = .ok (.goto 48, 3) := by decide +kernel
theorem d_M_reckons_84 : decode prog_12_method_47_code 84 = .ok (.iload 5, 2) := by decide +kernel
theorem d_M_reckons_86 : decode prog_12_method_47_code 86 = .ok (.bipush 11, 2) := by decide +kernel
theorem d_M_reckons_88 : decode prog_12_method_47_code 88 = .ok (.if_icmp .ne 16, 3) := by decide +kernel
theorem d_M_reckons_91 : decode prog_12_method_47_code 91 = .ok (.aload_n 0, 1) := by decide +kernel
theorem d_M_reckons_92 : decode prog_12_method_47_code 92 = .ok (.lconst 1, 1) := by decide +kernel
theorem d_M_reckons_93 : decode prog_12_method_47_code 93 = .ok (.aload_n 0, 1) := by decide +kernel
theorem d_M_reckons_94 : decode prog_12_method_47_code 94 = .ok (.invokevirtual 289, 3) := by decide +kernel
theorem d_M_reckons_97 : decode prog_12_method_47_code 97 = .ok (.lsub, 1) := by decide +kernel
theorem d_M_reckons_98 : decode prog_12_method_47_code 98 = .ok (.invokevirtual 285, 3) := by decide +kernel
theorem d_M_reckons_101 : decode prog_12_method_47_code 101 = .ok (.goto 28, 3) := by decide +kernel
theorem d_M_reckons_104 : decode prog_12_method_47_code 104 = .ok (.aload_n 0, 1) := by decide +kernel
theorem d_M_reckons_105 : decode prog_12_method_47_code 105 = .ok (.invokevirtual 289, 3) := by decide +kernel
theorem d_M_reckons_108 : decode prog_12_method_47_code 108 = .ok (.lstore 7, 2) := by decide +kernel
theorem d_M_reckons_110 : decode prog_12_method_47_code 110 = .ok (.aload_n 0, 1) := by decide +kernel
theorem d_M_reckons_111 : decode prog_12_method_47_code 111 = .ok (.invokevirtual 289, 3) := by decide +kernel
theorem d_M_reckons_114 : decode prog_12_method_47_code 114 = .ok (.lstore 9, 2) := by decide +kernel
theorem d_M_reckons_116 : decode prog_12_method_47_code 116 = .ok (.aload_n 0, 1) := by decide +kernel
theorem d_M_reckons_117 : decode prog_12_method_47_code 117 = .ok (.iload 5, 2) := by decide +kernel
theorem d_M_reckons_119 : decode prog_12_method_47_code 119 = .ok (.lload 9, 2) := by decide +kernel
theorem d_M_reckons_121 : decode prog_12_method_47_code 121 = .ok (.lload 7, 2) := by decide +kernel
theorem d_M_reckons_123 : decode prog_12_method_47_code 123 = .ok (.invokestatic 293, 3) := by decide +kernel
theorem d_M_reckons_126 : decode prog_12_method_47_code 126 = .ok (.invokevirtual 285, 3) := by decide +kernel
theorem d_M_reckons_129 : decode prog_12_method_47_code 129 = .ok (.iinc 4 1, 3) := by decide +kernel
theorem d_M_reckons_132 : decode prog_12_method_47_code 132 = .ok (.goto (-124), 3) := by decide +kernel
theorem d_M_reckons_135 : decode prog_12_method_47_code 135 = .ok (.aload_n 0, 1) := by decide +kernel
theorem d_M_reckons_136 : decode prog_12_method_47_code 136 = .ok (.invokevirtual 289, 3) := by decide +kernel
theorem d_M_reckons_139 : decode prog_12_method_47_code 139 = .ok (.lreturn, 1) := by decide +kernel
theorem d_M_isDoor_0 : decode prog_12_method_48_code 0 = .ok (.iload_n 1, 1) := by decide +kernel
theorem d_M_isDoor_1 : decode prog_12_method_48_code 1 = .ok (.ifCond .lt 17, 3) := by decide +kernel
theorem d_M_isDoor_4 : decode prog_12_method_48_code 4 = .ok (.iload_n 1, 1) := by decide +kernel
theorem d_M_isDoor_5 : decode prog_12_method_48_code 5 = .ok (.aload_n 0, 1) := by decide +kernel
theorem d_M_isDoor_6 : decode prog_12_method_48_code 6 = .ok (.getfield 42, 3) := by decide +kernel
theorem d_M_isDoor_9 : decode prog_12_method_48_code 9 = .ok (.iconst 0, 1) := by decide +kernel
theorem d_M_isDoor_10 : decode prog_12_method_48_code 10 = .ok (.iaload, 1) := by decide +kernel
theorem d_M_isDoor_11 : decode prog_12_method_48_code 11 = .ok (.if_icmp .ge 7, 3) := by decide +kernel
theorem d_M_isDoor_14 : decode prog_12_method_48_code 14 = .ok (.iconst 1, 1) := by decide +kernel
theorem d_M_isDoor_15 : decode prog_12_method_48_code 15 = .ok (.goto 4, 3) := by decide +kernel
theorem d_M_isDoor_18 : decode prog_12_method_48_code 18 = .ok (.iconst 0, 1) := by decide +kernel
theorem d_M_isDoor_19 : decode prog_12_method_48_code 19 = .ok (.ireturn, 1) := by decide +kernel
theorem d_M_isJoin_0 : decode prog_12_method_49_code 0 = .ok (.iload_n 1, 1) := by decide +kernel
theorem d_M_isJoin_1 : decode prog_12_method_49_code 1 = .ok (.ifCond .lt 17, 3) := by decide +kernel
theorem d_M_isJoin_4 : decode prog_12_method_49_code 4 = .ok (.iload_n 1, 1) := by decide +kernel
theorem d_M_isJoin_5 : decode prog_12_method_49_code 5 = .ok (.aload_n 0, 1) := by decide +kernel
theorem d_M_isJoin_6 : decode prog_12_method_49_code 6 = .ok (.getfield 42, 3) := by decide +kernel
theorem d_M_isJoin_9 : decode prog_12_method_49_code 9 = .ok (.iconst 1, 1) := by decide +kernel
theorem d_M_isJoin_10 : decode prog_12_method_49_code 10 = .ok (.iaload, 1) := by decide +kernel
theorem d_M_isJoin_11 : decode prog_12_method_49_code 11 = .ok (.if_icmp .ge 7, 3) := by decide +kernel
theorem d_M_isJoin_14 : decode prog_12_method_49_code 14 = .ok (.iconst 1, 1) := by decide +kernel
theorem d_M_isJoin_15 : decode prog_12_method_49_code 15 = .ok (.goto 4, 3) := by decide +kernel
theorem d_M_isJoin_18 : decode prog_12_method_49_code 18 = .ok (.iconst 0, 1) := by decide +kernel
theorem d_M_isJoin_19 : decode prog_12_method_49_code 19 = .ok (.ireturn, 1) := by decide +kernel
theorem d_M_teeth_0 : decode prog_12_method_50_code 0 = .ok (.aload_n 0, 1) := by decide +kernel
theorem d_M_teeth_1 : decode prog_12_method_50_code 1 = .ok (.getfield 42, 3) := by decide +kernel
theorem d_M_teeth_4 : decode prog_12_method_50_code 4 = .ok (.bipush 10, 2) := by decide +kernel
theorem d_M_teeth_6 : decode prog_12_method_50_code 6 = .ok (.iconst 2, 1) := by decide +kernel
theorem d_M_teeth_7 : decode prog_12_method_50_code 7 = .ok (.iload_n 1, 1) := by decide +kernel
theorem d_M_teeth_8 : decode prog_12_method_50_code 8 = .ok (.imul, 1) := by decide +kernel
theorem d_M_teeth_9 : decode prog_12_method_50_code 9 = .ok (.iadd, 1) := by decide +kernel
theorem d_M_teeth_10 : decode prog_12_method_50_code 10 = .ok (.iaload, 1) := by decide +kernel
theorem d_M_teeth_11 : decode prog_12_method_50_code 11 = .ok (.ireturn, 1) := by decide +kernel
theorem d_M_span_0 : decode prog_12_method_51_code 0 = .ok (.aload_n 0, 1) := by decide +kernel
theorem d_M_span_1 : decode prog_12_method_51_code 1 = .ok (.getfield 42, 3) := by decide +kernel
theorem d_M_span_4 : decode prog_12_method_51_code 4 = .ok (.bipush 10, 2) := by decide +kernel
theorem d_M_span_6 : decode prog_12_method_51_code 6 = .ok (.iconst 2, 1) := by decide +kernel
theorem d_M_span_7 : decode prog_12_method_51_code 7 = .ok (.iload_n 1, 1) := by decide +kernel
theorem d_M_span_8 : decode prog_12_method_51_code 8 = .ok (.imul, 1) := by decide +kernel
theorem d_M_span_9 : decode prog_12_method_51_code 9 = .ok (.iadd, 1) := by decide +kernel
theorem d_M_span_10 : decode prog_12_method_51_code 10 = .ok (.iconst 1, 1) := by decide +kernel
theorem d_M_span_11 : decode prog_12_method_51_code 11 = .ok (.iadd, 1) := by decide +kernel
theorem d_M_span_12 : decode prog_12_method_51_code 12 = .ok (.iaload, 1) := by decide +kernel
theorem d_M_span_13 : decode prog_12_method_51_code 13 = .ok (.ireturn, 1) := by decide +kernel
theorem d_M_joinOf_0 : decode prog_12_method_52_code 0 = .ok (.aload_n 0, 1) := by decide +kernel
theorem d_M_joinOf_1 : decode prog_12_method_52_code 1 = .ok (.getfield 42, 3) := by decide +kernel
theorem d_M_joinOf_4 : decode prog_12_method_52_code 4 = .ok (.bipush 34, 2) := by decide +kernel
theorem d_M_joinOf_6 : decode prog_12_method_52_code 6 = .ok (.iconst 3, 1) := by decide +kernel
theorem d_M_joinOf_7 : decode prog_12_method_52_code 7 = .ok (.iload_n 1, 1) := by decide +kernel
theorem d_M_joinOf_8 : decode prog_12_method_52_code 8 = .ok (.imul, 1) := by decide +kernel
theorem d_M_joinOf_9 : decode prog_12_method_52_code 9 = .ok (.iadd, 1) := by decide +kernel
theorem d_M_joinOf_10 : decode prog_12_method_52_code 10 = .ok (.iload_n 2, 1) := by decide +kernel
theorem d_M_joinOf_11 : decode prog_12_method_52_code 11 = .ok (.iadd, 1) := by decide +kernel
theorem d_M_joinOf_12 : decode prog_12_method_52_code 12 = .ok (.iaload, 1) := by decide +kernel
theorem d_M_joinOf_13 : decode prog_12_method_52_code 13 = .ok (.ireturn, 1) := by decide +kernel
theorem d_M_isSet_0 : decode prog_12_method_53_code 0 = .ok (.iload_n 1, 1) := by decide +kernel
theorem d_M_isSet_1 : decode prog_12_method_53_code 1 = .ok (.ifCond .lt 19, 3) := by decide +kernel
theorem d_M_isSet_4 : decode prog_12_method_53_code 4 = .ok (.iload_n 1, 1) := by decide +kernel
theorem d_M_isSet_5 : decode prog_12_method_53_code 5 = .ok (.iconst 1, 1) := by decide +kernel
theorem d_M_isSet_6 : decode prog_12_method_53_code 6 = .ok (.aload_n 0, 1) := by decide +kernel
theorem d_M_isSet_7 : decode prog_12_method_53_code 7 = .ok (.getfield 42, 3) := by decide +kernel
theorem d_M_isSet_10 : decode prog_12_method_53_code 10 = .ok (.iconst 0, 1) := by decide +kernel
theorem d_M_isSet_11 : decode prog_12_method_53_code 11 = .ok (.iaload, 1) := by decide +kernel
theorem d_M_isSet_12 : decode prog_12_method_53_code 12 = .ok (.ishl, 1) := by decide +kernel
theorem d_M_isSet_13 : decode prog_12_method_53_code 13 = .ok (.if_icmp .ge 7, 3) := by decide +kernel
theorem d_M_isSet_16 : decode prog_12_method_53_code 16 = .ok (.iconst 1, 1) := by decide +kernel
theorem d_M_isSet_17 : decode prog_12_method_53_code 17 = .ok (.goto 4, 3) := by decide +kernel
theorem d_M_isSet_20 : decode prog_12_method_53_code 20 = .ok (.iconst 0, 1) := by decide +kernel
theorem d_M_isSet_21 : decode prog_12_method_53_code 21 = .ok (.ireturn, 1) := by decide +kernel
theorem d_M_above_0 : decode prog_12_method_54_code 0 = .ok (.aload_n 0, 1) := by decide +kernel
theorem d_M_above_1 : decode prog_12_method_54_code 1 = .ok (.iload_n 1, 1) := by decide +kernel
theorem d_M_above_2 : decode prog_12_method_54_code 2 = .ok (.iconst 2, 1) := by decide +kernel
theorem d_M_above_3 : decode prog_12_method_54_code 3 = .ok (.invokevirtual 297, 3) := by decide +kernel
theorem d_M_above_6 : decode prog_12_method_54_code 6 = .ok (.iconst 2, 1) := by decide +kernel
theorem d_M_above_7 : decode prog_12_method_54_code 7 = .ok (.if_icmp .ne 12, 3) := by decide +kernel
theorem d_M_above_10 : decode prog_12_method_54_code 10 = .ok (.aload_n 0, 1) := by decide +kernel
theorem d_M_above_11 : decode prog_12_method_54_code 11 = .ok (.iload_n 2, 1) := by decide +kernel
theorem d_M_above_12 : decode prog_12_method_54_code 12 = .ok (.invokevirtual 301, 3) := by decide +kernel
theorem d_M_above_15 : decode prog_12_method_54_code 15 = .ok (.i2l, 1) := by decide +kernel
theorem d_M_above_16 : decode prog_12_method_54_code 16 = .ok (.goto 19, 3) := by decide +kernel
theorem d_M_above_19 : decode prog_12_method_54_code 19 = .ok (.aload_n 0, 1) := by decide +kernel
theorem d_M_above_20 : decode prog_12_method_54_code 20 = .ok (.iload_n 1, 1) := by decide +kernel
theorem d_M_above_21 : decode prog_12_method_54_code 21 = .ok (.iconst 2, 1) := by decide +kernel
theorem d_M_above_22 : decode prog_12_method_54_code 22 = .ok (.invokevirtual 297, 3) := by decide +kernel
theorem d_M_above_25 : decode prog_12_method_54_code 25 = .ok (.ifCond .ne 9, 3) := by decide +kernel
theorem d_M_above_28 : decode prog_12_method_54_code 28 = .ok (.ldc2_w 304, 3) := by decide +kernel
theorem d_M_above_31 : decode prog_12_method_54_code 31 = .ok (.goto 4, 3) := by decide +kernel
theorem d_M_above_34 : decode prog_12_method_54_code 34 = .ok (.lconst 1, 1) := by decide +kernel
theorem d_M_above_35 : decode prog_12_method_54_code 35 = .ok (.lreturn, 1) := by decide +kernel
theorem d_M_below_0 : decode prog_12_method_55_code 0 = .ok (.aload_n 0, 1) := by decide +kernel
theorem d_M_below_1 : decode prog_12_method_55_code 1 = .ok (.iload_n 1, 1) := by decide +kernel
theorem d_M_below_2 : decode prog_12_method_55_code 2 = .ok (.iconst 2, 1) := by decide +kernel
theorem d_M_below_3 : decode prog_12_method_55_code 3 = .ok (.invokevirtual 297, 3) := by decide +kernel
theorem d_M_below_6 : decode prog_12_method_55_code 6 = .ok (.iconst 2, 1) := by decide +kernel
theorem d_M_below_7 : decode prog_12_method_55_code 7 = .ok (.if_icmp .ne 12, 3) := by decide +kernel
theorem d_M_below_10 : decode prog_12_method_55_code 10 = .ok (.aload_n 0, 1) := by decide +kernel
theorem d_M_below_11 : decode prog_12_method_55_code 11 = .ok (.iload_n 2, 1) := by decide +kernel
theorem d_M_below_12 : decode prog_12_method_55_code 12 = .ok (.invokevirtual 301, 3) := by decide +kernel
theorem d_M_below_15 : decode prog_12_method_55_code 15 = .ok (.i2l, 1) := by decide +kernel
theorem d_M_below_16 : decode prog_12_method_55_code 16 = .ok (.goto 4, 3) := by decide +kernel
theorem d_M_below_19 : decode prog_12_method_55_code 19 = .ok (.lconst 1, 1) := by decide +kernel
theorem d_M_below_20 : decode prog_12_method_55_code 20 = .ok (.lreturn, 1) := by decide +kernel
theorem d_M_isTurnedAlike_0 : decode prog_12_method_56_code 0 = .ok (.aload_n 0, 1) := by decide +kernel
theorem d_M_isTurnedAlike_1 : decode prog_12_method_56_code 1 = .ok (.getfield 54, 3) := by decide +kernel
theorem d_M_isTurnedAlike_4 : decode prog_12_method_56_code 4 = .ok (.iload_n 2, 1) := by decide +kernel
theorem d_M_isTurnedAlike_5 : decode prog_12_method_56_code 5 = .ok (.laload, 1) := by decide +kernel
theorem d_M_isTurnedAlike_6 : decode prog_12_method_56_code 6 = .ok (.aload_n 0, 1) := by decide +kernel
theorem d_M_isTurnedAlike_7 : decode prog_12_method_56_code 7 = .ok (.iload_n 1, 1) := by decide +kernel
theorem d_M_isTurnedAlike_8 : decode prog_12_method_56_code 8 = .ok (.iload_n 3, 1) := by decide +kernel
theorem d_M_isTurnedAlike_9 : decode prog_12_method_56_code 9 = .ok (.invokevirtual 306, 3) := by decide +kernel
theorem d_M_isTurnedAlike_12 : decode prog_12_method_56_code 12 = .ok (.lmul, 1) := by decide +kernel
theorem d_M_isTurnedAlike_13 : decode prog_12_method_56_code 13 = .ok (.lstore 4, 2) := by decide +kernel
theorem d_M_isTurnedAlike_15 : decode prog_12_method_56_code 15 = .ok (.aload_n 0, 1) := by decide +kernel
theorem d_M_isTurnedAlike_16 : decode prog_12_method_56_code 16 = .ok (.getfield 57, 3) := by decide +kernel
theorem d_M_isTurnedAlike_19 : decode prog_12_method_56_code 19 = .ok (.iload_n 2, 1) := by decide +kernel
theorem d_M_isTurnedAlike_20 : decode prog_12_method_56_code 20 = .ok (.laload, 1) := by decide +kernel
theorem d_M_isTurnedAlike_21 : decode prog_12_method_56_code 21 = .ok (.aload_n 0, 1) := by decide +kernel
theorem d_M_isTurnedAlike_22 : decode prog_12_method_56_code 22 = .ok (.iload_n 1, 1) := by decide +kernel
theorem d_M_isTurnedAlike_23 : decode prog_12_method_56_code 23 = .ok (.iload_n 2, 1) := by decide +kernel
theorem d_M_isTurnedAlike_24 : decode prog_12_method_56_code 24 = .ok (.invokevirtual 310, 3) := by decide +kernel
theorem d_M_isTurnedAlike_27 : decode prog_12_method_56_code 27 = .ok (.lmul, 1) := by decide +kernel
theorem d_M_isTurnedAlike_28 : decode prog_12_method_56_code 28 = .ok (.lstore 6, 2) := by decide +kernel
theorem d_M_isTurnedAlike_30 : decode prog_12_method_56_code 30 = .ok (.lload 4, 2) := by decide +kernel
theorem d_M_isTurnedAlike_32 : decode prog_12_method_56_code 32 = .ok (.aload_n 0, 1) := by decide +kernel
theorem d_M_isTurnedAlike_33 : decode prog_12_method_56_code 33 = .ok (.getfield 57, 3) := by decide +kernel
theorem d_M_isTurnedAlike_36 : decode prog_12_method_56_code 36 = .ok (.iload_n 3, 1) := by decide +kernel
theorem d_M_isTurnedAlike_37 : decode prog_12_method_56_code 37 = .ok (.laload, 1) := by decide +kernel
theorem d_M_isTurnedAlike_38 : decode prog_12_method_56_code 38 = .ok (.lmul, 1) := by decide +kernel
theorem d_M_isTurnedAlike_39 : decode prog_12_method_56_code 39 = .ok (.aload_n 0, 1) := by decide +kernel
theorem d_M_isTurnedAlike_40 : decode prog_12_method_56_code 40 = .ok (.getfield 54, 3) := by decide +kernel
theorem d_M_isTurnedAlike_43 : decode prog_12_method_56_code 43 = .ok (.iload_n 3, 1) := by decide +kernel
theorem d_M_isTurnedAlike_44 : decode prog_12_method_56_code 44 = .ok (.laload, 1) := by decide +kernel
theorem d_M_isTurnedAlike_45 : decode prog_12_method_56_code 45 = .ok (.lload 6, 2) := by decide +kernel
theorem d_M_isTurnedAlike_47 : decode prog_12_method_56_code 47 = .ok (.lmul, 1) := by decide +kernel
theorem d_M_isTurnedAlike_48 : decode prog_12_method_56_code 48 = .ok (.lcmp, 1) := by decide +kernel
theorem d_M_isTurnedAlike_49 : decode prog_12_method_56_code 49 = .ok (.ifCond .ne 7, 3) := by decide +kernel
theorem d_M_isTurnedAlike_52 : decode prog_12_method_56_code 52 = .ok (.iconst 1, 1) := by decide +kernel
theorem d_M_isTurnedAlike_53 : decode prog_12_method_56_code 53 = .ok (.goto 4, 3) := by decide +kernel
theorem d_M_isTurnedAlike_56 : decode prog_12_method_56_code 56 = .ok (.iconst 0, 1) := by decide +kernel
theorem d_M_isTurnedAlike_57 : decode prog_12_method_56_code 57 = .ok (.ireturn, 1) := by decide +kernel
theorem d_M_turns_0 : decode prog_12_method_57_code 0 = .ok (.aload_n 0, 1) := by decide +kernel
theorem d_M_turns_1 : decode prog_12_method_57_code 1 = .ok (.getfield 54, 3) := by decide +kernel
theorem d_M_turns_4 : decode prog_12_method_57_code 4 = .ok (.iload_n 2, 1) := by decide +kernel
theorem d_M_turns_5 : decode prog_12_method_57_code 5 = .ok (.laload, 1) := by decide +kernel
theorem d_M_turns_6 : decode prog_12_method_57_code 6 = .ok (.aload_n 0, 1) := by decide +kernel
theorem d_M_turns_7 : decode prog_12_method_57_code 7 = .ok (.iload_n 1, 1) := by decide +kernel
theorem d_M_turns_8 : decode prog_12_method_57_code 8 = .ok (.iload_n 3, 1) := by decide +kernel
theorem d_M_turns_9 : decode prog_12_method_57_code 9 = .ok (.invokevirtual 306, 3) := by decide +kernel
theorem d_M_turns_12 : decode prog_12_method_57_code 12 = .ok (.lmul, 1) := by decide +kernel
theorem d_M_turns_13 : decode prog_12_method_57_code 13 = .ok (.lstore 4, 2) := by decide +kernel
theorem d_M_turns_15 : decode prog_12_method_57_code 15 = .ok (.aload_n 0, 1) := by decide +kernel
theorem d_M_turns_16 : decode prog_12_method_57_code 16 = .ok (.getfield 57, 3) := by decide +kernel
theorem d_M_turns_19 : decode prog_12_method_57_code 19 = .ok (.iload_n 2, 1) := by decide +kernel
theorem d_M_turns_20 : decode prog_12_method_57_code 20 = .ok (.laload, 1) := by decide +kernel
theorem d_M_turns_21 : decode prog_12_method_57_code 21 = .ok (.aload_n 0, 1) := by decide +kernel
theorem d_M_turns_22 : decode prog_12_method_57_code 22 = .ok (.iload_n 1, 1) := by decide +kernel
theorem d_M_turns_23 : decode prog_12_method_57_code 23 = .ok (.iload_n 2, 1) := by decide +kernel
theorem d_M_turns_24 : decode prog_12_method_57_code 24 = .ok (.invokevirtual 310, 3) := by decide +kernel
theorem d_M_turns_27 : decode prog_12_method_57_code 27 = .ok (.lmul, 1) := by decide +kernel
theorem d_M_turns_28 : decode prog_12_method_57_code 28 = .ok (.lstore 6, 2) := by decide +kernel
theorem d_M_turns_30 : decode prog_12_method_57_code 30 = .ok (.aload_n 0, 1) := by decide +kernel
theorem d_M_turns_31 : decode prog_12_method_57_code 31 = .ok (.getfield 54, 3) := by decide +kernel
theorem d_M_turns_34 : decode prog_12_method_57_code 34 = .ok (.iload_n 3, 1) := by decide +kernel
theorem d_M_turns_35 : decode prog_12_method_57_code 35 = .ok (.lload 4, 2) := by decide +kernel
theorem d_M_turns_37 : decode prog_12_method_57_code 37 = .ok (.lload 6, 2) := by decide +kernel
theorem d_M_turns_39 : decode prog_12_method_57_code 39 = .ok (.iconst 0, 1) := by decide +kernel
theorem d_M_turns_40 : decode prog_12_method_57_code 40 = .ok (.invokestatic 313, 3) := by decide +kernel
theorem d_M_turns_43 : decode prog_12_method_57_code 43 = .ok (.lastore, 1) := by decide +kernel
theorem d_M_turns_44 : decode prog_12_method_57_code 44 = .ok (.aload_n 0, 1) := by decide +kernel
theorem d_M_turns_45 : decode prog_12_method_57_code 45 = .ok (.getfield 57, 3) := by decide +kernel
theorem d_M_turns_48 : decode prog_12_method_57_code 48 = .ok (.iload_n 3, 1) := by decide +kernel
theorem d_M_turns_49 : decode prog_12_method_57_code 49 = .ok (.lload 4, 2) := by decide +kernel
theorem d_M_turns_51 : decode prog_12_method_57_code 51 = .ok (.lload 6, 2) := by decide +kernel
theorem d_M_turns_53 : decode prog_12_method_57_code 53 = .ok (.iconst 1, 1) := by decide +kernel
theorem d_M_turns_54 : decode prog_12_method_57_code 54 = .ok (.invokestatic 313, 3) := by decide +kernel
theorem d_M_turns_57 : decode prog_12_method_57_code 57 = .ok (.lastore, 1) := by decide +kernel
theorem d_M_turns_58 : decode prog_12_method_57_code 58 = .ok (.aload_n 0, 1) := by decide +kernel
theorem d_M_turns_59 : decode prog_12_method_57_code 59 = .ok (.getfield 51, 3) := by decide +kernel
theorem d_M_turns_62 : decode prog_12_method_57_code 62 = .ok (.iload_n 3, 1) := by decide +kernel
theorem d_M_turns_63 : decode prog_12_method_57_code 63 = .ok (.aload_n 0, 1) := by decide +kernel
theorem d_M_turns_64 : decode prog_12_method_57_code 64 = .ok (.getfield 51, 3) := by decide +kernel
theorem d_M_turns_67 : decode prog_12_method_57_code 67 = .ok (.iload_n 2, 1) := by decide +kernel
theorem d_M_turns_68 : decode prog_12_method_57_code 68 = .ok (.iaload, 1) := by decide +kernel
theorem d_M_turns_69 : decode prog_12_method_57_code 69 = .ok (.iastore, 1) := by decide +kernel
theorem d_M_turns_70 : decode prog_12_method_57_code 70 = .ok (.return_, 1) := by decide +kernel
theorem d_M_reaches_0 : decode prog_12_method_58_code 0 = .ok (.iconst 0, 1) := by decide +kernel
theorem d_M_reaches_1 : decode prog_12_method_58_code 1 = .ok (.istore_n 2, 1) := by decide +kernel
theorem d_M_reaches_2 : decode prog_12_method_58_code 2 = .ok (.iload_n 2, 1) := by decide +kernel
theorem d_M_reaches_3 : decode prog_12_method_58_code 3 = .ok (.aload_n 0, 1) := by decide +kernel
theorem d_M_reaches_4 : decode prog_12_method_58_code 4 = .ok (.getfield 42, 3) := by decide +kernel
theorem d_M_reaches_7 : decode prog_12_method_58_code 7 = .ok (.iconst 1, 1) := by decide +kernel
theorem d_M_reaches_8 : decode prog_12_method_58_code 8 = .ok (.iaload, 1) := by decide +kernel
theorem d_M_reaches_9 : decode prog_12_method_58_code 9 = .ok (.if_icmp .ge 97, 3) := by decide +kernel
theorem d_M_reaches_12 : decode prog_12_method_58_code 12 = .ok (.aload_n 0, 1) := by decide +kernel
theorem d_M_reaches_13 : decode prog_12_method_58_code 13 = .ok (.iload_n 2, 1) := by decide +kernel
theorem d_M_reaches_14 : decode prog_12_method_58_code 14 = .ok (.iconst 0, 1) := by decide +kernel
theorem d_M_reaches_15 : decode prog_12_method_58_code 15 = .ok (.invokevirtual 297, 3) := by decide +kernel
theorem d_M_reaches_18 : decode prog_12_method_58_code 18 = .ok (.istore_n 3, 1) := by decide +kernel
theorem d_M_reaches_19 : decode prog_12_method_58_code 19 = .ok (.aload_n 0, 1) := by decide +kernel
theorem d_M_reaches_20 : decode prog_12_method_58_code 20 = .ok (.iload_n 2, 1) := by decide +kernel
theorem d_M_reaches_21 : decode prog_12_method_58_code 21 = .ok (.iconst 1, 1) := by decide +kernel
theorem d_M_reaches_22 : decode prog_12_method_58_code 22 = .ok (.invokevirtual 297, 3) := by decide +kernel
theorem d_M_reaches_25 : decode prog_12_method_58_code 25 = .ok (.istore 4, 2) := by decide +kernel
theorem d_M_reaches_27 : decode prog_12_method_58_code 27 = .ok (.iload_n 1, 1) := by decide +kernel
theorem d_M_reaches_28 : decode prog_12_method_58_code 28 = .ok (.iload_n 2, 1) := by decide +kernel
theorem d_M_reaches_29 : decode prog_12_method_58_code 29 = .ok (.invokestatic 317, 3) := by decide +kernel
theorem d_M_reaches_32 : decode prog_12_method_58_code 32 = .ok (.ifCond .ne 68, 3) := by decide +kernel
theorem d_M_reaches_35 : decode prog_12_method_58_code 35 = .ok (.aload_n 0, 1) := by decide +kernel
theorem d_M_reaches_36 : decode prog_12_method_58_code 36 = .ok (.getfield 51, 3) := by decide +kernel
theorem d_M_reaches_39 : decode prog_12_method_58_code 39 = .ok (.iload_n 3, 1) := by decide +kernel
theorem d_M_reaches_40 : decode prog_12_method_58_code 40 = .ok (.iaload, 1) := by decide +kernel
theorem d_M_reaches_41 : decode prog_12_method_58_code 41 = .ok (.ifCond .ge 7, 3) := by decide +kernel
theorem d_M_reaches_44 : decode prog_12_method_58_code 44 = .ok (.iconst 1, 1) := by decide +kernel
theorem d_M_reaches_45 : decode prog_12_method_58_code 45 = .ok (.goto 4, 3) := by decide +kernel
theorem d_M_reaches_48 : decode prog_12_method_58_code 48 = .ok (.iconst 0, 1) := by decide +kernel
theorem d_M_reaches_49 : decode prog_12_method_58_code 49 = .ok (.aload_n 0, 1) := by decide +kernel
theorem d_M_reaches_50 : decode prog_12_method_58_code 50 = .ok (.getfield 51, 3) := by decide +kernel
theorem d_M_reaches_53 : decode prog_12_method_58_code 53 = .ok (.iload 4, 2) := by decide +kernel
theorem d_M_reaches_55 : decode prog_12_method_58_code 55 = .ok (.iaload, 1) := by decide +kernel
theorem d_M_reaches_56 : decode prog_12_method_58_code 56 = .ok (.ifCond .ge 7, 3) := by decide +kernel
theorem d_M_reaches_59 : decode prog_12_method_58_code 59 = .ok (.iconst 1, 1) := by decide +kernel
theorem d_M_reaches_60 : decode prog_12_method_58_code 60 = .ok (.goto 4, 3) := by decide +kernel
theorem d_M_reaches_63 : decode prog_12_method_58_code 63 = .ok (.iconst 0, 1) := by decide +kernel
theorem d_M_reaches_64 : decode prog_12_method_58_code 64 = .ok (.if_icmp .ne 6, 3) := by decide +kernel
theorem d_M_reaches_67 : decode prog_12_method_58_code 67 = .ok (.goto 33, 3) := by decide +kernel
theorem d_M_reaches_70 : decode prog_12_method_58_code 70 = .ok (.aload_n 0, 1) := by decide +kernel
theorem d_M_reaches_71 : decode prog_12_method_58_code 71 = .ok (.getfield 51, 3) := by decide +kernel
theorem d_M_reaches_74 : decode prog_12_method_58_code 74 = .ok (.iload_n 3, 1) := by decide +kernel
theorem d_M_reaches_75 : decode prog_12_method_58_code 75 = .ok (.iaload, 1) := by decide +kernel
theorem d_M_reaches_76 : decode prog_12_method_58_code 76 = .ok (.ifCond .lt 14, 3) := by decide +kernel
theorem d_M_reaches_79 : decode prog_12_method_58_code 79 = .ok (.aload_n 0, 1) := by decide +kernel
theorem d_M_reaches_80 : decode prog_12_method_58_code 80 = .ok (.iload_n 2, 1) := by decide +kernel
theorem d_M_reaches_81 : decode prog_12_method_58_code 81 = .ok (.iload_n 3, 1) := by decide +kernel
theorem d_M_reaches_82 : decode prog_12_method_58_code 82 = .ok (.iload 4, 2) := by decide +kernel
theorem d_M_reaches_84 : decode prog_12_method_58_code 84 = .ok (.invokevirtual 320, 3) := by decide +kernel
theorem d_M_reaches_87 : decode prog_12_method_58_code 87 = .ok (.goto 11, 3) := by decide +kernel
theorem d_M_reaches_90 : decode prog_12_method_58_code 90 = .ok (.aload_n 0, 1) := by decide +kernel
theorem d_M_reaches_91 : decode prog_12_method_58_code 91 = .ok (.iload_n 2, 1) := by decide +kernel
theorem d_M_reaches_92 : decode prog_12_method_58_code 92 = .ok (.iload 4, 2) := by decide +kernel
theorem d_M_reaches_94 : decode prog_12_method_58_code 94 = .ok (.iload_n 3, 1) := by decide +kernel
theorem d_M_reaches_95 : decode prog_12_method_58_code 95 = .ok (.invokevirtual 320, 3) := by decide +kernel
theorem d_M_reaches_98 : decode prog_12_method_58_code 98 = .ok (.iconst 1, 1) := by decide +kernel
theorem d_M_reaches_99 : decode prog_12_method_58_code 99 = .ok (.ireturn, 1) := by decide +kernel
theorem d_M_reaches_100 : decode prog_12_method_58_code 100 = .ok (.iinc 2 1, 3) := by decide +kernel
theorem d_M_reaches_103 : decode prog_12_method_58_code 103 = .ok (.goto (-101), 3) := by decide +kernel
theorem d_M_reaches_106 : decode prog_12_method_58_code 106 = .ok (.iconst 0, 1) := by decide +kernel
theorem d_M_reaches_107 : decode prog_12_method_58_code 107 = .ok (.ireturn, 1) := by decide +kernel
theorem d_M_hangsWithout_0 : decode prog_12_method_59_code 0 = .ok (.iconst 0, 1) := by decide +kernel
theorem d_M_hangsWithout_1 : decode prog_12_method_59_code 1 = .ok (.istore_n 2, 1) := by decide +kernel
theorem d_M_hangsWithout_2 : decode prog_12_method_59_code 2 = .ok (.iload_n 2, 1) := by decide +kernel
theorem d_M_hangsWithout_3 : decode prog_12_method_59_code 3 = .ok (.bipush 12, 2) := by decide +kernel
theorem d_M_hangsWithout_5 : decode prog_12_method_59_code 5 = .ok (.if_icmp .ge 23, 3) := by decide +kernel
theorem d_M_hangsWithout_8 : decode prog_12_method_59_code 8 = .ok (.aload_n 0, 1) := by decide +kernel
theorem d_M_hangsWithout_9 : decode prog_12_method_59_code 9 = .ok (.getfield 51, 3) := by decide +kernel
theorem d_M_hangsWithout_12 : decode prog_12_method_59_code 12 = .ok (.iload_n 2, 1) := by decide +kernel
theorem d_M_hangsWithout_13 : decode prog_12_method_59_code 13 = .ok (.iconst (-1), 1) := by decide +kernel
theorem d_M_hangsWithout_14 : decode prog_12_method_59_code 14 = .ok (.iastore, 1) := by decide +kernel
theorem d_M_hangsWithout_15 : decode prog_12_method_59_code 15 = .ok (.aload_n 0, 1) := by decide +kernel
theorem d_M_hangsWithout_16 : decode prog_12_method_59_code 16 = .ok (.getfield 60, 3) := by decide +kernel
theorem d_M_hangsWithout_19 : decode prog_12_method_59_code 19 = .ok (.iload_n 2, 1) := by decide +kernel
theorem d_M_hangsWithout_20 : decode prog_12_method_59_code 20 = .ok (.iconst 0, 1) := by decide +kernel
theorem d_M_hangsWithout_21 : decode prog_12_method_59_code 21 = .ok (.bastore, 1) := by decide +kernel
theorem d_M_hangsWithout_22 : decode prog_12_method_59_code 22 = .ok (.iinc 2 1, 3) := by decide +kernel
theorem d_M_hangsWithout_25 : decode prog_12_method_59_code 25 = .ok (.goto (-23), 3) := by decide +kernel
theorem d_M_hangsWithout_28 : decode prog_12_method_59_code 28 = .ok (.iconst 0, 1) := by decide +kernel
theorem d_M_hangsWithout_29 : decode prog_12_method_59_code 29 = .ok (.istore_n 2, 1) := by decide +kernel
theorem d_M_hangsWithout_30 : decode prog_12_method_59_code 30 = .ok (.iload_n 2, 1) := by decide +kernel
theorem d_M_hangsWithout_31 : decode prog_12_method_59_code 31 = .ok (.aload_n 0, 1) := by decide +kernel
theorem d_M_hangsWithout_32 : decode prog_12_method_59_code 32 = .ok (.getfield 42, 3) := by decide +kernel
theorem d_M_hangsWithout_35 : decode prog_12_method_59_code 35 = .ok (.iconst 0, 1) := by decide +kernel
theorem d_M_hangsWithout_36 : decode prog_12_method_59_code 36 = .ok (.iaload, 1) := by decide +kernel
theorem d_M_hangsWithout_37 : decode prog_12_method_59_code 37 = .ok (.if_icmp .ge 57, 3) := by decide +kernel
theorem d_M_hangsWithout_40 : decode prog_12_method_59_code 40 = .ok (.aload_n 0, 1) := by decide +kernel
theorem d_M_hangsWithout_41 : decode prog_12_method_59_code 41 = .ok (.getfield 51, 3) := by decide +kernel
theorem d_M_hangsWithout_44 : decode prog_12_method_59_code 44 = .ok (.iload_n 2, 1) := by decide +kernel
theorem d_M_hangsWithout_45 : decode prog_12_method_59_code 45 = .ok (.iaload, 1) := by decide +kernel
theorem d_M_hangsWithout_46 : decode prog_12_method_59_code 46 = .ok (.ifCond .lt 6, 3) := by decide +kernel
theorem d_M_hangsWithout_49 : decode prog_12_method_59_code 49 = .ok (.goto 39, 3) := by decide +kernel
theorem d_M_hangsWithout_52 : decode prog_12_method_59_code 52 = .ok (.aload_n 0, 1) := by decide +kernel
theorem d_M_hangsWithout_53 : decode prog_12_method_59_code 53 = .ok (.getfield 51, 3) := by decide +kernel
theorem d_M_hangsWithout_56 : decode prog_12_method_59_code 56 = .ok (.iload_n 2, 1) := by decide +kernel
theorem d_M_hangsWithout_57 : decode prog_12_method_59_code 57 = .ok (.iload_n 2, 1) := by decide +kernel
theorem d_M_hangsWithout_58 : decode prog_12_method_59_code 58 = .ok (.iastore, 1) := by decide +kernel
theorem d_M_hangsWithout_59 : decode prog_12_method_59_code 59 = .ok (.aload_n 0, 1) := by decide +kernel
theorem d_M_hangsWithout_60 : decode prog_12_method_59_code 60 = .ok (.getfield 54, 3) := by decide +kernel
theorem d_M_hangsWithout_63 : decode prog_12_method_59_code 63 = .ok (.iload_n 2, 1) := by decide +kernel
theorem d_M_hangsWithout_64 : decode prog_12_method_59_code 64 = .ok (.lconst 1, 1) := by decide +kernel
theorem d_M_hangsWithout_65 : decode prog_12_method_59_code 65 = .ok (.lastore, 1) := by decide +kernel
theorem d_M_hangsWithout_66 : decode prog_12_method_59_code 66 = .ok (.aload_n 0, 1) := by decide +kernel
theorem d_M_hangsWithout_67 : decode prog_12_method_59_code 67 = .ok (.getfield 57, 3) := by decide +kernel
theorem d_M_hangsWithout_70 : decode prog_12_method_59_code 70 = .ok (.iload_n 2, 1) := by decide +kernel
theorem d_M_hangsWithout_71 : decode prog_12_method_59_code 71 = .ok (.lconst 1, 1) := by decide +kernel
theorem d_M_hangsWithout_72 : decode prog_12_method_59_code 72 = .ok (.lastore, 1) := by decide +kernel
theorem d_M_hangsWithout_73 : decode prog_12_method_59_code 73 = .ok (.iconst 1, 1) := by decide +kernel
theorem d_M_hangsWithout_74 : decode prog_12_method_59_code 74 = .ok (.istore_n 3, 1) := by decide +kernel
theorem d_M_hangsWithout_75 : decode prog_12_method_59_code 75 = .ok (.iload_n 3, 1) := by decide +kernel
theorem d_M_hangsWithout_76 : decode prog_12_method_59_code 76 = .ok (.ifCond .eq 12, 3) := by decide +kernel
theorem d_M_hangsWithout_79 : decode prog_12_method_59_code 79 = .ok (.aload_n 0, 1) := by decide +kernel
theorem d_M_hangsWithout_80 : decode prog_12_method_59_code 80 = .ok (.iload_n 1, 1) := by decide +kernel
theorem d_M_hangsWithout_81 : decode prog_12_method_59_code 81 = .ok (.invokevirtual 324, 3) := by decide +kernel
theorem d_M_hangsWithout_84 : decode prog_12_method_59_code 84 = .ok (.istore_n 3, 1) := by decide +kernel
theorem d_M_hangsWithout_85 : decode prog_12_method_59_code 85 = .ok (.goto (-10), 3) := by decide +kernel
theorem d_M_hangsWithout_88 : decode prog_12_method_59_code 88 = .ok (.iinc 2 1, 3) := by decide +kernel
theorem d_M_hangsWithout_91 : decode prog_12_method_59_code 91 = .ok (.goto (-61), 3) := by decide +kernel
theorem d_M_hangsWithout_94 : decode prog_12_method_59_code 94 = .ok (.iconst 0, 1) := by decide +kernel
theorem d_M_hangsWithout_95 : decode prog_12_method_59_code 95 = .ok (.istore_n 2, 1) := by decide +kernel
theorem d_M_hangsWithout_96 : decode prog_12_method_59_code 96 = .ok (.iload_n 2, 1) := by decide +kernel
theorem d_M_hangsWithout_97 : decode prog_12_method_59_code 97 = .ok (.aload_n 0, 1) := by decide +kernel
theorem d_M_hangsWithout_98 : decode prog_12_method_59_code 98 = .ok (.getfield 42, 3) := by decide +kernel
theorem d_M_hangsWithout_101 : decode prog_12_method_59_code 101 = .ok (.iconst 1, 1) := by decide +kernel
theorem d_M_hangsWithout_102 : decode prog_12_method_59_code 102 = .ok (.iaload, 1) := by decide +kernel
theorem d_M_hangsWithout_103 : decode prog_12_method_59_code 103 = .ok (.if_icmp .ge 92, 3) := by decide +kernel
theorem d_M_hangsWithout_106 : decode prog_12_method_59_code 106 = .ok (.iload_n 1, 1) := by decide +kernel
theorem d_M_hangsWithout_107 : decode prog_12_method_59_code 107 = .ok (.iload_n 2, 1) := by decide +kernel
theorem d_M_hangsWithout_108 : decode prog_12_method_59_code 108 = .ok (.invokestatic 317, 3) := by decide +kernel
theorem d_M_hangsWithout_111 : decode prog_12_method_59_code 111 = .ok (.ifCond .ne 78, 3) := by decide +kernel
theorem d_M_hangsWithout_114 : decode prog_12_method_59_code 114 = .ok (.aload_n 0, 1) := by decide +kernel
theorem d_M_hangsWithout_115 : decode prog_12_method_59_code 115 = .ok (.iload_n 2, 1) := by decide +kernel
theorem d_M_hangsWithout_116 : decode prog_12_method_59_code 116 = .ok (.aload_n 0, 1) := by decide +kernel
theorem d_M_hangsWithout_117 : decode prog_12_method_59_code 117 = .ok (.iload_n 2, 1) := by decide +kernel
theorem d_M_hangsWithout_118 : decode prog_12_method_59_code 118 = .ok (.iconst 0, 1) := by decide +kernel
theorem d_M_hangsWithout_119 : decode prog_12_method_59_code 119 = .ok (.invokevirtual 297, 3) := by decide +kernel
theorem d_M_hangsWithout_122 : decode prog_12_method_59_code 122 = .ok (.aload_n 0, 1) := by decide +kernel
theorem d_M_hangsWithout_123 : decode prog_12_method_59_code 123 = .ok (.iload_n 2, 1) := by decide +kernel
theorem d_M_hangsWithout_124 : decode prog_12_method_59_code 124 = .ok (.iconst 1, 1) := by decide +kernel
theorem d_M_hangsWithout_125 : decode prog_12_method_59_code 125 = .ok (.invokevirtual 297, 3) := by decide +kernel
theorem d_M_hangsWithout_128 : decode prog_12_method_59_code 128 = .ok (.invokevirtual 327, 3) := by decide +kernel
theorem d_M_hangsWithout_131 : decode prog_12_method_59_code 131 = .ok (.ifCond .eq 6, 3) := by decide +kernel
theorem d_M_hangsWithout_134 : decode prog_12_method_59_code 134 = .ok (.goto 55, 3) := by decide +kernel
theorem d_M_hangsWithout_137 : decode prog_12_method_59_code 137 = .ok (.iconst 0, 1) := by decide +kernel
theorem d_M_hangsWithout_138 : decode prog_12_method_59_code 138 = .ok (.istore_n 3, 1) := by decide +kernel
theorem d_M_hangsWithout_139 : decode prog_12_method_59_code 139 = .ok (.iload_n 3, 1) := by decide +kernel
theorem d_M_hangsWithout_140 : decode prog_12_method_59_code 140 = .ok (.aload_n 0, 1) := by decide +kernel
theorem d_M_hangsWithout_141 : decode prog_12_method_59_code 141 = .ok (.getfield 42, 3) := by decide +kernel
theorem d_M_hangsWithout_144 : decode prog_12_method_59_code 144 = .ok (.iconst 0, 1) := by decide +kernel
theorem d_M_hangsWithout_145 : decode prog_12_method_59_code 145 = .ok (.iaload, 1) := by decide +kernel
theorem d_M_hangsWithout_146 : decode prog_12_method_59_code 146 = .ok (.if_icmp .ge 43, 3) := by decide +kernel
theorem d_M_hangsWithout_149 : decode prog_12_method_59_code 149 = .ok (.aload_n 0, 1) := by decide +kernel
theorem d_M_hangsWithout_150 : decode prog_12_method_59_code 150 = .ok (.getfield 60, 3) := by decide +kernel
theorem d_M_hangsWithout_153 : decode prog_12_method_59_code 153 = .ok (.iload_n 3, 1) := by decide +kernel
theorem d_M_hangsWithout_154 : decode prog_12_method_59_code 154 = .ok (.dup2, 1) := by decide +kernel
theorem d_M_hangsWithout_155 : decode prog_12_method_59_code 155 = .ok (.baload, 1) := by decide +kernel
theorem d_M_hangsWithout_156 : decode prog_12_method_59_code 156 = .ok (.aload_n 0, 1) := by decide +kernel
theorem d_M_hangsWithout_157 : decode prog_12_method_59_code 157 = .ok (.getfield 51, 3) := by decide +kernel
theorem d_M_hangsWithout_160 : decode prog_12_method_59_code 160 = .ok (.iload_n 3, 1) := by decide +kernel
theorem d_M_hangsWithout_161 : decode prog_12_method_59_code 161 = .ok (.iaload, 1) := by decide +kernel
theorem d_M_hangsWithout_162 : decode prog_12_method_59_code 162 = .ok (.aload_n 0, 1) := by decide +kernel
theorem d_M_hangsWithout_163 : decode prog_12_method_59_code 163 = .ok (.getfield 51, 3) := by decide +kernel
theorem d_M_hangsWithout_166 : decode prog_12_method_59_code 166 = .ok (.aload_n 0, 1) := by decide +kernel
theorem d_M_hangsWithout_167 : decode prog_12_method_59_code 167 = .ok (.iload_n 2, 1) := by decide +kernel
theorem d_M_hangsWithout_168 : decode prog_12_method_59_code 168 = .ok (.iconst 0, 1) := by decide +kernel
theorem d_M_hangsWithout_169 : decode prog_12_method_59_code 169 = .ok (.invokevirtual 297, 3) := by decide +kernel
theorem d_M_hangsWithout_172 : decode prog_12_method_59_code 172 = .ok (.iaload, 1) := by decide +kernel
theorem d_M_hangsWithout_173 : decode prog_12_method_59_code 173 = .ok (.if_icmp .ne 7, 3) := by decide +kernel
theorem d_M_hangsWithout_176 : decode prog_12_method_59_code 176 = .ok (.iconst 1, 1) := by decide +kernel
theorem d_M_hangsWithout_177 : decode prog_12_method_59_code 177 = .ok (.goto 4, 3) := by decide +kernel
theorem d_M_hangsWithout_180 : decode prog_12_method_59_code 180 = .ok (.iconst 0, 1) := by decide +kernel
theorem d_M_hangsWithout_181 : decode prog_12_method_59_code 181 = .ok (.ior, 1) := by decide +kernel
theorem d_M_hangsWithout_182 : decode prog_12_method_59_code 182 = .ok (.bastore, 1) := by decide +kernel
theorem d_M_hangsWithout_183 : decode prog_12_method_59_code 183 = .ok (.iinc 3 1, 3) := by decide +kernel
theorem d_M_hangsWithout_186 : decode prog_12_method_59_code 186 = .ok (.goto (-47), 3) := by decide +kernel
theorem d_M_hangsWithout_189 : decode prog_12_method_59_code 189 = .ok (.iinc 2 1, 3) := by decide +kernel
theorem d_M_hangsWithout_192 : decode prog_12_method_59_code 192 = .ok (.goto (-96), 3) := by decide +kernel
theorem d_M_hangsWithout_195 : decode prog_12_method_59_code 195 = .ok (.return_, 1) := by decide +kernel
theorem d_M_hangs_0 : decode prog_12_method_60_code 0 = .ok (.aload_n 0, 1) := by decide +kernel
theorem d_M_hangs_1 : decode prog_12_method_60_code 1 = .ok (.lconst 1, 1) := by decide +kernel
theorem d_M_hangs_2 : decode prog_12_method_60_code 2 = .ok (.putfield 64, 3) := by decide +kernel
theorem d_M_hangs_5 : decode prog_12_method_60_code 5 = .ok (.iconst 0, 1) := by decide +kernel
theorem d_M_hangs_6 : decode prog_12_method_60_code 6 = .ok (.istore_n 1, 1) := by decide +kernel
theorem d_M_hangs_7 : decode prog_12_method_60_code 7 = .ok (.iload_n 1, 1) := by decide +kernel
theorem d_M_hangs_8 : decode prog_12_method_60_code 8 = .ok (.aload_n 0, 1) := by decide +kernel
theorem d_M_hangs_9 : decode prog_12_method_60_code 9 = .ok (.getfield 42, 3) := by decide +kernel
theorem d_M_hangs_12 : decode prog_12_method_60_code 12 = .ok (.iconst 1, 1) := by decide +kernel
theorem d_M_hangs_13 : decode prog_12_method_60_code 13 = .ok (.iaload, 1) := by decide +kernel
theorem d_M_hangs_14 : decode prog_12_method_60_code 14 = .ok (.if_icmp .ge 54, 3) := by decide +kernel
theorem d_M_hangs_17 : decode prog_12_method_60_code 17 = .ok (.aload_n 0, 1) := by decide +kernel
theorem d_M_hangs_18 : decode prog_12_method_60_code 18 = .ok (.dup, 1) := by decide +kernel
theorem d_M_hangs_19 : decode prog_12_method_60_code 19 = .ok (.getfield 64, 3) := by decide +kernel
theorem d_M_hangs_22 : decode prog_12_method_60_code 22 = .ok (.aload_n 0, 1) := by decide +kernel
theorem d_M_hangs_23 : decode prog_12_method_60_code 23 = .ok (.iload_n 1, 1) := by decide +kernel
theorem d_M_hangs_24 : decode prog_12_method_60_code 24 = .ok (.iconst 2, 1) := by decide +kernel
theorem d_M_hangs_25 : decode prog_12_method_60_code 25 = .ok (.invokevirtual 297, 3) := by decide +kernel
theorem d_M_hangs_28 : decode prog_12_method_60_code 28 = .ok (.iconst 2, 1) := by decide +kernel
theorem d_M_hangs_29 : decode prog_12_method_60_code 29 = .ok (.if_icmp .ne 28, 3) := by decide +kernel
theorem d_M_hangs_32 : decode prog_12_method_60_code 32 = .ok (.aload_n 0, 1) := by decide +kernel
theorem d_M_hangs_33 : decode prog_12_method_60_code 33 = .ok (.aload_n 0, 1) := by decide +kernel
theorem d_M_hangs_34 : decode prog_12_method_60_code 34 = .ok (.iload_n 1, 1) := by decide +kernel
theorem d_M_hangs_35 : decode prog_12_method_60_code 35 = .ok (.iconst 0, 1) := by decide +kernel
theorem d_M_hangs_36 : decode prog_12_method_60_code 36 = .ok (.invokevirtual 297, 3) := by decide +kernel
theorem d_M_hangs_39 : decode prog_12_method_60_code 39 = .ok (.invokevirtual 301, 3) := by decide +kernel
theorem d_M_hangs_42 : decode prog_12_method_60_code 42 = .ok (.aload_n 0, 1) := by decide +kernel
theorem d_M_hangs_43 : decode prog_12_method_60_code 43 = .ok (.aload_n 0, 1) := by decide +kernel
theorem d_M_hangs_44 : decode prog_12_method_60_code 44 = .ok (.iload_n 1, 1) := by decide +kernel
theorem d_M_hangs_45 : decode prog_12_method_60_code 45 = .ok (.iconst 1, 1) := by decide +kernel
theorem d_M_hangs_46 : decode prog_12_method_60_code 46 = .ok (.invokevirtual 297, 3) := by decide +kernel
theorem d_M_hangs_49 : decode prog_12_method_60_code 49 = .ok (.invokevirtual 301, 3) := by decide +kernel
theorem d_M_hangs_52 : decode prog_12_method_60_code 52 = .ok (.imul, 1) := by decide +kernel
theorem d_M_hangs_53 : decode prog_12_method_60_code 53 = .ok (.i2l, 1) := by decide +kernel
theorem d_M_hangs_54 : decode prog_12_method_60_code 54 = .ok (.goto 4, 3) := by decide +kernel
theorem d_M_hangs_57 : decode prog_12_method_60_code 57 = .ok (.lconst 1, 1) := by decide +kernel
theorem d_M_hangs_58 : decode prog_12_method_60_code 58 = .ok (.lmul, 1) := by decide +kernel
theorem d_M_hangs_59 : decode prog_12_method_60_code 59 = .ok (.putfield 64, 3) := by decide +kernel
theorem d_M_hangs_62 : decode prog_12_method_60_code 62 = .ok (.iinc 1 1, 3) := by decide +kernel
theorem d_M_hangs_65 : decode prog_12_method_60_code 65 = .ok (.goto (-58), 3) := by decide +kernel
theorem d_M_hangs_68 : decode prog_12_method_60_code 68 = .ok (.aload_n 0, 1) := by decide +kernel
theorem d_M_hangs_69 : decode prog_12_method_60_code 69 = .ok (.iconst 0, 1) := by decide +kernel
theorem d_M_hangs_70 : decode prog_12_method_60_code 70 = .ok (.invokevirtual 331, 3) := by decide +kernel
theorem d_M_hangs_73 : decode prog_12_method_60_code 73 = .ok (.return_, 1) := by decide +kernel
theorem d_M_areJoined_0 : decode prog_12_method_61_code 0 = .ok (.aload_n 0, 1) := by decide +kernel
theorem d_M_areJoined_1 : decode prog_12_method_61_code 1 = .ok (.getfield 51, 3) := by decide +kernel
theorem d_M_areJoined_4 : decode prog_12_method_61_code 4 = .ok (.iload_n 1, 1) := by decide +kernel
theorem d_M_areJoined_5 : decode prog_12_method_61_code 5 = .ok (.iaload, 1) := by decide +kernel
theorem d_M_areJoined_6 : decode prog_12_method_61_code 6 = .ok (.aload_n 0, 1) := by decide +kernel
theorem d_M_areJoined_7 : decode prog_12_method_61_code 7 = .ok (.getfield 51, 3) := by decide +kernel
theorem d_M_areJoined_10 : decode prog_12_method_61_code 10 = .ok (.iload_n 2, 1) := by decide +kernel
theorem d_M_areJoined_11 : decode prog_12_method_61_code 11 = .ok (.iaload, 1) := by decide +kernel
theorem d_M_areJoined_12 : decode prog_12_method_61_code 12 = .ok (.if_icmp .ne 7, 3) := by decide +kernel
theorem d_M_areJoined_15 : decode prog_12_method_61_code 15 = .ok (.iconst 1, 1) := by decide +kernel
theorem d_M_areJoined_16 : decode prog_12_method_61_code 16 = .ok (.goto 4, 3) := by decide +kernel
theorem d_M_areJoined_19 : decode prog_12_method_61_code 19 = .ok (.iconst 0, 1) := by decide +kernel
theorem d_M_areJoined_20 : decode prog_12_method_61_code 20 = .ok (.ireturn, 1) := by decide +kernel
theorem d_M_ratioOf_0 : decode prog_12_method_62_code 0 = .ok (.aload_n 0, 1) := by decide +kernel
theorem d_M_ratioOf_1 : decode prog_12_method_62_code 1 = .ok (.getfield 54, 3) := by decide +kernel
theorem d_M_ratioOf_4 : decode prog_12_method_62_code 4 = .ok (.iload_n 2, 1) := by decide +kernel
theorem d_M_ratioOf_5 : decode prog_12_method_62_code 5 = .ok (.laload, 1) := by decide +kernel
theorem d_M_ratioOf_6 : decode prog_12_method_62_code 6 = .ok (.aload_n 0, 1) := by decide +kernel
theorem d_M_ratioOf_7 : decode prog_12_method_62_code 7 = .ok (.getfield 57, 3) := by decide +kernel
theorem d_M_ratioOf_10 : decode prog_12_method_62_code 10 = .ok (.iload_n 1, 1) := by decide +kernel
theorem d_M_ratioOf_11 : decode prog_12_method_62_code 11 = .ok (.laload, 1) := by decide +kernel
theorem d_M_ratioOf_12 : decode prog_12_method_62_code 12 = .ok (.lmul, 1) := by decide +kernel
theorem d_M_ratioOf_13 : decode prog_12_method_62_code 13 = .ok (.lstore 4, 2) := by decide +kernel
theorem d_M_ratioOf_15 : decode prog_12_method_62_code 15 = .ok (.aload_n 0, 1) := by decide +kernel
theorem d_M_ratioOf_16 : decode prog_12_method_62_code 16 = .ok (.getfield 57, 3) := by decide +kernel
theorem d_M_ratioOf_19 : decode prog_12_method_62_code 19 = .ok (.iload_n 2, 1) := by decide +kernel
theorem d_M_ratioOf_20 : decode prog_12_method_62_code 20 = .ok (.laload, 1) := by decide +kernel
theorem d_M_ratioOf_21 : decode prog_12_method_62_code 21 = .ok (.aload_n 0, 1) := by decide +kernel
theorem d_M_ratioOf_22 : decode prog_12_method_62_code 22 = .ok (.getfield 54, 3) := by decide +kernel
theorem d_M_ratioOf_25 : decode prog_12_method_62_code 25 = .ok (.iload_n 1, 1) := by decide +kernel
theorem d_M_ratioOf_26 : decode prog_12_method_62_code 26 = .ok (.laload, 1) := by decide +kernel
theorem d_M_ratioOf_27 : decode prog_12_method_62_code 27 = .ok (.lmul, 1) := by decide +kernel
theorem d_M_ratioOf_28 : decode prog_12_method_62_code 28 = .ok (.lstore 6, 2) := by decide +kernel
theorem d_M_ratioOf_30 : decode prog_12_method_62_code 30 = .ok (.lload 6, 2) := by decide +kernel
theorem d_M_ratioOf_32 : decode prog_12_method_62_code 32 = .ok (.lconst 0, 1) := by decide +kernel
theorem d_M_ratioOf_33 : decode prog_12_method_62_code 33 = .ok (.lcmp, 1) := by decide +kernel
theorem d_M_ratioOf_34 : decode prog_12_method_62_code 34 = .ok (.ifCond .ge 16, 3) := by decide +kernel
theorem d_M_ratioOf_37 : decode prog_12_method_62_code 37 = .ok (.lload 4, 2) := by decide +kernel
theorem d_M_ratioOf_39 : decode prog_12_method_62_code 39 = .ok (.lneg, 1) := by decide +kernel
theorem d_M_ratioOf_40 : decode prog_12_method_62_code 40 = .ok (.lload 6, 2) := by decide +kernel
theorem d_M_ratioOf_42 : decode prog_12_method_62_code 42 = .ok (.lneg, 1) := by decide +kernel
theorem d_M_ratioOf_43 : decode prog_12_method_62_code 43 = .ok (.iload_n 3, 1) := by decide +kernel
theorem d_M_ratioOf_44 : decode prog_12_method_62_code 44 = .ok (.invokestatic 313, 3) := by decide +kernel
theorem d_M_ratioOf_47 : decode prog_12_method_62_code 47 = .ok (.goto 11, 3) := by decide +kernel
theorem d_M_ratioOf_50 : decode prog_12_method_62_code 50 = .ok (.lload 4, 2) := by decide +kernel
theorem d_M_ratioOf_52 : decode prog_12_method_62_code 52 = .ok (.lload 6, 2) := by decide +kernel
theorem d_M_ratioOf_54 : decode prog_12_method_62_code 54 = .ok (.iload_n 3, 1) := by decide +kernel
theorem d_M_ratioOf_55 : decode prog_12_method_62_code 55 = .ok (.invokestatic 313, 3) := by decide +kernel
theorem d_M_ratioOf_58 : decode prog_12_method_62_code 58 = .ok (.lreturn, 1) := by decide +kernel
theorem d_M_partsOf_0 : decode prog_12_method_63_code 0 = .ok (.aload_n 0, 1) := by decide +kernel
theorem d_M_partsOf_1 : decode prog_12_method_63_code 1 = .ok (.iload_n 1, 1) := by decide +kernel
theorem d_M_partsOf_2 : decode prog_12_method_63_code 2 = .ok (.iload_n 2, 1) := by decide +kernel
theorem d_M_partsOf_3 : decode prog_12_method_63_code 3 = .ok (.iconst 0, 1) := by decide +kernel
theorem d_M_partsOf_4 : decode prog_12_method_63_code 4 = .ok (.invokevirtual 334, 3) := by decide +kernel
theorem d_M_partsOf_7 : decode prog_12_method_63_code 7 = .ok (.aload_n 0, 1) := by decide +kernel
theorem d_M_partsOf_8 : decode prog_12_method_63_code 8 = .ok (.getfield 64, 3) := by decide +kernel
theorem d_M_partsOf_11 : decode prog_12_method_63_code 11 = .ok (.aload_n 0, 1) := by decide +kernel
theorem d_M_partsOf_12 : decode prog_12_method_63_code 12 = .ok (.iload_n 1, 1) := by decide +kernel
theorem d_M_partsOf_13 : decode prog_12_method_63_code 13 = .ok (.iload_n 2, 1) := by decide +kernel
theorem d_M_partsOf_14 : decode prog_12_method_63_code 14 = .ok (.iconst 1, 1) := by decide +kernel
theorem d_M_partsOf_15 : decode prog_12_method_63_code 15 = .ok (.invokevirtual 334, 3) := by decide +kernel
theorem d_M_partsOf_18 : decode prog_12_method_63_code 18 = .ok (.ldiv, 1) := by decide +kernel
theorem d_M_partsOf_19 : decode prog_12_method_63_code 19 = .ok (.lmul, 1) := by decide +kernel
theorem d_M_partsOf_20 : decode prog_12_method_63_code 20 = .ok (.lreturn, 1) := by decide +kernel
theorem d_M_isOpenAt_0 : decode prog_12_method_64_code 0 = .ok (.aload_n 0, 1) := by decide +kernel
theorem d_M_isOpenAt_1 : decode prog_12_method_64_code 1 = .ok (.iload_n 1, 1) := by decide +kernel
theorem d_M_isOpenAt_2 : decode prog_12_method_64_code 2 = .ok (.invokevirtual 338, 3) := by decide +kernel
theorem d_M_isOpenAt_5 : decode prog_12_method_64_code 5 = .ok (.ifCond .le 29, 3) := by decide +kernel
theorem d_M_isOpenAt_8 : decode prog_12_method_64_code 8 = .ok (.ldc2_w 341, 3) := by decide +kernel
theorem d_M_isOpenAt_11 : decode prog_12_method_64_code 11 = .ok (.lload_n 2, 1) := by decide +kernel
theorem d_M_isOpenAt_12 : decode prog_12_method_64_code 12 = .ok (.lmul, 1) := by decide +kernel
theorem d_M_isOpenAt_13 : decode prog_12_method_64_code 13 = .ok (.aload_n 0, 1) := by decide +kernel
theorem d_M_isOpenAt_14 : decode prog_12_method_64_code 14 = .ok (.iload_n 1, 1) := by decide +kernel
theorem d_M_isOpenAt_15 : decode prog_12_method_64_code 15 = .ok (.invokevirtual 338, 3) := by decide +kernel
theorem d_M_isOpenAt_18 : decode prog_12_method_64_code 18 = .ok (.i2l, 1) := by decide +kernel
theorem d_M_isOpenAt_19 : decode prog_12_method_64_code 19 = .ok (.aload_n 0, 1) := by decide +kernel
theorem d_M_isOpenAt_20 : decode prog_12_method_64_code 20 = .ok (.getfield 64, 3) := by decide +kernel
theorem d_M_isOpenAt_23 : decode prog_12_method_64_code 23 = .ok (.lmul, 1) := by decide +kernel
theorem d_M_isOpenAt_24 : decode prog_12_method_64_code 24 = .ok (.lcmp, 1) := by decide +kernel
theorem d_M_isOpenAt_25 : decode prog_12_method_64_code 25 = .ok (.ifCond .lt 7, 3) := by decide +kernel
theorem d_M_isOpenAt_28 : decode prog_12_method_64_code 28 = .ok (.iconst 1, 1) := by decide +kernel
theorem d_M_isOpenAt_29 : decode prog_12_method_64_code 29 = .ok (.goto 4, 3) := by decide +kernel
theorem d_M_isOpenAt_32 : decode prog_12_method_64_code 32 = .ok (.iconst 0, 1) := by decide +kernel
theorem d_M_isOpenAt_33 : decode prog_12_method_64_code 33 = .ok (.ireturn, 1) := by decide +kernel
theorem d_M_isOpenAt_34 : decode prog_12_method_64_code 34 = .ok (.aload_n 0, 1) := by decide +kernel
theorem d_M_isOpenAt_35 : decode prog_12_method_64_code 35 = .ok (.iload_n 1, 1) := by decide +kernel
theorem d_M_isOpenAt_36 : decode prog_12_method_64_code 36 = .ok (.invokevirtual 301, 3) := by decide +kernel
theorem d_M_isOpenAt_39 : decode prog_12_method_64_code 39 = .ok (.i2l, 1) := by decide +kernel
theorem d_M_isOpenAt_40 : decode prog_12_method_64_code 40 = .ok (.aload_n 0, 1) := by decide +kernel
theorem d_M_isOpenAt_41 : decode prog_12_method_64_code 41 = .ok (.getfield 64, 3) := by decide +kernel
theorem d_M_isOpenAt_44 : decode prog_12_method_64_code 44 = .ok (.lmul, 1) := by decide +kernel
theorem d_M_isOpenAt_45 : decode prog_12_method_64_code 45 = .ok (.lstore 4, 2) := by decide +kernel
theorem d_M_isOpenAt_47 : decode prog_12_method_64_code 47 = .ok (.ldc2_w 341, 3) := by decide +kernel
theorem d_M_isOpenAt_50 : decode prog_12_method_64_code 50 = .ok (.lload_n 2, 1) := by decide +kernel
theorem d_M_isOpenAt_51 : decode prog_12_method_64_code 51 = .ok (.lload_n 2, 1) := by decide +kernel
theorem d_M_isOpenAt_52 : decode prog_12_method_64_code 52 = .ok (.lload 4, 2) := by decide +kernel
theorem d_M_isOpenAt_54 : decode prog_12_method_64_code 54 = .ok (.invokestatic 343, 3) := by decide +kernel
theorem d_M_isOpenAt_57 : decode prog_12_method_64_code 57 = .ok (.lload 4, 2) := by decide +kernel
theorem d_M_isOpenAt_59 : decode prog_12_method_64_code 59 = .ok (.lmul, 1) := by decide +kernel
theorem d_M_isOpenAt_60 : decode prog_12_method_64_code 60 = .ok (.lsub, 1) := by decide +kernel
theorem d_M_isOpenAt_61 : decode prog_12_method_64_code 61 = .ok (.lmul, 1) := by decide +kernel
theorem d_M_isOpenAt_62 : decode prog_12_method_64_code 62 = .ok (.lload 4, 2) := by decide +kernel
theorem d_M_isOpenAt_64 : decode prog_12_method_64_code 64 = .ok (.lcmp, 1) := by decide +kernel
theorem d_M_isOpenAt_65 : decode prog_12_method_64_code 65 = .ok (.ifCond .ge 7, 3) := by decide +kernel
theorem d_M_isOpenAt_68 : decode prog_12_method_64_code 68 = .ok (.iconst 1, 1) := by decide +kernel
theorem d_M_isOpenAt_69 : decode prog_12_method_64_code 69 = .ok (.goto 4, 3) := by decide +kernel
theorem d_M_isOpenAt_72 : decode prog_12_method_64_code 72 = .ok (.iconst 0, 1) := by decide +kernel
theorem d_M_isOpenAt_73 : decode prog_12_method_64_code 73 = .ok (.ireturn, 1) := by decide +kernel
theorem d_M_isOpen_0 : decode prog_12_method_65_code 0 = .ok (.aload_n 0, 1) := by decide +kernel
theorem d_M_isOpen_1 : decode prog_12_method_65_code 1 = .ok (.iload_n 1, 1) := by decide +kernel
theorem d_M_isOpen_2 : decode prog_12_method_65_code 2 = .ok (.aload_n 0, 1) := by decide +kernel
theorem d_M_isOpen_3 : decode prog_12_method_65_code 3 = .ok (.getfield 45, 3) := by decide +kernel
theorem d_M_isOpen_6 : decode prog_12_method_65_code 6 = .ok (.iload_n 1, 1) := by decide +kernel
theorem d_M_isOpen_7 : decode prog_12_method_65_code 7 = .ok (.laload, 1) := by decide +kernel
theorem d_M_isOpen_8 : decode prog_12_method_65_code 8 = .ok (.invokevirtual 346, 3) := by decide +kernel
theorem d_M_isOpen_11 : decode prog_12_method_65_code 11 = .ok (.ireturn, 1) := by decide +kernel
theorem d_M_openOnes_0 : decode prog_12_method_66_code 0 = .ok (.iconst 0, 1) := by decide +kernel
theorem d_M_openOnes_1 : decode prog_12_method_66_code 1 = .ok (.istore_n 1, 1) := by decide +kernel
theorem d_M_openOnes_2 : decode prog_12_method_66_code 2 = .ok (.iconst 0, 1) := by decide +kernel
theorem d_M_openOnes_3 : decode prog_12_method_66_code 3 = .ok (.istore_n 2, 1) := by decide +kernel
theorem d_M_openOnes_4 : decode prog_12_method_66_code 4 = .ok (.iload_n 2, 1) := by decide +kernel
theorem d_M_openOnes_5 : decode prog_12_method_66_code 5 = .ok (.aload_n 0, 1) := by decide +kernel
theorem d_M_openOnes_6 : decode prog_12_method_66_code 6 = .ok (.getfield 42, 3) := by decide +kernel
theorem d_M_openOnes_9 : decode prog_12_method_66_code 9 = .ok (.iconst 0, 1) := by decide +kernel
theorem d_M_openOnes_10 : decode prog_12_method_66_code 10 = .ok (.iaload, 1) := by decide +kernel
theorem d_M_openOnes_11 : decode prog_12_method_66_code 11 = .ok (.if_icmp .ge 27, 3) := by decide +kernel
theorem d_M_openOnes_14 : decode prog_12_method_66_code 14 = .ok (.iload_n 1, 1) := by decide +kernel
theorem d_M_openOnes_15 : decode prog_12_method_66_code 15 = .ok (.aload_n 0, 1) := by decide +kernel
theorem d_M_openOnes_16 : decode prog_12_method_66_code 16 = .ok (.iload_n 2, 1) := by decide +kernel
theorem d_M_openOnes_17 : decode prog_12_method_66_code 17 = .ok (.invokevirtual 350, 3) := by decide +kernel
theorem d_M_openOnes_20 : decode prog_12_method_66_code 20 = .ok (.ifCond .eq 9, 3) := by decide +kernel
theorem d_M_openOnes_23 : decode prog_12_method_66_code 23 = .ok (.iconst 1, 1) := by decide +kernel
theorem d_M_openOnes_24 : decode prog_12_method_66_code 24 = .ok (.iload_n 2, 1) := by decide +kernel
theorem d_M_openOnes_25 : decode prog_12_method_66_code 25 = .ok (.ishl, 1) := by decide +kernel
theorem d_M_openOnes_26 : decode prog_12_method_66_code 26 = .ok (.goto 4, 3) := by decide +kernel
theorem d_M_openOnes_29 : decode prog_12_method_66_code 29 = .ok (.iconst 0, 1) := by decide +kernel
theorem d_M_openOnes_30 : decode prog_12_method_66_code 30 = .ok (.ior, 1) := by decide +kernel
theorem d_M_openOnes_31 : decode prog_12_method_66_code 31 = .ok (.istore_n 1, 1) := by decide +kernel
theorem d_M_openOnes_32 : decode prog_12_method_66_code 32 = .ok (.iinc 2 1, 3) := by decide +kernel
theorem d_M_openOnes_35 : decode prog_12_method_66_code 35 = .ok (.goto (-31), 3) := by decide +kernel
theorem d_M_openOnes_38 : decode prog_12_method_66_code 38 = .ok (.iload_n 1, 1) := by decide +kernel
theorem d_M_openOnes_39 : decode prog_12_method_66_code 39 = .ok (.ireturn, 1) := by decide +kernel
theorem d_M_door_0 : decode prog_12_method_67_code 0 = .ok (.aload_n 0, 1) := by decide +kernel
theorem d_M_door_1 : decode prog_12_method_67_code 1 = .ok (.iload_n 1, 1) := by decide +kernel
theorem d_M_door_2 : decode prog_12_method_67_code 2 = .ok (.invokevirtual 353, 3) := by decide +kernel
theorem d_M_door_5 : decode prog_12_method_67_code 5 = .ok (.ifCond .eq 15, 3) := by decide +kernel
theorem d_M_door_8 : decode prog_12_method_67_code 8 = .ok (.iload_n 2, 1) := by decide +kernel
theorem d_M_door_9 : decode prog_12_method_67_code 9 = .ok (.i2l, 1) := by decide +kernel
theorem d_M_door_10 : decode prog_12_method_67_code 10 = .ok (.lconst 0, 1) := by decide +kernel
theorem d_M_door_11 : decode prog_12_method_67_code 11 = .ok (.ldc2_w 356, 3) := by decide +kernel
theorem d_M_door_14 : decode prog_12_method_67_code 14 = .ok (.invokestatic 138, 3) := by decide +kernel
theorem d_M_door_17 : decode prog_12_method_67_code 17 = .ok (.ifCond .ne 5, 3) := by decide +kernel
theorem d_M_door_20 : decode prog_12_method_67_code 20 = .ok (.iconst (-1), 1) := by decide +kernel
theorem d_M_door_21 : decode prog_12_method_67_code 21 = .ok (.ireturn, 1) := by decide +kernel
theorem d_M_door_22 : decode prog_12_method_67_code 22 = .ok (.iload_n 2, 1) := by decide +kernel
theorem d_M_door_23 : decode prog_12_method_67_code 23 = .ok (.iconst 2, 1) := by decide +kernel
theorem d_M_door_24 : decode prog_12_method_67_code 24 = .ok (.if_icmp .ge 17, 3) := by decide +kernel
theorem d_M_door_27 : decode prog_12_method_67_code 27 = .ok (.aload_n 0, 1) := by decide +kernel
theorem d_M_door_28 : decode prog_12_method_67_code 28 = .ok (.getfield 42, 3) := by decide +kernel
theorem d_M_door_31 : decode prog_12_method_67_code 31 = .ok (.bipush 10, 2) := by decide +kernel
theorem d_M_door_33 : decode prog_12_method_67_code 33 = .ok (.iconst 2, 1) := by decide +kernel
theorem d_M_door_34 : decode prog_12_method_67_code 34 = .ok (.iload_n 1, 1) := by decide +kernel
theorem d_M_door_35 : decode prog_12_method_67_code 35 = .ok (.imul, 1) := by decide +kernel
theorem d_M_door_36 : decode prog_12_method_67_code 36 = .ok (.iadd, 1) := by decide +kernel
theorem d_M_door_37 : decode prog_12_method_67_code 37 = .ok (.iload_n 2, 1) := by decide +kernel
theorem d_M_door_38 : decode prog_12_method_67_code 38 = .ok (.iadd, 1) := by decide +kernel
theorem d_M_door_39 : decode prog_12_method_67_code 39 = .ok (.iaload, 1) := by decide +kernel
theorem d_M_door_40 : decode prog_12_method_67_code 40 = .ok (.ireturn, 1) := by decide +kernel
theorem d_M_door_41 : decode prog_12_method_67_code 41 = .ok (.iload_n 2, 1) := by decide +kernel
theorem d_M_door_42 : decode prog_12_method_67_code 42 = .ok (.iconst 2, 1) := by decide +kernel
theorem d_M_door_43 : decode prog_12_method_67_code 43 = .ok (.if_icmp .ne 22, 3) := by decide +kernel
theorem d_M_door_46 : decode prog_12_method_67_code 46 = .ok (.aload_n 0, 1) := by decide +kernel
theorem d_M_door_47 : decode prog_12_method_67_code 47 = .ok (.getfield 42, 3) := by decide +kernel
theorem d_M_door_50 : decode prog_12_method_67_code 50 = .ok (.iconst 2, 1) := by decide +kernel
theorem d_M_door_51 : decode prog_12_method_67_code 51 = .ok (.iaload, 1) := by decide +kernel
theorem d_M_door_52 : decode prog_12_method_67_code 52 = .ok (.iload_n 1, 1) := by decide +kernel
theorem d_M_door_53 : decode prog_12_method_67_code 53 = .ok (.invokestatic 317, 3) := by decide +kernel
theorem d_M_door_56 : decode prog_12_method_67_code 56 = .ok (.ifCond .eq 7, 3) := by decide +kernel
theorem d_M_door_59 : decode prog_12_method_67_code 59 = .ok (.iconst 1, 1) := by decide +kernel
theorem d_M_door_60 : decode prog_12_method_67_code 60 = .ok (.goto 4, 3) := by decide +kernel
theorem d_M_door_63 : decode prog_12_method_67_code 63 = .ok (.iconst 0, 1) := by decide +kernel
theorem d_M_door_64 : decode prog_12_method_67_code 64 = .ok (.ireturn, 1) := by decide +kernel
theorem d_M_door_65 : decode prog_12_method_67_code 65 = .ok (.iload_n 2, 1) := by decide +kernel
theorem d_M_door_66 : decode prog_12_method_67_code 66 = .ok (.iconst 3, 1) := by decide +kernel
theorem d_M_door_67 : decode prog_12_method_67_code 67 = .ok (.if_icmp .ne 19, 3) := by decide +kernel
theorem d_M_door_70 : decode prog_12_method_67_code 70 = .ok (.aload_n 0, 1) := by decide +kernel
theorem d_M_door_71 : decode prog_12_method_67_code 71 = .ok (.iload_n 1, 1) := by decide +kernel
theorem d_M_door_72 : decode prog_12_method_67_code 72 = .ok (.invokevirtual 350, 3) := by decide +kernel
theorem d_M_door_75 : decode prog_12_method_67_code 75 = .ok (.ifCond .eq 7, 3) := by decide +kernel
theorem d_M_door_78 : decode prog_12_method_67_code 78 = .ok (.iconst 1, 1) := by decide +kernel
theorem d_M_door_79 : decode prog_12_method_67_code 79 = .ok (.goto 35, 3) := by decide +kernel
theorem d_M_door_82 : decode prog_12_method_67_code 82 = .ok (.iconst 0, 1) := by decide +kernel
theorem d_M_door_83 : decode prog_12_method_67_code 83 = .ok (.goto 31, 3) := by decide +kernel
theorem d_M_door_86 : decode prog_12_method_67_code 86 = .ok (.iload_n 2, 1) := by decide +kernel
theorem d_M_door_87 : decode prog_12_method_67_code 87 = .ok (.iconst 4, 1) := by decide +kernel
theorem d_M_door_88 : decode prog_12_method_67_code 88 = .ok (.if_icmp .ne 20, 3) := by decide +kernel
theorem d_M_door_91 : decode prog_12_method_67_code 91 = .ok (.aload_n 0, 1) := by decide +kernel
theorem d_M_door_92 : decode prog_12_method_67_code 92 = .ok (.getfield 60, 3) := by decide +kernel
theorem d_M_door_95 : decode prog_12_method_67_code 95 = .ok (.iload_n 1, 1) := by decide +kernel
theorem d_M_door_96 : decode prog_12_method_67_code 96 = .ok (.baload, 1) := by decide +kernel
theorem d_M_door_97 : decode prog_12_method_67_code 97 = .ok (.ifCond .eq 7, 3) := by decide +kernel
theorem d_M_door_100 : decode prog_12_method_67_code 100 = .ok (.iconst 1, 1) := by decide +kernel
theorem d_M_door_101 : decode prog_12_method_67_code 101 = .ok (.goto 13, 3) := by decide +kernel
theorem d_M_door_104 : decode prog_12_method_67_code 104 = .ok (.iconst 0, 1) := by decide +kernel
theorem d_M_door_105 : decode prog_12_method_67_code 105 = .ok (.goto 9, 3) := by decide +kernel
theorem d_M_door_108 : decode prog_12_method_67_code 108 = .ok (.aload_n 0, 1) := by decide +kernel
theorem d_M_door_109 : decode prog_12_method_67_code 109 = .ok (.getfield 51, 3) := by decide +kernel
theorem d_M_door_112 : decode prog_12_method_67_code 112 = .ok (.iload_n 1, 1) := by decide +kernel
theorem d_M_door_113 : decode prog_12_method_67_code 113 = .ok (.iaload, 1) := by decide +kernel
theorem d_M_door_114 : decode prog_12_method_67_code 114 = .ok (.ireturn, 1) := by decide +kernel
theorem d_M_place_0 : decode prog_12_method_68_code 0 = .ok (.aload_n 0, 1) := by decide +kernel
theorem d_M_place_1 : decode prog_12_method_68_code 1 = .ok (.iload_n 1, 1) := by decide +kernel
theorem d_M_place_2 : decode prog_12_method_68_code 2 = .ok (.invokevirtual 353, 3) := by decide +kernel
theorem d_M_place_5 : decode prog_12_method_68_code 5 = .ok (.ifCond .eq 30, 3) := by decide +kernel
theorem d_M_place_8 : decode prog_12_method_68_code 8 = .ok (.iload_n 2, 1) := by decide +kernel
theorem d_M_place_9 : decode prog_12_method_68_code 9 = .ok (.i2l, 1) := by decide +kernel
theorem d_M_place_10 : decode prog_12_method_68_code 10 = .ok (.lconst 0, 1) := by decide +kernel
theorem d_M_place_11 : decode prog_12_method_68_code 11 = .ok (.lconst 1, 1) := by decide +kernel
theorem d_M_place_12 : decode prog_12_method_68_code 12 = .ok (.invokestatic 138, 3) := by decide +kernel
theorem d_M_place_15 : decode prog_12_method_68_code 15 = .ok (.ifCond .eq 20, 3) := by decide +kernel
theorem d_M_place_18 : decode prog_12_method_68_code 18 = .ok (.aload_n 0, 1) := by decide +kernel
theorem d_M_place_19 : decode prog_12_method_68_code 19 = .ok (.getfield 45, 3) := by decide +kernel
theorem d_M_place_22 : decode prog_12_method_68_code 22 = .ok (.iload_n 1, 1) := by decide +kernel
theorem d_M_place_23 : decode prog_12_method_68_code 23 = .ok (.laload, 1) := by decide +kernel
theorem d_M_place_24 : decode prog_12_method_68_code 24 = .ok (.aload_n 0, 1) := by decide +kernel
theorem d_M_place_25 : decode prog_12_method_68_code 25 = .ok (.getfield 64, 3) := by decide +kernel
theorem d_M_place_28 : decode prog_12_method_68_code 28 = .ok (.iload_n 2, 1) := by decide +kernel
theorem d_M_place_29 : decode prog_12_method_68_code 29 = .ok (.invokestatic 313, 3) := by decide +kernel
theorem d_M_place_32 : decode prog_12_method_68_code 32 = .ok (.goto 6, 3) := by decide +kernel
theorem d_M_place_35 : decode prog_12_method_68_code 35 = .ok (.ldc2_w 358, 3) := by decide +kernel
theorem d_M_place_38 : decode prog_12_method_68_code 38 = .ok (.lreturn, 1) := by decide +kernel
theorem d_M_join_0 : decode prog_12_method_69_code 0 = .ok (.aload_n 0, 1) := by decide +kernel
theorem d_M_join_1 : decode prog_12_method_69_code 1 = .ok (.iload_n 1, 1) := by decide +kernel
theorem d_M_join_2 : decode prog_12_method_69_code 2 = .ok (.invokevirtual 360, 3) := by decide +kernel
theorem d_M_join_5 : decode prog_12_method_69_code 5 = .ok (.ifCond .eq 24, 3) := by decide +kernel
theorem d_M_join_8 : decode prog_12_method_69_code 8 = .ok (.iload_n 2, 1) := by decide +kernel
theorem d_M_join_9 : decode prog_12_method_69_code 9 = .ok (.i2l, 1) := by decide +kernel
theorem d_M_join_10 : decode prog_12_method_69_code 10 = .ok (.lconst 0, 1) := by decide +kernel
theorem d_M_join_11 : decode prog_12_method_69_code 11 = .ok (.ldc2_w 341, 3) := by decide +kernel
theorem d_M_join_14 : decode prog_12_method_69_code 14 = .ok (.invokestatic 138, 3) := by decide +kernel
theorem d_M_join_17 : decode prog_12_method_69_code 17 = .ok (.ifCond .eq 12, 3) := by decide +kernel
theorem d_M_join_20 : decode prog_12_method_69_code 20 = .ok (.aload_n 0, 1) := by decide +kernel
theorem d_M_join_21 : decode prog_12_method_69_code 21 = .ok (.iload_n 1, 1) := by decide +kernel
theorem d_M_join_22 : decode prog_12_method_69_code 22 = .ok (.iload_n 2, 1) := by decide +kernel
theorem d_M_join_23 : decode prog_12_method_69_code 23 = .ok (.invokevirtual 297, 3) := by decide +kernel
theorem d_M_join_26 : decode prog_12_method_69_code 26 = .ok (.goto 4, 3) := by decide +kernel
theorem d_M_join_29 : decode prog_12_method_69_code 29 = .ok (.iconst (-1), 1) := by decide +kernel
theorem d_M_join_30 : decode prog_12_method_69_code 30 = .ok (.ireturn, 1) := by decide +kernel
theorem d_M_ratio_0 : decode prog_12_method_70_code 0 = .ok (.aload_n 0, 1) := by decide +kernel
theorem d_M_ratio_1 : decode prog_12_method_70_code 1 = .ok (.iload_n 1, 1) := by decide +kernel
theorem d_M_ratio_2 : decode prog_12_method_70_code 2 = .ok (.invokevirtual 353, 3) := by decide +kernel
theorem d_M_ratio_5 : decode prog_12_method_70_code 5 = .ok (.ifCond .eq 21, 3) := by decide +kernel
theorem d_M_ratio_8 : decode prog_12_method_70_code 8 = .ok (.aload_n 0, 1) := by decide +kernel
theorem d_M_ratio_9 : decode prog_12_method_70_code 9 = .ok (.iload_n 2, 1) := by decide +kernel
theorem d_M_ratio_10 : decode prog_12_method_70_code 10 = .ok (.invokevirtual 353, 3) := by decide +kernel
theorem d_M_ratio_13 : decode prog_12_method_70_code 13 = .ok (.ifCond .eq 13, 3) := by decide +kernel
theorem d_M_ratio_16 : decode prog_12_method_70_code 16 = .ok (.iload_n 3, 1) := by decide +kernel
theorem d_M_ratio_17 : decode prog_12_method_70_code 17 = .ok (.i2l, 1) := by decide +kernel
theorem d_M_ratio_18 : decode prog_12_method_70_code 18 = .ok (.lconst 0, 1) := by decide +kernel
theorem d_M_ratio_19 : decode prog_12_method_70_code 19 = .ok (.lconst 1, 1) := by decide +kernel
theorem d_M_ratio_20 : decode prog_12_method_70_code 20 = .ok (.invokestatic 138, 3) := by decide +kernel
theorem d_M_ratio_23 : decode prog_12_method_70_code 23 = .ok (.ifCond .ne 7, 3) := by decide +kernel
theorem d_M_ratio_26 : decode prog_12_method_70_code 26 = .ok (.ldc2_w 358, 3) := by decide +kernel
theorem d_M_ratio_29 : decode prog_12_method_70_code 29 = .ok (.lreturn, 1) := by decide +kernel
theorem d_M_ratio_30 : decode prog_12_method_70_code 30 = .ok (.aload_n 0, 1) := by decide +kernel
theorem d_M_ratio_31 : decode prog_12_method_70_code 31 = .ok (.iload_n 1, 1) := by decide +kernel
theorem d_M_ratio_32 : decode prog_12_method_70_code 32 = .ok (.iload_n 2, 1) := by decide +kernel
theorem d_M_ratio_33 : decode prog_12_method_70_code 33 = .ok (.invokevirtual 363, 3) := by decide +kernel
theorem d_M_ratio_36 : decode prog_12_method_70_code 36 = .ok (.ifCond .ne 6, 3) := by decide +kernel
theorem d_M_ratio_39 : decode prog_12_method_70_code 39 = .ok (.iload_n 3, 1) := by decide +kernel
theorem d_M_ratio_40 : decode prog_12_method_70_code 40 = .ok (.i2l, 1) := by decide +kernel
theorem d_M_ratio_41 : decode prog_12_method_70_code 41 = .ok (.lreturn, 1) := by decide +kernel
theorem d_M_ratio_42 : decode prog_12_method_70_code 42 = .ok (.aload_n 0, 1) := by decide +kernel
theorem d_M_ratio_43 : decode prog_12_method_70_code 43 = .ok (.getfield 60, 3) := by decide +kernel
theorem d_M_ratio_46 : decode prog_12_method_70_code 46 = .ok (.iload_n 1, 1) := by decide +kernel
theorem d_M_ratio_47 : decode prog_12_method_70_code 47 = .ok (.baload, 1) := by decide +kernel
theorem d_M_ratio_48 : decode prog_12_method_70_code 48 = .ok (.ifCond .eq 9, 3) := by decide +kernel
theorem d_M_ratio_51 : decode prog_12_method_70_code 51 = .ok (.ldc2_w 358, 3) := by decide +kernel
theorem d_M_ratio_54 : decode prog_12_method_70_code 54 = .ok (.goto 10, 3) := by decide +kernel
theorem d_M_ratio_57 : decode prog_12_method_70_code 57 = .ok (.aload_n 0, 1) := by decide +kernel
theorem d_M_ratio_58 : decode prog_12_method_70_code 58 = .ok (.iload_n 1, 1) := by decide +kernel
theorem d_M_ratio_59 : decode prog_12_method_70_code 59 = .ok (.iload_n 2, 1) := by decide +kernel
theorem d_M_ratio_60 : decode prog_12_method_70_code 60 = .ok (.iload_n 3, 1) := by decide +kernel
theorem d_M_ratio_61 : decode prog_12_method_70_code 61 = .ok (.invokevirtual 334, 3) := by decide +kernel
theorem d_M_ratio_64 : decode prog_12_method_70_code 64 = .ok (.lreturn, 1) := by decide +kernel
theorem d_M_isBeyond_0 : decode prog_12_method_71_code 0 = .ok (.aload_n 0, 1) := by decide +kernel
theorem d_M_isBeyond_1 : decode prog_12_method_71_code 1 = .ok (.iload_n 1, 1) := by decide +kernel
theorem d_M_isBeyond_2 : decode prog_12_method_71_code 2 = .ok (.invokevirtual 338, 3) := by decide +kernel
theorem d_M_isBeyond_5 : decode prog_12_method_71_code 5 = .ok (.ifCond .le 29, 3) := by decide +kernel
theorem d_M_isBeyond_8 : decode prog_12_method_71_code 8 = .ok (.lload_n 2, 1) := by decide +kernel
theorem d_M_isBeyond_9 : decode prog_12_method_71_code 9 = .ok (.lconst 0, 1) := by decide +kernel
theorem d_M_isBeyond_10 : decode prog_12_method_71_code 10 = .ok (.lcmp, 1) := by decide +kernel
theorem d_M_isBeyond_11 : decode prog_12_method_71_code 11 = .ok (.ifCond .lt 19, 3) := by decide +kernel
theorem d_M_isBeyond_14 : decode prog_12_method_71_code 14 = .ok (.lload_n 2, 1) := by decide +kernel
theorem d_M_isBeyond_15 : decode prog_12_method_71_code 15 = .ok (.aload_n 0, 1) := by decide +kernel
theorem d_M_isBeyond_16 : decode prog_12_method_71_code 16 = .ok (.iload_n 1, 1) := by decide +kernel
theorem d_M_isBeyond_17 : decode prog_12_method_71_code 17 = .ok (.invokevirtual 338, 3) := by decide +kernel
theorem d_M_isBeyond_20 : decode prog_12_method_71_code 20 = .ok (.i2l, 1) := by decide +kernel
theorem d_M_isBeyond_21 : decode prog_12_method_71_code 21 = .ok (.aload_n 0, 1) := by decide +kernel
theorem d_M_isBeyond_22 : decode prog_12_method_71_code 22 = .ok (.getfield 64, 3) := by decide +kernel
theorem d_M_isBeyond_25 : decode prog_12_method_71_code 25 = .ok (.lmul, 1) := by decide +kernel
theorem d_M_isBeyond_26 : decode prog_12_method_71_code 26 = .ok (.lcmp, 1) := by decide +kernel
theorem d_M_isBeyond_27 : decode prog_12_method_71_code 27 = .ok (.ifCond .le 7, 3) := by decide +kernel
theorem d_M_isBeyond_30 : decode prog_12_method_71_code 30 = .ok (.iconst 1, 1) := by decide +kernel
theorem d_M_isBeyond_31 : decode prog_12_method_71_code 31 = .ok (.goto 4, 3) := by decide +kernel
theorem d_M_isBeyond_34 : decode prog_12_method_71_code 34 = .ok (.iconst 0, 1) := by decide +kernel
theorem d_M_isBeyond_35 : decode prog_12_method_71_code 35 = .ok (.ireturn, 1) := by decide +kernel
theorem d_M_pushes_0 : decode prog_12_method_72_code 0 = .ok (.aload_n 0, 1) := by decide +kernel
theorem d_M_pushes_1 : decode prog_12_method_72_code 1 = .ok (.getfield 42, 3) := by decide +kernel
theorem d_M_pushes_4 : decode prog_12_method_72_code 4 = .ok (.iconst 2, 1) := by decide +kernel
theorem d_M_pushes_5 : decode prog_12_method_72_code 5 = .ok (.iaload, 1) := by decide +kernel
theorem d_M_pushes_6 : decode prog_12_method_72_code 6 = .ok (.iload_n 1, 1) := by decide +kernel
theorem d_M_pushes_7 : decode prog_12_method_72_code 7 = .ok (.invokestatic 317, 3) := by decide +kernel
theorem d_M_pushes_10 : decode prog_12_method_72_code 10 = .ok (.ifCond .eq 6, 3) := by decide +kernel
theorem d_M_pushes_13 : decode prog_12_method_72_code 13 = .ok (.bipush (-2), 2) := by decide +kernel
theorem d_M_pushes_15 : decode prog_12_method_72_code 15 = .ok (.ireturn, 1) := by decide +kernel
theorem d_M_pushes_16 : decode prog_12_method_72_code 16 = .ok (.aload_n 0, 1) := by decide +kernel
theorem d_M_pushes_17 : decode prog_12_method_72_code 17 = .ok (.getfield 60, 3) := by decide +kernel
theorem d_M_pushes_20 : decode prog_12_method_72_code 20 = .ok (.iload_n 1, 1) := by decide +kernel
theorem d_M_pushes_21 : decode prog_12_method_72_code 21 = .ok (.baload, 1) := by decide +kernel
theorem d_M_pushes_22 : decode prog_12_method_72_code 22 = .ok (.ifCond .eq 6, 3) := by decide +kernel
theorem d_M_pushes_25 : decode prog_12_method_72_code 25 = .ok (.bipush (-3), 2) := by decide +kernel
theorem d_M_pushes_27 : decode prog_12_method_72_code 27 = .ok (.ireturn, 1) := by decide +kernel
theorem d_M_pushes_28 : decode prog_12_method_72_code 28 = .ok (.iconst 0, 1) := by decide +kernel
theorem d_M_pushes_29 : decode prog_12_method_72_code 29 = .ok (.istore_n 3, 1) := by decide +kernel
theorem d_M_pushes_30 : decode prog_12_method_72_code 30 = .ok (.iconst 0, 1) := by decide +kernel
theorem d_M_pushes_31 : decode prog_12_method_72_code 31 = .ok (.istore 4, 2) := by decide +kernel
theorem d_M_pushes_33 : decode prog_12_method_72_code 33 = .ok (.iload 4, 2) := by decide +kernel
theorem d_M_pushes_35 : decode prog_12_method_72_code 35 = .ok (.aload_n 0, 1) := by decide +kernel
theorem d_M_pushes_36 : decode prog_12_method_72_code 36 = .ok (.getfield 42, 3) := by decide +kernel
theorem d_M_pushes_39 : decode prog_12_method_72_code 39 = .ok (.iconst 0, 1) := by decide +kernel
theorem d_M_pushes_40 : decode prog_12_method_72_code 40 = .ok (.iaload, 1) := by decide +kernel
theorem d_M_pushes_41 : decode prog_12_method_72_code 41 = .ok (.if_icmp .ge 58, 3) := by decide +kernel
theorem d_M_pushes_44 : decode prog_12_method_72_code 44 = .ok (.aload_n 0, 1) := by decide +kernel
theorem d_M_pushes_45 : decode prog_12_method_72_code 45 = .ok (.iload_n 1, 1) := by decide +kernel
theorem d_M_pushes_46 : decode prog_12_method_72_code 46 = .ok (.iload 4, 2) := by decide +kernel
theorem d_M_pushes_48 : decode prog_12_method_72_code 48 = .ok (.invokevirtual 363, 3) := by decide +kernel
theorem d_M_pushes_51 : decode prog_12_method_72_code 51 = .ok (.ifCond .ne 6, 3) := by decide +kernel
theorem d_M_pushes_54 : decode prog_12_method_72_code 54 = .ok (.goto 39, 3) := by decide +kernel
theorem d_M_pushes_57 : decode prog_12_method_72_code 57 = .ok (.aload_n 0, 1) := by decide +kernel
theorem d_M_pushes_58 : decode prog_12_method_72_code 58 = .ok (.iload 4, 2) := by decide +kernel
theorem d_M_pushes_60 : decode prog_12_method_72_code 60 = .ok (.aload_n 0, 1) := by decide +kernel
theorem d_M_pushes_61 : decode prog_12_method_72_code 61 = .ok (.getfield 45, 3) := by decide +kernel
theorem d_M_pushes_64 : decode prog_12_method_72_code 64 = .ok (.iload 4, 2) := by decide +kernel
theorem d_M_pushes_66 : decode prog_12_method_72_code 66 = .ok (.laload, 1) := by decide +kernel
theorem d_M_pushes_67 : decode prog_12_method_72_code 67 = .ok (.iload_n 2, 1) := by decide +kernel
theorem d_M_pushes_68 : decode prog_12_method_72_code 68 = .ok (.i2l, 1) := by decide +kernel
theorem d_M_pushes_69 : decode prog_12_method_72_code 69 = .ok (.aload_n 0, 1) := by decide +kernel
theorem d_M_pushes_70 : decode prog_12_method_72_code 70 = .ok (.iload_n 1, 1) := by decide +kernel
theorem d_M_pushes_71 : decode prog_12_method_72_code 71 = .ok (.iload 4, 2) := by decide +kernel
theorem d_M_pushes_73 : decode prog_12_method_72_code 73 = .ok (.invokevirtual 366, 3) := by decide +kernel
theorem d_M_pushes_76 : decode prog_12_method_72_code 76 = .ok (.lmul, 1) := by decide +kernel
theorem d_M_pushes_77 : decode prog_12_method_72_code 77 = .ok (.ladd, 1) := by decide +kernel
theorem d_M_pushes_78 : decode prog_12_method_72_code 78 = .ok (.invokevirtual 369, 3) := by decide +kernel
theorem d_M_pushes_81 : decode prog_12_method_72_code 81 = .ok (.ifCond .eq 9, 3) := by decide +kernel
theorem d_M_pushes_84 : decode prog_12_method_72_code 84 = .ok (.bipush (-10), 2) := by decide +kernel
theorem d_M_pushes_86 : decode prog_12_method_72_code 86 = .ok (.iload 4, 2) := by decide +kernel
theorem d_M_pushes_88 : decode prog_12_method_72_code 88 = .ok (.isub, 1) := by decide +kernel
theorem d_M_pushes_89 : decode prog_12_method_72_code 89 = .ok (.ireturn, 1) := by decide +kernel
theorem d_M_pushes_90 : decode prog_12_method_72_code 90 = .ok (.iinc 3 1, 3) := by decide +kernel
theorem d_M_pushes_93 : decode prog_12_method_72_code 93 = .ok (.iinc 4 1, 3) := by decide +kernel
theorem d_M_pushes_96 : decode prog_12_method_72_code 96 = .ok (.goto (-63), 3) := by decide +kernel
theorem d_M_pushes_99 : decode prog_12_method_72_code 99 = .ok (.iload_n 3, 1) := by decide +kernel
theorem d_M_pushes_100 : decode prog_12_method_72_code 100 = .ok (.ireturn, 1) := by decide +kernel
theorem d_M_turnsAll_0 : decode prog_12_method_73_code 0 = .ok (.iconst 0, 1) := by decide +kernel
theorem d_M_turnsAll_1 : decode prog_12_method_73_code 1 = .ok (.istore_n 3, 1) := by decide +kernel
theorem d_M_turnsAll_2 : decode prog_12_method_73_code 2 = .ok (.iload_n 3, 1) := by decide +kernel
theorem d_M_turnsAll_3 : decode prog_12_method_73_code 3 = .ok (.aload_n 0, 1) := by decide +kernel
theorem d_M_turnsAll_4 : decode prog_12_method_73_code 4 = .ok (.getfield 42, 3) := by decide +kernel
theorem d_M_turnsAll_7 : decode prog_12_method_73_code 7 = .ok (.iconst 0, 1) := by decide +kernel
theorem d_M_turnsAll_8 : decode prog_12_method_73_code 8 = .ok (.iaload, 1) := by decide +kernel
theorem d_M_turnsAll_9 : decode prog_12_method_73_code 9 = .ok (.if_icmp .ge 36, 3) := by decide +kernel
theorem d_M_turnsAll_12 : decode prog_12_method_73_code 12 = .ok (.aload_n 0, 1) := by decide +kernel
theorem d_M_turnsAll_13 : decode prog_12_method_73_code 13 = .ok (.iload_n 1, 1) := by decide +kernel
theorem d_M_turnsAll_14 : decode prog_12_method_73_code 14 = .ok (.iload_n 3, 1) := by decide +kernel
theorem d_M_turnsAll_15 : decode prog_12_method_73_code 15 = .ok (.invokevirtual 363, 3) := by decide +kernel
theorem d_M_turnsAll_18 : decode prog_12_method_73_code 18 = .ok (.ifCond .eq 21, 3) := by decide +kernel
theorem d_M_turnsAll_21 : decode prog_12_method_73_code 21 = .ok (.aload_n 0, 1) := by decide +kernel
theorem d_M_turnsAll_22 : decode prog_12_method_73_code 22 = .ok (.getfield 45, 3) := by decide +kernel
theorem d_M_turnsAll_25 : decode prog_12_method_73_code 25 = .ok (.iload_n 3, 1) := by decide +kernel
theorem d_M_turnsAll_26 : decode prog_12_method_73_code 26 = .ok (.dup2, 1) := by decide +kernel
theorem d_M_turnsAll_27 : decode prog_12_method_73_code 27 = .ok (.laload, 1) := by decide +kernel
theorem d_M_turnsAll_28 : decode prog_12_method_73_code 28 = .ok (.iload_n 2, 1) := by decide +kernel
theorem d_M_turnsAll_29 : decode prog_12_method_73_code 29 = .ok (.i2l, 1) := by decide +kernel
theorem d_M_turnsAll_30 : decode prog_12_method_73_code 30 = .ok (.aload_n 0, 1) := by decide +kernel
theorem d_M_turnsAll_31 : decode prog_12_method_73_code 31 = .ok (.iload_n 1, 1) := by decide +kernel
theorem d_M_turnsAll_32 : decode prog_12_method_73_code 32 = .ok (.iload_n 3, 1) := by decide +kernel
theorem d_M_turnsAll_33 : decode prog_12_method_73_code 33 = .ok (.invokevirtual 366, 3) := by decide +kernel
theorem d_M_turnsAll_36 : decode prog_12_method_73_code 36 = .ok (.lmul, 1) := by decide +kernel
theorem d_M_turnsAll_37 : decode prog_12_method_73_code 37 = .ok (.ladd, 1) := by decide +kernel
theorem d_M_turnsAll_38 : decode prog_12_method_73_code 38 = .ok (.lastore, 1) := by decide +kernel
theorem d_M_turnsAll_39 : decode prog_12_method_73_code 39 = .ok (.iinc 3 1, 3) := by decide +kernel
theorem d_M_turnsAll_42 : decode prog_12_method_73_code 42 = .ok (.goto (-40), 3) := by decide +kernel
theorem d_M_turnsAll_45 : decode prog_12_method_73_code 45 = .ok (.return_, 1) := by decide +kernel
theorem d_M_isPush_0 : decode prog_12_method_74_code 0 = .ok (.iload_n 0, 1) := by decide +kernel
theorem d_M_isPush_1 : decode prog_12_method_74_code 1 = .ok (.ifCond .eq 21, 3) := by decide +kernel
theorem d_M_isPush_4 : decode prog_12_method_74_code 4 = .ok (.iload_n 0, 1) := by decide +kernel
theorem d_M_isPush_5 : decode prog_12_method_74_code 5 = .ok (.i2l, 1) := by decide +kernel
theorem d_M_isPush_6 : decode prog_12_method_74_code 6 = .ok (.ldc2_w 372, 3) := by decide +kernel
theorem d_M_isPush_9 : decode prog_12_method_74_code 9 = .ok (.ldc2_w 374, 3) := by decide +kernel
theorem d_M_isPush_12 : decode prog_12_method_74_code 12 = .ok (.invokestatic 138, 3) := by decide +kernel
theorem d_M_isPush_15 : decode prog_12_method_74_code 15 = .ok (.ifCond .eq 7, 3) := by decide +kernel
theorem d_M_isPush_18 : decode prog_12_method_74_code 18 = .ok (.iconst 1, 1) := by decide +kernel
theorem d_M_isPush_19 : decode prog_12_method_74_code 19 = .ok (.goto 4, 3) := by decide +kernel
theorem d_M_isPush_22 : decode prog_12_method_74_code 22 = .ok (.iconst 0, 1) := by decide +kernel
theorem d_M_isPush_23 : decode prog_12_method_74_code 23 = .ok (.ireturn, 1) := by decide +kernel
theorem d_M_can_0 : decode prog_12_method_75_code 0 = .ok (.aload_n 0, 1) := by decide +kernel
theorem d_M_can_1 : decode prog_12_method_75_code 1 = .ok (.iload_n 1, 1) := by decide +kernel
theorem d_M_can_2 : decode prog_12_method_75_code 2 = .ok (.invokevirtual 353, 3) := by decide +kernel
theorem d_M_can_5 : decode prog_12_method_75_code 5 = .ok (.ifCond .eq 19, 3) := by decide +kernel
theorem d_M_can_8 : decode prog_12_method_75_code 8 = .ok (.iload_n 2, 1) := by decide +kernel
theorem d_M_can_9 : decode prog_12_method_75_code 9 = .ok (.invokestatic 376, 3) := by decide +kernel
theorem d_M_can_12 : decode prog_12_method_75_code 12 = .ok (.ifCond .eq 12, 3) := by decide +kernel
theorem d_M_can_15 : decode prog_12_method_75_code 15 = .ok (.aload_n 0, 1) := by decide +kernel
theorem d_M_can_16 : decode prog_12_method_75_code 16 = .ok (.iload_n 1, 1) := by decide +kernel
theorem d_M_can_17 : decode prog_12_method_75_code 17 = .ok (.iload_n 2, 1) := by decide +kernel
theorem d_M_can_18 : decode prog_12_method_75_code 18 = .ok (.invokevirtual 379, 3) := by decide +kernel
theorem d_M_can_21 : decode prog_12_method_75_code 21 = .ok (.goto 4, 3) := by decide +kernel
theorem d_M_can_24 : decode prog_12_method_75_code 24 = .ok (.iconst (-1), 1) := by decide +kernel
theorem d_M_can_25 : decode prog_12_method_75_code 25 = .ok (.ireturn, 1) := by decide +kernel
theorem d_M_push_0 : decode prog_12_method_76_code 0 = .ok (.aload_n 0, 1) := by decide +kernel
theorem d_M_push_1 : decode prog_12_method_76_code 1 = .ok (.iload_n 1, 1) := by decide +kernel
theorem d_M_push_2 : decode prog_12_method_76_code 2 = .ok (.iload_n 2, 1) := by decide +kernel
theorem d_M_push_3 : decode prog_12_method_76_code 3 = .ok (.invokevirtual 382, 3) := by decide +kernel
theorem d_M_push_6 : decode prog_12_method_76_code 6 = .ok (.istore_n 3, 1) := by decide +kernel
theorem d_M_push_7 : decode prog_12_method_76_code 7 = .ok (.iload_n 3, 1) := by decide +kernel
theorem d_M_push_8 : decode prog_12_method_76_code 8 = .ok (.ifCond .le 9, 3) := by decide +kernel
theorem d_M_push_11 : decode prog_12_method_76_code 11 = .ok (.aload_n 0, 1) := by decide +kernel
theorem d_M_push_12 : decode prog_12_method_76_code 12 = .ok (.iload_n 1, 1) := by decide +kernel
theorem d_M_push_13 : decode prog_12_method_76_code 13 = .ok (.iload_n 2, 1) := by decide +kernel
theorem d_M_push_14 : decode prog_12_method_76_code 14 = .ok (.invokevirtual 385, 3) := by decide +kernel
theorem d_M_push_17 : decode prog_12_method_76_code 17 = .ok (.iload_n 3, 1) := by decide +kernel
theorem d_M_push_18 : decode prog_12_method_76_code 18 = .ok (.ireturn, 1) := by decide +kernel
theorem d_M_reach_0 : decode prog_12_method_77_code 0 = .ok (.aload_n 0, 1) := by decide +kernel
theorem d_M_reach_1 : decode prog_12_method_77_code 1 = .ok (.iload_n 1, 1) := by decide +kernel
theorem d_M_reach_2 : decode prog_12_method_77_code 2 = .ok (.invokevirtual 353, 3) := by decide +kernel
theorem d_M_reach_5 : decode prog_12_method_77_code 5 = .ok (.ifCond .ne 6, 3) := by decide +kernel
theorem d_M_reach_8 : decode prog_12_method_77_code 8 = .ok (.bipush (-100), 2) := by decide +kernel
theorem d_M_reach_10 : decode prog_12_method_77_code 10 = .ok (.ireturn, 1) := by decide +kernel
theorem d_M_reach_11 : decode prog_12_method_77_code 11 = .ok (.iconst 0, 1) := by decide +kernel
theorem d_M_reach_12 : decode prog_12_method_77_code 12 = .ok (.istore_n 3, 1) := by decide +kernel
theorem d_M_reach_13 : decode prog_12_method_77_code 13 = .ok (.iload_n 3, 1) := by decide +kernel
theorem d_M_reach_14 : decode prog_12_method_77_code 14 = .ok (.bipush 60, 2) := by decide +kernel
theorem d_M_reach_16 : decode prog_12_method_77_code 16 = .ok (.if_icmp .ge 31, 3) := by decide +kernel
theorem d_M_reach_19 : decode prog_12_method_77_code 19 = .ok (.aload_n 0, 1) := by decide +kernel
theorem d_M_reach_20 : decode prog_12_method_77_code 20 = .ok (.iload_n 1, 1) := by decide +kernel
theorem d_M_reach_21 : decode prog_12_method_77_code 21 = .ok (.iload_n 2, 1) := by decide +kernel
theorem d_M_reach_22 : decode prog_12_method_77_code 22 = .ok (.ifCond .eq 10, 3) := by decide +kernel
theorem d_M_reach_25 : decode prog_12_method_77_code 25 = .ok (.iload_n 3, 1) := by decide +kernel
theorem d_M_reach_26 : decode prog_12_method_77_code 26 = .ok (.ineg, 1) := by decide +kernel
theorem d_M_reach_27 : decode prog_12_method_77_code 27 = .ok (.iconst 1, 1) := by decide +kernel
theorem d_M_reach_28 : decode prog_12_method_77_code 28 = .ok (.isub, 1) := by decide +kernel
theorem d_M_reach_29 : decode prog_12_method_77_code 29 = .ok (.goto 6, 3) := by decide +kernel
theorem d_M_reach_32 : decode prog_12_method_77_code 32 = .ok (.iload_n 3, 1) := by decide +kernel
theorem d_M_reach_33 : decode prog_12_method_77_code 33 = .ok (.iconst 1, 1) := by decide +kernel
theorem d_M_reach_34 : decode prog_12_method_77_code 34 = .ok (.iadd, 1) := by decide +kernel
theorem d_M_reach_35 : decode prog_12_method_77_code 35 = .ok (.invokevirtual 379, 3) := by decide +kernel
theorem d_M_reach_38 : decode prog_12_method_77_code 38 = .ok (.ifCond .le 9, 3) := by decide +kernel
theorem d_M_reach_41 : decode prog_12_method_77_code 41 = .ok (.iinc 3 1, 3) := by decide +kernel
theorem d_M_reach_44 : decode prog_12_method_77_code 44 = .ok (.goto (-31), 3) := by decide +kernel
theorem d_M_reach_47 : decode prog_12_method_77_code 47 = .ok (.iload_n 2, 1) := by decide +kernel
theorem d_M_reach_48 : decode prog_12_method_77_code 48 = .ok (.ifCond .eq 8, 3) := by decide +kernel
theorem d_M_reach_51 : decode prog_12_method_77_code 51 = .ok (.iload_n 3, 1) := by decide +kernel
theorem d_M_reach_52 : decode prog_12_method_77_code 52 = .ok (.ineg, 1) := by decide +kernel
theorem d_M_reach_53 : decode prog_12_method_77_code 53 = .ok (.goto 4, 3) := by decide +kernel
theorem d_M_reach_56 : decode prog_12_method_77_code 56 = .ok (.iload_n 3, 1) := by decide +kernel
theorem d_M_reach_57 : decode prog_12_method_77_code 57 = .ok (.ireturn, 1) := by decide +kernel
theorem d_M_slip_0 : decode prog_12_method_78_code 0 = .ok (.aload_n 0, 1) := by decide +kernel
theorem d_M_slip_1 : decode prog_12_method_78_code 1 = .ok (.iload_n 1, 1) := by decide +kernel
theorem d_M_slip_2 : decode prog_12_method_78_code 2 = .ok (.invokevirtual 353, 3) := by decide +kernel
theorem d_M_slip_5 : decode prog_12_method_78_code 5 = .ok (.ifCond .eq 39, 3) := by decide +kernel
theorem d_M_slip_8 : decode prog_12_method_78_code 8 = .ok (.iload_n 2, 1) := by decide +kernel
theorem d_M_slip_9 : decode prog_12_method_78_code 9 = .ok (.i2l, 1) := by decide +kernel
theorem d_M_slip_10 : decode prog_12_method_78_code 10 = .ok (.ldc2_w 372, 3) := by decide +kernel
theorem d_M_slip_13 : decode prog_12_method_78_code 13 = .ok (.ldc2_w 374, 3) := by decide +kernel
theorem d_M_slip_16 : decode prog_12_method_78_code 16 = .ok (.invokestatic 138, 3) := by decide +kernel
theorem d_M_slip_19 : decode prog_12_method_78_code 19 = .ok (.ifCond .eq 25, 3) := by decide +kernel
theorem d_M_slip_22 : decode prog_12_method_78_code 22 = .ok (.aload_n 0, 1) := by decide +kernel
theorem d_M_slip_23 : decode prog_12_method_78_code 23 = .ok (.iload_n 1, 1) := by decide +kernel
theorem d_M_slip_24 : decode prog_12_method_78_code 24 = .ok (.aload_n 0, 1) := by decide +kernel
theorem d_M_slip_25 : decode prog_12_method_78_code 25 = .ok (.getfield 45, 3) := by decide +kernel
theorem d_M_slip_28 : decode prog_12_method_78_code 28 = .ok (.iload_n 1, 1) := by decide +kernel
theorem d_M_slip_29 : decode prog_12_method_78_code 29 = .ok (.laload, 1) := by decide +kernel
theorem d_M_slip_30 : decode prog_12_method_78_code 30 = .ok (.iload_n 2, 1) := by decide +kernel
theorem d_M_slip_31 : decode prog_12_method_78_code 31 = .ok (.i2l, 1) := by decide +kernel
theorem d_M_slip_32 : decode prog_12_method_78_code 32 = .ok (.aload_n 0, 1) := by decide +kernel
theorem d_M_slip_33 : decode prog_12_method_78_code 33 = .ok (.getfield 64, 3) := by decide +kernel
theorem d_M_slip_36 : decode prog_12_method_78_code 36 = .ok (.lmul, 1) := by decide +kernel
theorem d_M_slip_37 : decode prog_12_method_78_code 37 = .ok (.ladd, 1) := by decide +kernel
theorem d_M_slip_38 : decode prog_12_method_78_code 38 = .ok (.invokevirtual 369, 3) := by decide +kernel
theorem d_M_slip_41 : decode prog_12_method_78_code 41 = .ok (.ifCond .eq 5, 3) := by decide +kernel
theorem d_M_slip_44 : decode prog_12_method_78_code 44 = .ok (.iconst 0, 1) := by decide +kernel
theorem d_M_slip_45 : decode prog_12_method_78_code 45 = .ok (.ireturn, 1) := by decide +kernel
theorem d_M_slip_46 : decode prog_12_method_78_code 46 = .ok (.aload_n 0, 1) := by decide +kernel
theorem d_M_slip_47 : decode prog_12_method_78_code 47 = .ok (.getfield 45, 3) := by decide +kernel
theorem d_M_slip_50 : decode prog_12_method_78_code 50 = .ok (.iload_n 1, 1) := by decide +kernel
theorem d_M_slip_51 : decode prog_12_method_78_code 51 = .ok (.dup2, 1) := by decide +kernel
theorem d_M_slip_52 : decode prog_12_method_78_code 52 = .ok (.laload, 1) := by decide +kernel
theorem d_M_slip_53 : decode prog_12_method_78_code 53 = .ok (.iload_n 2, 1) := by decide +kernel
theorem d_M_slip_54 : decode prog_12_method_78_code 54 = .ok (.i2l, 1) := by decide +kernel
theorem d_M_slip_55 : decode prog_12_method_78_code 55 = .ok (.aload_n 0, 1) := by decide +kernel
theorem d_M_slip_56 : decode prog_12_method_78_code 56 = .ok (.getfield 64, 3) := by decide +kernel
theorem d_M_slip_59 : decode prog_12_method_78_code 59 = .ok (.lmul, 1) := by decide +kernel
theorem d_M_slip_60 : decode prog_12_method_78_code 60 = .ok (.ladd, 1) := by decide +kernel
theorem d_M_slip_61 : decode prog_12_method_78_code 61 = .ok (.lastore, 1) := by decide +kernel
theorem d_M_slip_62 : decode prog_12_method_78_code 62 = .ok (.iconst 1, 1) := by decide +kernel
theorem d_M_slip_63 : decode prog_12_method_78_code 63 = .ok (.ireturn, 1) := by decide +kernel
theorem d_M_want_0 : decode prog_12_method_79_code 0 = .ok (.aload_n 0, 1) := by decide +kernel
theorem d_M_want_1 : decode prog_12_method_79_code 1 = .ok (.iload_n 1, 1) := by decide +kernel
theorem d_M_want_2 : decode prog_12_method_79_code 2 = .ok (.invokevirtual 388, 3) := by decide +kernel
theorem d_M_want_5 : decode prog_12_method_79_code 5 = .ok (.ifCond .eq 17, 3) := by decide +kernel
theorem d_M_want_8 : decode prog_12_method_79_code 8 = .ok (.aload_n 0, 1) := by decide +kernel
theorem d_M_want_9 : decode prog_12_method_79_code 9 = .ok (.iload_n 2, 1) := by decide +kernel
theorem d_M_want_10 : decode prog_12_method_79_code 10 = .ok (.invokevirtual 388, 3) := by decide +kernel
theorem d_M_want_13 : decode prog_12_method_79_code 13 = .ok (.ifCond .eq 9, 3) := by decide +kernel
theorem d_M_want_16 : decode prog_12_method_79_code 16 = .ok (.iload_n 1, 1) := by decide +kernel
theorem d_M_want_17 : decode prog_12_method_79_code 17 = .ok (.iload_n 2, 1) := by decide +kernel
theorem d_M_want_18 : decode prog_12_method_79_code 18 = .ok (.iand, 1) := by decide +kernel
theorem d_M_want_19 : decode prog_12_method_79_code 19 = .ok (.ifCond .eq 5, 3) := by decide +kernel
theorem d_M_want_22 : decode prog_12_method_79_code 22 = .ok (.iconst 0, 1) := by decide +kernel
theorem d_M_want_23 : decode prog_12_method_79_code 23 = .ok (.ireturn, 1) := by decide +kernel
theorem d_M_want_24 : decode prog_12_method_79_code 24 = .ok (.aload_n 0, 1) := by decide +kernel
theorem d_M_want_25 : decode prog_12_method_79_code 25 = .ok (.getfield 42, 3) := by decide +kernel
theorem d_M_want_28 : decode prog_12_method_79_code 28 = .ok (.iconst 3, 1) := by decide +kernel
theorem d_M_want_29 : decode prog_12_method_79_code 29 = .ok (.iload_n 1, 1) := by decide +kernel
theorem d_M_want_30 : decode prog_12_method_79_code 30 = .ok (.iastore, 1) := by decide +kernel
theorem d_M_want_31 : decode prog_12_method_79_code 31 = .ok (.aload_n 0, 1) := by decide +kernel
theorem d_M_want_32 : decode prog_12_method_79_code 32 = .ok (.getfield 42, 3) := by decide +kernel
theorem d_M_want_35 : decode prog_12_method_79_code 35 = .ok (.iconst 4, 1) := by decide +kernel
theorem d_M_want_36 : decode prog_12_method_79_code 36 = .ok (.iload_n 2, 1) := by decide +kernel
theorem d_M_want_37 : decode prog_12_method_79_code 37 = .ok (.iastore, 1) := by decide +kernel
theorem d_M_want_38 : decode prog_12_method_79_code 38 = .ok (.iconst 1, 1) := by decide +kernel
theorem d_M_want_39 : decode prog_12_method_79_code 39 = .ok (.ireturn, 1) := by decide +kernel
theorem d_M_placeAt_0 : decode prog_12_method_80_code 0 = .ok (.aload_n 0, 1) := by decide +kernel
theorem d_M_placeAt_1 : decode prog_12_method_80_code 1 = .ok (.getfield 45, 3) := by decide +kernel
theorem d_M_placeAt_4 : decode prog_12_method_80_code 4 = .ok (.iload_n 1, 1) := by decide +kernel
theorem d_M_placeAt_5 : decode prog_12_method_80_code 5 = .ok (.laload, 1) := by decide +kernel
theorem d_M_placeAt_6 : decode prog_12_method_80_code 6 = .ok (.lload_n 2, 1) := by decide +kernel
theorem d_M_placeAt_7 : decode prog_12_method_80_code 7 = .ok (.aload_n 0, 1) := by decide +kernel
theorem d_M_placeAt_8 : decode prog_12_method_80_code 8 = .ok (.getfield 57, 3) := by decide +kernel
theorem d_M_placeAt_11 : decode prog_12_method_80_code 11 = .ok (.iload_n 1, 1) := by decide +kernel
theorem d_M_placeAt_12 : decode prog_12_method_80_code 12 = .ok (.laload, 1) := by decide +kernel
theorem d_M_placeAt_13 : decode prog_12_method_80_code 13 = .ok (.ldiv, 1) := by decide +kernel
theorem d_M_placeAt_14 : decode prog_12_method_80_code 14 = .ok (.aload_n 0, 1) := by decide +kernel
theorem d_M_placeAt_15 : decode prog_12_method_80_code 15 = .ok (.getfield 54, 3) := by decide +kernel
theorem d_M_placeAt_18 : decode prog_12_method_80_code 18 = .ok (.iload_n 1, 1) := by decide +kernel
theorem d_M_placeAt_19 : decode prog_12_method_80_code 19 = .ok (.laload, 1) := by decide +kernel
theorem d_M_placeAt_20 : decode prog_12_method_80_code 20 = .ok (.lmul, 1) := by decide +kernel
theorem d_M_placeAt_21 : decode prog_12_method_80_code 21 = .ok (.ladd, 1) := by decide +kernel
theorem d_M_placeAt_22 : decode prog_12_method_80_code 22 = .ok (.lreturn, 1) := by decide +kernel
theorem d_M_isWanted_0 : decode prog_12_method_81_code 0 = .ok (.iconst 0, 1) := by decide +kernel
theorem d_M_isWanted_1 : decode prog_12_method_81_code 1 = .ok (.istore 4, 2) := by decide +kernel
theorem d_M_isWanted_3 : decode prog_12_method_81_code 3 = .ok (.iload 4, 2) := by decide +kernel
theorem d_M_isWanted_5 : decode prog_12_method_81_code 5 = .ok (.aload_n 0, 1) := by decide +kernel
theorem d_M_isWanted_6 : decode prog_12_method_81_code 6 = .ok (.getfield 42, 3) := by decide +kernel
theorem d_M_isWanted_9 : decode prog_12_method_81_code 9 = .ok (.iconst 0, 1) := by decide +kernel
theorem d_M_isWanted_10 : decode prog_12_method_81_code 10 = .ok (.iaload, 1) := by decide +kernel
theorem d_M_isWanted_11 : decode prog_12_method_81_code 11 = .ok (.if_icmp .ge 104, 3) := by decide +kernel
theorem d_M_isWanted_14 : decode prog_12_method_81_code 14 = .ok (.aload_n 0, 1) := by decide +kernel
theorem d_M_isWanted_15 : decode prog_12_method_81_code 15 = .ok (.getfield 51, 3) := by decide +kernel
theorem d_M_isWanted_18 : decode prog_12_method_81_code 18 = .ok (.iload 4, 2) := by decide +kernel
theorem d_M_isWanted_20 : decode prog_12_method_81_code 20 = .ok (.iaload, 1) := by decide +kernel
theorem d_M_isWanted_21 : decode prog_12_method_81_code 21 = .ok (.iload_n 1, 1) := by decide +kernel
theorem d_M_isWanted_22 : decode prog_12_method_81_code 22 = .ok (.if_icmp .eq 6, 3) := by decide +kernel
theorem d_M_isWanted_25 : decode prog_12_method_81_code 25 = .ok (.goto 84, 3) := by decide +kernel
theorem d_M_isWanted_28 : decode prog_12_method_81_code 28 = .ok (.aload_n 0, 1) := by decide +kernel
theorem d_M_isWanted_29 : decode prog_12_method_81_code 29 = .ok (.getfield 60, 3) := by decide +kernel
theorem d_M_isWanted_32 : decode prog_12_method_81_code 32 = .ok (.iload 4, 2) := by decide +kernel
theorem d_M_isWanted_34 : decode prog_12_method_81_code 34 = .ok (.baload, 1) := by decide +kernel
theorem d_M_isWanted_35 : decode prog_12_method_81_code 35 = .ok (.ifCond .eq 13, 3) := by decide +kernel
theorem d_M_isWanted_38 : decode prog_12_method_81_code 38 = .ok (.aload_n 0, 1) := by decide +kernel
theorem d_M_isWanted_39 : decode prog_12_method_81_code 39 = .ok (.getfield 45, 3) := by decide +kernel
theorem d_M_isWanted_42 : decode prog_12_method_81_code 42 = .ok (.iload 4, 2) := by decide +kernel
theorem d_M_isWanted_44 : decode prog_12_method_81_code 44 = .ok (.laload, 1) := by decide +kernel
theorem d_M_isWanted_45 : decode prog_12_method_81_code 45 = .ok (.goto 10, 3) := by decide +kernel
theorem d_M_isWanted_48 : decode prog_12_method_81_code 48 = .ok (.aload_n 0, 1) := by decide +kernel
theorem d_M_isWanted_49 : decode prog_12_method_81_code 49 = .ok (.iload 4, 2) := by decide +kernel
theorem d_M_isWanted_51 : decode prog_12_method_81_code 51 = .ok (.lload_n 2, 1) := by decide +kernel
theorem d_M_isWanted_52 : decode prog_12_method_81_code 52 = .ok (.invokevirtual 391, 3) := by decide +kernel
theorem d_M_isWanted_55 : decode prog_12_method_81_code 55 = .ok (.lstore 5, 2) := by decide +kernel
theorem d_M_isWanted_57 : decode prog_12_method_81_code 57 = .ok (.aload_n 0, 1) := by decide +kernel
theorem d_M_isWanted_58 : decode prog_12_method_81_code 58 = .ok (.getfield 42, 3) := by decide +kernel
theorem d_M_isWanted_61 : decode prog_12_method_81_code 61 = .ok (.iconst 3, 1) := by decide +kernel
theorem d_M_isWanted_62 : decode prog_12_method_81_code 62 = .ok (.iaload, 1) := by decide +kernel
theorem d_M_isWanted_63 : decode prog_12_method_81_code 63 = .ok (.iload 4, 2) := by decide +kernel
theorem d_M_isWanted_65 : decode prog_12_method_81_code 65 = .ok (.invokestatic 317, 3) := by decide +kernel
theorem d_M_isWanted_68 : decode prog_12_method_81_code 68 = .ok (.ifCond .eq 14, 3) := by decide +kernel
theorem d_M_isWanted_71 : decode prog_12_method_81_code 71 = .ok (.aload_n 0, 1) := by decide +kernel
theorem d_M_isWanted_72 : decode prog_12_method_81_code 72 = .ok (.iload 4, 2) := by decide +kernel
theorem d_M_isWanted_74 : decode prog_12_method_81_code 74 = .ok (.lload 5, 2) := by decide +kernel
theorem d_M_isWanted_76 : decode prog_12_method_81_code 76 = .ok (.invokevirtual 346, 3) := by decide +kernel
theorem d_M_isWanted_79 : decode prog_12_method_81_code 79 = .ok (.ifCond .eq 28, 3) := by decide +kernel
theorem d_M_isWanted_82 : decode prog_12_method_81_code 82 = .ok (.aload_n 0, 1) := by decide +kernel
theorem d_M_isWanted_83 : decode prog_12_method_81_code 83 = .ok (.getfield 42, 3) := by decide +kernel
theorem d_M_isWanted_86 : decode prog_12_method_81_code 86 = .ok (.iconst 4, 1) := by decide +kernel
theorem d_M_isWanted_87 : decode prog_12_method_81_code 87 = .ok (.iaload, 1) := by decide +kernel
theorem d_M_isWanted_88 : decode prog_12_method_81_code 88 = .ok (.iload 4, 2) := by decide +kernel
theorem d_M_isWanted_90 : decode prog_12_method_81_code 90 = .ok (.invokestatic 317, 3) := by decide +kernel
theorem d_M_isWanted_93 : decode prog_12_method_81_code 93 = .ok (.ifCond .eq 16, 3) := by decide +kernel
theorem d_M_isWanted_96 : decode prog_12_method_81_code 96 = .ok (.aload_n 0, 1) := by decide +kernel
theorem d_M_isWanted_97 : decode prog_12_method_81_code 97 = .ok (.iload 4, 2) := by decide +kernel
theorem d_M_isWanted_99 : decode prog_12_method_81_code 99 = .ok (.lload 5, 2) := by decide +kernel
theorem d_M_isWanted_101 : decode prog_12_method_81_code 101 = .ok (.invokevirtual 346, 3) := by decide +kernel
theorem d_M_isWanted_104 : decode prog_12_method_81_code 104 = .ok (.ifCond .eq 5, 3) := by decide +kernel
theorem d_M_isWanted_107 : decode prog_12_method_81_code 107 = .ok (.iconst 0, 1) := by decide +kernel
theorem d_M_isWanted_108 : decode prog_12_method_81_code 108 = .ok (.ireturn, 1) := by decide +kernel
theorem d_M_isWanted_109 : decode prog_12_method_81_code 109 = .ok (.iinc 4 1, 3) := by decide +kernel
theorem d_M_isWanted_112 : decode prog_12_method_81_code 112 = .ok (.goto (-109), 3) := by decide +kernel
theorem d_M_isWanted_115 : decode prog_12_method_81_code 115 = .ok (.iconst 1, 1) := by decide +kernel
theorem d_M_isWanted_116 : decode prog_12_method_81_code 116 = .ok (.ireturn, 1) := by decide +kernel
theorem d_M_slotOf_0 : decode prog_12_method_82_code 0 = .ok (.lload_n 1, 1) := by decide +kernel
theorem d_M_slotOf_1 : decode prog_12_method_82_code 1 = .ok (.lload_n 1, 1) := by decide +kernel
theorem d_M_slotOf_2 : decode prog_12_method_82_code 2 = .ok (.bipush 13, 2) := by decide +kernel
theorem d_M_slotOf_4 : decode prog_12_method_82_code 4 = .ok (.lshr, 1) := by decide +kernel
theorem d_M_slotOf_5 : decode prog_12_method_82_code 5 = .ok (.lxor, 1) := by decide +kernel
theorem d_M_slotOf_6 : decode prog_12_method_82_code 6 = .ok (.lload_n 1, 1) := by decide +kernel
theorem d_M_slotOf_7 : decode prog_12_method_82_code 7 = .ok (.bipush 29, 2) := by decide +kernel
theorem d_M_slotOf_9 : decode prog_12_method_82_code 9 = .ok (.lshr, 1) := by decide +kernel
theorem d_M_slotOf_10 : decode prog_12_method_82_code 10 = .ok (.lxor, 1) := by decide +kernel
theorem d_M_slotOf_11 : decode prog_12_method_82_code 11 = .ok (.ldc2_w 395, 3) := by decide +kernel
theorem d_M_slotOf_14 : decode prog_12_method_82_code 14 = .ok (.lmul, 1) := by decide +kernel
theorem d_M_slotOf_15 : decode prog_12_method_82_code 15 = .ok (.ldc2_w 397, 3) := by decide +kernel
theorem d_M_slotOf_18 : decode prog_12_method_82_code 18 = .ok (.lrem, 1) := by decide +kernel
theorem d_M_slotOf_19 : decode prog_12_method_82_code 19 = .ok (.l2i, 1) := by decide +kernel
theorem d_M_slotOf_20 : decode prog_12_method_82_code 20 = .ok (.istore_n 3, 1) := by decide +kernel
theorem d_M_slotOf_21 : decode prog_12_method_82_code 21 = .ok (.iload_n 3, 1) := by decide +kernel
theorem d_M_slotOf_22 : decode prog_12_method_82_code 22 = .ok (.ifCond .ge 9, 3) := by decide +kernel
theorem d_M_slotOf_25 : decode prog_12_method_82_code 25 = .ok (.iinc 3 8192, 6) := by decide +kernel
theorem d_M_slotOf_31 : decode prog_12_method_82_code 31 = .ok (.aload_n 0, 1) := by decide +kernel
theorem d_M_slotOf_32 : decode prog_12_method_82_code 32 = .ok (.getfield 77, 3) := by decide +kernel
theorem d_M_slotOf_35 : decode prog_12_method_82_code 35 = .ok (.iload_n 3, 1) := by decide +kernel
theorem d_M_slotOf_36 : decode prog_12_method_82_code 36 = .ok (.iaload, 1) := by decide +kernel
theorem d_M_slotOf_37 : decode prog_12_method_82_code 37 = .ok (.ifCond .le 32, 3) := by decide +kernel
theorem d_M_slotOf_40 : decode prog_12_method_82_code 40 = .ok (.aload_n 0, 1) := by decide +kernel
theorem d_M_slotOf_41 : decode prog_12_method_82_code 41 = .ok (.getfield 68, 3) := by decide +kernel
theorem d_M_slotOf_44 : decode prog_12_method_82_code 44 = .ok (.aload_n 0, 1) := by decide +kernel
theorem d_M_slotOf_45 : decode prog_12_method_82_code 45 = .ok (.getfield 77, 3) := by decide +kernel
theorem d_M_slotOf_48 : decode prog_12_method_82_code 48 = .ok (.iload_n 3, 1) := by decide +kernel
theorem d_M_slotOf_49 : decode prog_12_method_82_code 49 = .ok (.iaload, 1) := by decide +kernel
theorem d_M_slotOf_50 : decode prog_12_method_82_code 50 = .ok (.iconst 1, 1) := by decide +kernel
theorem d_M_slotOf_51 : decode prog_12_method_82_code 51 = .ok (.isub, 1) := by decide +kernel
theorem d_M_slotOf_52 : decode prog_12_method_82_code 52 = .ok (.laload, 1) := by decide +kernel
theorem d_M_slotOf_53 : decode prog_12_method_82_code 53 = .ok (.lload_n 1, 1) := by decide +kernel
theorem d_M_slotOf_54 : decode prog_12_method_82_code 54 = .ok (.lcmp, 1) := by decide +kernel
theorem d_M_slotOf_55 : decode prog_12_method_82_code 55 = .ok (.ifCond .eq 14, 3) := by decide +kernel
theorem d_M_slotOf_58 : decode prog_12_method_82_code 58 = .ok (.iload_n 3, 1) := by decide +kernel
theorem d_M_slotOf_59 : decode prog_12_method_82_code 59 = .ok (.iconst 1, 1) := by decide +kernel
theorem d_M_slotOf_60 : decode prog_12_method_82_code 60 = .ok (.iadd, 1) := by decide +kernel
theorem d_M_slotOf_61 : decode prog_12_method_82_code 61 = .ok (.sipush 8192, 3) := by decide +kernel
theorem d_M_slotOf_64 : decode prog_12_method_82_code 64 = .ok (.irem, 1) := by decide +kernel
theorem d_M_slotOf_65 : decode prog_12_method_82_code 65 = .ok (.istore_n 3, 1) := by decide +kernel
theorem d_M_slotOf_66 : decode prog_12_method_82_code 66 = .ok (.goto (-35), 3) := by decide +kernel
theorem d_M_slotOf_69 : decode prog_12_method_82_code 69 = .ok (.iload_n 3, 1) := by decide +kernel
theorem d_M_slotOf_70 : decode prog_12_method_82_code 70 = .ok (.ireturn, 1) := by decide +kernel
theorem d_M_isKnown_0 : decode prog_12_method_83_code 0 = .ok (.aload_n 0, 1) := by decide +kernel
theorem d_M_isKnown_1 : decode prog_12_method_83_code 1 = .ok (.getfield 77, 3) := by decide +kernel
theorem d_M_isKnown_4 : decode prog_12_method_83_code 4 = .ok (.aload_n 0, 1) := by decide +kernel
theorem d_M_isKnown_5 : decode prog_12_method_83_code 5 = .ok (.lload_n 1, 1) := by decide +kernel
theorem d_M_isKnown_6 : decode prog_12_method_83_code 6 = .ok (.invokevirtual 399, 3) := by decide +kernel
theorem d_M_isKnown_9 : decode prog_12_method_83_code 9 = .ok (.iaload, 1) := by decide +kernel
theorem d_M_isKnown_10 : decode prog_12_method_83_code 10 = .ok (.ifCond .le 7, 3) := by decide +kernel
theorem d_M_isKnown_13 : decode prog_12_method_83_code 13 = .ok (.iconst 1, 1) := by decide +kernel
theorem d_M_isKnown_14 : decode prog_12_method_83_code 14 = .ok (.goto 4, 3) := by decide +kernel
theorem d_M_isKnown_17 : decode prog_12_method_83_code 17 = .ok (.iconst 0, 1) := by decide +kernel
theorem d_M_isKnown_18 : decode prog_12_method_83_code 18 = .ok (.ireturn, 1) := by decide +kernel
theorem d_M_comesTo_0 : decode prog_12_method_84_code 0 = .ok (.aload_n 0, 1) := by decide +kernel
theorem d_M_comesTo_1 : decode prog_12_method_84_code 1 = .ok (.getfield 77, 3) := by decide +kernel
theorem d_M_comesTo_4 : decode prog_12_method_84_code 4 = .ok (.aload_n 0, 1) := by decide +kernel
theorem d_M_comesTo_5 : decode prog_12_method_84_code 5 = .ok (.lload_n 1, 1) := by decide +kernel
theorem d_M_comesTo_6 : decode prog_12_method_84_code 6 = .ok (.invokevirtual 399, 3) := by decide +kernel
theorem d_M_comesTo_9 : decode prog_12_method_84_code 9 = .ok (.aload_n 0, 1) := by decide +kernel
theorem d_M_comesTo_10 : decode prog_12_method_84_code 10 = .ok (.getfield 403, 3) := by decide +kernel
theorem d_M_comesTo_13 : decode prog_12_method_84_code 13 = .ok (.iconst 1, 1) := by decide +kernel
theorem d_M_comesTo_14 : decode prog_12_method_84_code 14 = .ok (.iadd, 1) := by decide +kernel
theorem d_M_comesTo_15 : decode prog_12_method_84_code 15 = .ok (.iastore, 1) := by decide +kernel
theorem d_M_comesTo_16 : decode prog_12_method_84_code 16 = .ok (.aload_n 0, 1) := by decide +kernel
theorem d_M_comesTo_17 : decode prog_12_method_84_code 17 = .ok (.getfield 68, 3) := by decide +kernel
theorem d_M_comesTo_20 : decode prog_12_method_84_code 20 = .ok (.aload_n 0, 1) := by decide +kernel
theorem d_M_comesTo_21 : decode prog_12_method_84_code 21 = .ok (.getfield 403, 3) := by decide +kernel
theorem d_M_comesTo_24 : decode prog_12_method_84_code 24 = .ok (.lload_n 1, 1) := by decide +kernel
theorem d_M_comesTo_25 : decode prog_12_method_84_code 25 = .ok (.lastore, 1) := by decide +kernel
theorem d_M_comesTo_26 : decode prog_12_method_84_code 26 = .ok (.aload_n 0, 1) := by decide +kernel
theorem d_M_comesTo_27 : decode prog_12_method_84_code 27 = .ok (.getfield 71, 3) := by decide +kernel
theorem d_M_comesTo_30 : decode prog_12_method_84_code 30 = .ok (.aload_n 0, 1) := by decide +kernel
theorem d_M_comesTo_31 : decode prog_12_method_84_code 31 = .ok (.getfield 403, 3) := by decide +kernel
theorem d_M_comesTo_34 : decode prog_12_method_84_code 34 = .ok (.iload_n 3, 1) := by decide +kernel
theorem d_M_comesTo_35 : decode prog_12_method_84_code 35 = .ok (.iastore, 1) := by decide +kernel
theorem d_M_comesTo_36 : decode prog_12_method_84_code 36 = .ok (.aload_n 0, 1) := by decide +kernel
theorem d_M_comesTo_37 : decode prog_12_method_84_code 37 = .ok (.getfield 74, 3) := by decide +kernel
theorem d_M_comesTo_40 : decode prog_12_method_84_code 40 = .ok (.aload_n 0, 1) := by decide +kernel
theorem d_M_comesTo_41 : decode prog_12_method_84_code 41 = .ok (.getfield 403, 3) := by decide +kernel
theorem d_M_comesTo_44 : decode prog_12_method_84_code 44 = .ok (.iload 4, 2) := by decide +kernel
theorem d_M_comesTo_46 : decode prog_12_method_84_code 46 = .ok (.iastore, 1) := by decide +kernel
theorem d_M_comesTo_47 : decode prog_12_method_84_code 47 = .ok (.aload_n 0, 1) := by decide +kernel
theorem d_M_comesTo_48 : decode prog_12_method_84_code 48 = .ok (.dup, 1) := by decide +kernel
theorem d_M_comesTo_49 : decode prog_12_method_84_code 49 = .ok (.getfield 403, 3) := by decide +kernel
theorem d_M_comesTo_52 : decode prog_12_method_84_code 52 = .ok (.iconst 1, 1) := by decide +kernel
theorem d_M_comesTo_53 : decode prog_12_method_84_code 53 = .ok (.iadd, 1) := by decide +kernel
theorem d_M_comesTo_54 : decode prog_12_method_84_code 54 = .ok (.putfield 403, 3) := by decide +kernel
theorem d_M_comesTo_57 : decode prog_12_method_84_code 57 = .ok (.return_, 1) := by decide +kernel
theorem d_M_mayStand_0 : decode prog_12_method_85_code 0 = .ok (.iconst 0, 1) := by decide +kernel
theorem d_M_mayStand_1 : decode prog_12_method_85_code 1 = .ok (.istore 5, 2) := by decide +kernel
theorem d_M_mayStand_3 : decode prog_12_method_85_code 3 = .ok (.iload 5, 2) := by decide +kernel
theorem d_M_mayStand_5 : decode prog_12_method_85_code 5 = .ok (.aload_n 0, 1) := by decide +kernel
theorem d_M_mayStand_6 : decode prog_12_method_85_code 6 = .ok (.getfield 42, 3) := by decide +kernel
theorem d_M_mayStand_9 : decode prog_12_method_85_code 9 = .ok (.iconst 0, 1) := by decide +kernel
theorem d_M_mayStand_10 : decode prog_12_method_85_code 10 = .ok (.iaload, 1) := by decide +kernel
theorem d_M_mayStand_11 : decode prog_12_method_85_code 11 = .ok (.if_icmp .ge 64, 3) := by decide +kernel
theorem d_M_mayStand_14 : decode prog_12_method_85_code 14 = .ok (.aload_n 0, 1) := by decide +kernel
theorem d_M_mayStand_15 : decode prog_12_method_85_code 15 = .ok (.getfield 51, 3) := by decide +kernel
theorem d_M_mayStand_18 : decode prog_12_method_85_code 18 = .ok (.iload 5, 2) := by decide +kernel
theorem d_M_mayStand_20 : decode prog_12_method_85_code 20 = .ok (.iaload, 1) := by decide +kernel
theorem d_M_mayStand_21 : decode prog_12_method_85_code 21 = .ok (.iload_n 1, 1) := by decide +kernel
theorem d_M_mayStand_22 : decode prog_12_method_85_code 22 = .ok (.if_icmp .ne 47, 3) := by decide +kernel
theorem d_M_mayStand_25 : decode prog_12_method_85_code 25 = .ok (.aload_n 0, 1) := by decide +kernel
theorem d_M_mayStand_26 : decode prog_12_method_85_code 26 = .ok (.iload 5, 2) := by decide +kernel
theorem d_M_mayStand_28 : decode prog_12_method_85_code 28 = .ok (.aload_n 0, 1) := by decide +kernel
theorem d_M_mayStand_29 : decode prog_12_method_85_code 29 = .ok (.iload 5, 2) := by decide +kernel
theorem d_M_mayStand_31 : decode prog_12_method_85_code 31 = .ok (.lload_n 2, 1) := by decide +kernel
theorem d_M_mayStand_32 : decode prog_12_method_85_code 32 = .ok (.invokevirtual 391, 3) := by decide +kernel
theorem d_M_mayStand_35 : decode prog_12_method_85_code 35 = .ok (.invokevirtual 369, 3) := by decide +kernel
theorem d_M_mayStand_38 : decode prog_12_method_85_code 38 = .ok (.ifCond .ne 29, 3) := by decide +kernel
theorem d_M_mayStand_41 : decode prog_12_method_85_code 41 = .ok (.iload 4, 2) := by decide +kernel
theorem d_M_mayStand_43 : decode prog_12_method_85_code 43 = .ok (.iload 5, 2) := by decide +kernel
theorem d_M_mayStand_45 : decode prog_12_method_85_code 45 = .ok (.invokestatic 317, 3) := by decide +kernel
theorem d_M_mayStand_48 : decode prog_12_method_85_code 48 = .ok (.ifCond .eq 21, 3) := by decide +kernel
theorem d_M_mayStand_51 : decode prog_12_method_85_code 51 = .ok (.aload_n 0, 1) := by decide +kernel
theorem d_M_mayStand_52 : decode prog_12_method_85_code 52 = .ok (.iload 5, 2) := by decide +kernel
theorem d_M_mayStand_54 : decode prog_12_method_85_code 54 = .ok (.aload_n 0, 1) := by decide +kernel
theorem d_M_mayStand_55 : decode prog_12_method_85_code 55 = .ok (.iload 5, 2) := by decide +kernel
theorem d_M_mayStand_57 : decode prog_12_method_85_code 57 = .ok (.lload_n 2, 1) := by decide +kernel
theorem d_M_mayStand_58 : decode prog_12_method_85_code 58 = .ok (.invokevirtual 391, 3) := by decide +kernel
theorem d_M_mayStand_61 : decode prog_12_method_85_code 61 = .ok (.invokevirtual 346, 3) := by decide +kernel
theorem d_M_mayStand_64 : decode prog_12_method_85_code 64 = .ok (.ifCond .eq 5, 3) := by decide +kernel
theorem d_M_mayStand_67 : decode prog_12_method_85_code 67 = .ok (.iconst 0, 1) := by decide +kernel
theorem d_M_mayStand_68 : decode prog_12_method_85_code 68 = .ok (.ireturn, 1) := by decide +kernel
theorem d_M_mayStand_69 : decode prog_12_method_85_code 69 = .ok (.iinc 5 1, 3) := by decide +kernel
theorem d_M_mayStand_72 : decode prog_12_method_85_code 72 = .ok (.goto (-69), 3) := by decide +kernel
theorem d_M_mayStand_75 : decode prog_12_method_85_code 75 = .ok (.iconst 1, 1) := by decide +kernel
theorem d_M_mayStand_76 : decode prog_12_method_85_code 76 = .ok (.ireturn, 1) := by decide +kernel
theorem d_M_searches_0 : decode prog_12_method_86_code 0 = .ok (.aload_n 0, 1) := by decide +kernel
theorem d_M_searches_1 : decode prog_12_method_86_code 1 = .ok (.getfield 60, 3) := by decide +kernel
theorem d_M_searches_4 : decode prog_12_method_86_code 4 = .ok (.iload_n 1, 1) := by decide +kernel
theorem d_M_searches_5 : decode prog_12_method_86_code 5 = .ok (.baload, 1) := by decide +kernel
theorem d_M_searches_6 : decode prog_12_method_86_code 6 = .ok (.ifCond .eq 6, 3) := by decide +kernel
theorem d_M_searches_9 : decode prog_12_method_86_code 9 = .ok (.bipush (-2), 2) := by decide +kernel
theorem d_M_searches_11 : decode prog_12_method_86_code 11 = .ok (.ireturn, 1) := by decide +kernel
theorem d_M_searches_12 : decode prog_12_method_86_code 12 = .ok (.iconst 0, 1) := by decide +kernel
theorem d_M_searches_13 : decode prog_12_method_86_code 13 = .ok (.istore 4, 2) := by decide +kernel
theorem d_M_searches_15 : decode prog_12_method_86_code 15 = .ok (.iload 4, 2) := by decide +kernel
theorem d_M_searches_17 : decode prog_12_method_86_code 17 = .ok (.sipush 8192, 3) := by decide +kernel
theorem d_M_searches_20 : decode prog_12_method_86_code 20 = .ok (.if_icmp .ge 17, 3) := by decide +kernel
theorem d_M_searches_23 : decode prog_12_method_86_code 23 = .ok (.aload_n 0, 1) := by decide +kernel
theorem d_M_searches_24 : decode prog_12_method_86_code 24 = .ok (.getfield 77, 3) := by decide +kernel
theorem d_M_searches_27 : decode prog_12_method_86_code 27 = .ok (.iload 4, 2) := by decide +kernel
theorem d_M_searches_29 : decode prog_12_method_86_code 29 = .ok (.iconst 0, 1) := by decide +kernel
theorem d_M_searches_30 : decode prog_12_method_86_code 30 = .ok (.iastore, 1) := by decide +kernel
theorem d_M_searches_31 : decode prog_12_method_86_code 31 = .ok (.iinc 4 1, 3) := by decide +kernel
theorem d_M_searches_34 : decode prog_12_method_86_code 34 = .ok (.goto (-19), 3) := by decide +kernel
theorem d_M_searches_37 : decode prog_12_method_86_code 37 = .ok (.aload_n 0, 1) := by decide +kernel
theorem d_M_searches_38 : decode prog_12_method_86_code 38 = .ok (.iconst 0, 1) := by decide +kernel
theorem d_M_searches_39 : decode prog_12_method_86_code 39 = .ok (.putfield 403, 3) := by decide +kernel
theorem d_M_searches_42 : decode prog_12_method_86_code 42 = .ok (.aload_n 0, 1) := by decide +kernel
theorem d_M_searches_43 : decode prog_12_method_86_code 43 = .ok (.lconst 0, 1) := by decide +kernel
theorem d_M_searches_44 : decode prog_12_method_86_code 44 = .ok (.iconst (-1), 1) := by decide +kernel
theorem d_M_searches_45 : decode prog_12_method_86_code 45 = .ok (.iconst 0, 1) := by decide +kernel
theorem d_M_searches_46 : decode prog_12_method_86_code 46 = .ok (.invokevirtual 406, 3) := by decide +kernel
theorem d_M_searches_49 : decode prog_12_method_86_code 49 = .ok (.iconst 0, 1) := by decide +kernel
theorem d_M_searches_50 : decode prog_12_method_86_code 50 = .ok (.istore 4, 2) := by decide +kernel
theorem d_M_searches_52 : decode prog_12_method_86_code 52 = .ok (.iload 4, 2) := by decide +kernel
theorem d_M_searches_54 : decode prog_12_method_86_code 54 = .ok (.aload_n 0, 1) := by decide +kernel
theorem d_M_searches_55 : decode prog_12_method_86_code 55 = .ok (.getfield 403, 3) := by decide +kernel
theorem d_M_searches_58 : decode prog_12_method_86_code 58 = .ok (.if_icmp .ge 186, 3) := by decide +kernel
theorem d_M_searches_61 : decode prog_12_method_86_code 61 = .ok (.iconst 0, 1) := by decide +kernel
theorem d_M_searches_62 : decode prog_12_method_86_code 62 = .ok (.istore 5, 2) := by decide +kernel
theorem d_M_searches_64 : decode prog_12_method_86_code 64 = .ok (.iload 5, 2) := by decide +kernel
theorem d_M_searches_66 : decode prog_12_method_86_code 66 = .ok (.aload_n 0, 1) := by decide +kernel
theorem d_M_searches_67 : decode prog_12_method_86_code 67 = .ok (.getfield 42, 3) := by decide +kernel
theorem d_M_searches_70 : decode prog_12_method_86_code 70 = .ok (.iconst 0, 1) := by decide +kernel
theorem d_M_searches_71 : decode prog_12_method_86_code 71 = .ok (.iaload, 1) := by decide +kernel
theorem d_M_searches_72 : decode prog_12_method_86_code 72 = .ok (.if_icmp .ge 166, 3) := by decide +kernel
theorem d_M_searches_75 : decode prog_12_method_86_code 75 = .ok (.aload_n 0, 1) := by decide +kernel
theorem d_M_searches_76 : decode prog_12_method_86_code 76 = .ok (.getfield 51, 3) := by decide +kernel
theorem d_M_searches_79 : decode prog_12_method_86_code 79 = .ok (.iload 5, 2) := by decide +kernel
theorem d_M_searches_81 : decode prog_12_method_86_code 81 = .ok (.iaload, 1) := by decide +kernel
theorem d_M_searches_82 : decode prog_12_method_86_code 82 = .ok (.iload_n 1, 1) := by decide +kernel
theorem d_M_searches_83 : decode prog_12_method_86_code 83 = .ok (.if_icmp .ne 149, 3) := by decide +kernel
theorem d_M_searches_86 : decode prog_12_method_86_code 86 = .ok (.iload_n 2, 1) := by decide +kernel
theorem d_M_searches_87 : decode prog_12_method_86_code 87 = .ok (.iload 5, 2) := by decide +kernel
theorem d_M_searches_89 : decode prog_12_method_86_code 89 = .ok (.invokestatic 317, 3) := by decide +kernel
theorem d_M_searches_92 : decode prog_12_method_86_code 92 = .ok (.ifCond .eq 140, 3) := by decide +kernel
theorem d_M_searches_95 : decode prog_12_method_86_code 95 = .ok (.aload_n 0, 1) := by decide +kernel
theorem d_M_searches_96 : decode prog_12_method_86_code 96 = .ok (.getfield 42, 3) := by decide +kernel
theorem d_M_searches_99 : decode prog_12_method_86_code 99 = .ok (.iconst 2, 1) := by decide +kernel
theorem d_M_searches_100 : decode prog_12_method_86_code 100 = .ok (.iaload, 1) := by decide +kernel
theorem d_M_searches_101 : decode prog_12_method_86_code 101 = .ok (.iload 5, 2) := by decide +kernel
theorem d_M_searches_103 : decode prog_12_method_86_code 103 = .ok (.invokestatic 317, 3) := by decide +kernel
theorem d_M_searches_106 : decode prog_12_method_86_code 106 = .ok (.ifCond .eq 6, 3) := by decide +kernel
theorem d_M_searches_109 : decode prog_12_method_86_code 109 = .ok (.goto 123, 3) := by decide +kernel
theorem d_M_searches_112 : decode prog_12_method_86_code 112 = .ok (.aload_n 0, 1) := by decide +kernel
theorem d_M_searches_113 : decode prog_12_method_86_code 113 = .ok (.iload 5, 2) := by decide +kernel
theorem d_M_searches_115 : decode prog_12_method_86_code 115 = .ok (.iload_n 1, 1) := by decide +kernel
theorem d_M_searches_116 : decode prog_12_method_86_code 116 = .ok (.invokevirtual 366, 3) := by decide +kernel
theorem d_M_searches_119 : decode prog_12_method_86_code 119 = .ok (.lstore 6, 2) := by decide +kernel
theorem d_M_searches_121 : decode prog_12_method_86_code 121 = .ok (.bipush (-60), 2) := by decide +kernel
theorem d_M_searches_123 : decode prog_12_method_86_code 123 = .ok (.istore 8, 2) := by decide +kernel
theorem d_M_searches_125 : decode prog_12_method_86_code 125 = .ok (.iload 8, 2) := by decide +kernel
theorem d_M_searches_127 : decode prog_12_method_86_code 127 = .ok (.bipush 60, 2) := by decide +kernel
theorem d_M_searches_129 : decode prog_12_method_86_code 129 = .ok (.if_icmp .gt 103, 3) := by decide +kernel
theorem d_M_searches_132 : decode prog_12_method_86_code 132 = .ok (.aload_n 0, 1) := by decide +kernel
theorem d_M_searches_133 : decode prog_12_method_86_code 133 = .ok (.getfield 68, 3) := by decide +kernel
theorem d_M_searches_136 : decode prog_12_method_86_code 136 = .ok (.iload 4, 2) := by decide +kernel
theorem d_M_searches_138 : decode prog_12_method_86_code 138 = .ok (.laload, 1) := by decide +kernel
theorem d_M_searches_139 : decode prog_12_method_86_code 139 = .ok (.iload 8, 2) := by decide +kernel
theorem d_M_searches_141 : decode prog_12_method_86_code 141 = .ok (.i2l, 1) := by decide +kernel
theorem d_M_searches_142 : decode prog_12_method_86_code 142 = .ok (.lload 6, 2) := by decide +kernel
theorem d_M_searches_144 : decode prog_12_method_86_code 144 = .ok (.lmul, 1) := by decide +kernel
theorem d_M_searches_145 : decode prog_12_method_86_code 145 = .ok (.ladd, 1) := by decide +kernel
theorem d_M_searches_146 : decode prog_12_method_86_code 146 = .ok (.lstore 9, 2) := by decide +kernel
theorem d_M_searches_148 : decode prog_12_method_86_code 148 = .ok (.iload 8, 2) := by decide +kernel
theorem d_M_searches_150 : decode prog_12_method_86_code 150 = .ok (.ifCond .eq 76, 3) := by decide +kernel
theorem d_M_searches_153 : decode prog_12_method_86_code 153 = .ok (.aload_n 0, 1) := by decide +kernel
theorem d_M_searches_154 : decode prog_12_method_86_code 154 = .ok (.lload 9, 2) := by decide +kernel
theorem d_M_searches_156 : decode prog_12_method_86_code 156 = .ok (.invokevirtual 410, 3) := by decide +kernel
theorem d_M_searches_159 : decode prog_12_method_86_code 159 = .ok (.ifCond .ne 67, 3) := by decide +kernel
theorem d_M_searches_162 : decode prog_12_method_86_code 162 = .ok (.aload_n 0, 1) := by decide +kernel
theorem d_M_searches_163 : decode prog_12_method_86_code 163 = .ok (.iload_n 1, 1) := by decide +kernel
theorem d_M_searches_164 : decode prog_12_method_86_code 164 = .ok (.lload 9, 2) := by decide +kernel
theorem d_M_searches_166 : decode prog_12_method_86_code 166 = .ok (.iload_n 3, 1) := by decide +kernel
theorem d_M_searches_167 : decode prog_12_method_86_code 167 = .ok (.invokevirtual 413, 3) := by decide +kernel
theorem d_M_searches_170 : decode prog_12_method_86_code 170 = .ok (.ifCond .ne 6, 3) := by decide +kernel
theorem d_M_searches_173 : decode prog_12_method_86_code 173 = .ok (.goto 53, 3) := by decide +kernel
theorem d_M_searches_176 : decode prog_12_method_86_code 176 = .ok (.aload_n 0, 1) := by decide +kernel
theorem d_M_searches_177 : decode prog_12_method_86_code 177 = .ok (.getfield 403, 3) := by decide +kernel
theorem d_M_searches_180 : decode prog_12_method_86_code 180 = .ok (.sipush 2000, 3) := by decide +kernel
theorem d_M_searches_183 : decode prog_12_method_86_code 183 = .ok (.if_icmp .ne 6, 3) := by decide +kernel
theorem d_M_searches_186 : decode prog_12_method_86_code 186 = .ok (.bipush (-3), 2) := by decide +kernel
theorem d_M_searches_188 : decode prog_12_method_86_code 188 = .ok (.ireturn, 1) := by decide +kernel
theorem d_M_searches_189 : decode prog_12_method_86_code 189 = .ok (.aload_n 0, 1) := by decide +kernel
theorem d_M_searches_190 : decode prog_12_method_86_code 190 = .ok (.lload 9, 2) := by decide +kernel
theorem d_M_searches_192 : decode prog_12_method_86_code 192 = .ok (.iload 4, 2) := by decide +kernel
theorem d_M_searches_194 : decode prog_12_method_86_code 194 = .ok (.sipush 1000, 3) := by decide +kernel
theorem d_M_searches_197 : decode prog_12_method_86_code 197 = .ok (.iload 5, 2) := by decide +kernel
theorem d_M_searches_199 : decode prog_12_method_86_code 199 = .ok (.imul, 1) := by decide +kernel
theorem d_M_searches_200 : decode prog_12_method_86_code 200 = .ok (.bipush 100, 2) := by decide +kernel
theorem d_M_searches_202 : decode prog_12_method_86_code 202 = .ok (.iadd, 1) := by decide +kernel
theorem d_M_searches_203 : decode prog_12_method_86_code 203 = .ok (.iload 8, 2) := by decide +kernel
theorem d_M_searches_205 : decode prog_12_method_86_code 205 = .ok (.iadd, 1) := by decide +kernel
theorem d_M_searches_206 : decode prog_12_method_86_code 206 = .ok (.invokevirtual 406, 3) := by decide +kernel
theorem d_M_searches_209 : decode prog_12_method_86_code 209 = .ok (.aload_n 0, 1) := by decide +kernel
theorem d_M_searches_210 : decode prog_12_method_86_code 210 = .ok (.iload_n 1, 1) := by decide +kernel
theorem d_M_searches_211 : decode prog_12_method_86_code 211 = .ok (.lload 9, 2) := by decide +kernel
theorem d_M_searches_213 : decode prog_12_method_86_code 213 = .ok (.invokevirtual 417, 3) := by decide +kernel
theorem d_M_searches_216 : decode prog_12_method_86_code 216 = .ok (.ifCond .eq 10, 3) := by decide +kernel
theorem d_M_searches_219 : decode prog_12_method_86_code 219 = .ok (.aload_n 0, 1) := by decide +kernel
theorem d_M_searches_220 : decode prog_12_method_86_code 220 = .ok (.getfield 403, 3) := by decide +kernel
theorem d_M_searches_223 : decode prog_12_method_86_code 223 = .ok (.iconst 1, 1) := by decide +kernel
theorem d_M_searches_224 : decode prog_12_method_86_code 224 = .ok (.isub, 1) := by decide +kernel
theorem d_M_searches_225 : decode prog_12_method_86_code 225 = .ok (.ireturn, 1) := by decide +kernel
theorem d_M_searches_226 : decode prog_12_method_86_code 226 = .ok (.iinc 8 1, 3) := by decide +kernel
theorem d_M_searches_229 : decode prog_12_method_86_code 229 = .ok (.goto (-104), 3) := by decide +kernel
theorem d_M_searches_232 : decode prog_12_method_86_code 232 = .ok (.iinc 5 1, 3) := by decide +kernel
theorem d_M_searches_235 : decode prog_12_method_86_code 235 = .ok (.goto (-171), 3) := by decide +kernel
theorem d_M_searches_238 : decode prog_12_method_86_code 238 = .ok (.iinc 4 1, 3) := by decide +kernel
theorem d_M_searches_241 : decode prog_12_method_86_code 241 = .ok (.goto (-189), 3) := by decide +kernel
theorem d_M_searches_244 : decode prog_12_method_86_code 244 = .ok (.bipush (-2), 2) := by decide +kernel
theorem d_M_searches_246 : decode prog_12_method_86_code 246 = .ok (.ireturn, 1) := by decide +kernel
theorem d_M_rows_0 : decode prog_12_method_87_code 0 = .ok (.iconst 0, 1) := by decide +kernel
theorem d_M_rows_1 : decode prog_12_method_87_code 1 = .ok (.istore_n 2, 1) := by decide +kernel
theorem d_M_rows_2 : decode prog_12_method_87_code 2 = .ok (.iload_n 1, 1) := by decide +kernel
theorem d_M_rows_3 : decode prog_12_method_87_code 3 = .ok (.istore_n 3, 1) := by decide +kernel
theorem d_M_rows_4 : decode prog_12_method_87_code 4 = .ok (.aload_n 0, 1) := by decide +kernel
theorem d_M_rows_5 : decode prog_12_method_87_code 5 = .ok (.getfield 71, 3) := by decide +kernel
theorem d_M_rows_8 : decode prog_12_method_87_code 8 = .ok (.iload_n 3, 1) := by decide +kernel
theorem d_M_rows_9 : decode prog_12_method_87_code 9 = .ok (.iaload, 1) := by decide +kernel
theorem d_M_rows_10 : decode prog_12_method_87_code 10 = .ok (.ifCond .lt 16, 3) := by decide +kernel
theorem d_M_rows_13 : decode prog_12_method_87_code 13 = .ok (.iinc 2 1, 3) := by decide +kernel
theorem d_M_rows_16 : decode prog_12_method_87_code 16 = .ok (.aload_n 0, 1) := by decide +kernel
theorem d_M_rows_17 : decode prog_12_method_87_code 17 = .ok (.getfield 71, 3) := by decide +kernel
theorem d_M_rows_20 : decode prog_12_method_87_code 20 = .ok (.iload_n 3, 1) := by decide +kernel
theorem d_M_rows_21 : decode prog_12_method_87_code 21 = .ok (.iaload, 1) := by decide +kernel
theorem d_M_rows_22 : decode prog_12_method_87_code 22 = .ok (.istore_n 3, 1) := by decide +kernel
theorem d_M_rows_23 : decode prog_12_method_87_code 23 = .ok (.goto (-19), 3) := by decide +kernel
theorem d_M_rows_26 : decode prog_12_method_87_code 26 = .ok (.aload_n 0, 1) := by decide +kernel
theorem d_M_rows_27 : decode prog_12_method_87_code 27 = .ok (.getfield 420, 3) := by decide +kernel
theorem d_M_rows_30 : decode prog_12_method_87_code 30 = .ok (.iload_n 2, 1) := by decide +kernel
theorem d_M_rows_31 : decode prog_12_method_87_code 31 = .ok (.iadd, 1) := by decide +kernel
theorem d_M_rows_32 : decode prog_12_method_87_code 32 = .ok (.istore_n 3, 1) := by decide +kernel
theorem d_M_rows_33 : decode prog_12_method_87_code 33 = .ok (.iload_n 1, 1) := by decide +kernel
theorem d_M_rows_34 : decode prog_12_method_87_code 34 = .ok (.istore 4, 2) := by decide +kernel
theorem d_M_rows_36 : decode prog_12_method_87_code 36 = .ok (.aload_n 0, 1) := by decide +kernel
theorem d_M_rows_37 : decode prog_12_method_87_code 37 = .ok (.getfield 71, 3) := by decide +kernel
theorem d_M_rows_40 : decode prog_12_method_87_code 40 = .ok (.iload 4, 2) := by decide +kernel
theorem d_M_rows_42 : decode prog_12_method_87_code 42 = .ok (.iaload, 1) := by decide +kernel
theorem d_M_rows_43 : decode prog_12_method_87_code 43 = .ok (.ifCond .lt 31, 3) := by decide +kernel
theorem d_M_rows_46 : decode prog_12_method_87_code 46 = .ok (.iinc 3 (-1), 3) := by decide +kernel
theorem d_M_rows_49 : decode prog_12_method_87_code 49 = .ok (.aload_n 0, 1) := by decide +kernel
theorem d_M_rows_50 : decode prog_12_method_87_code 50 = .ok (.getfield 80, 3) := by decide +kernel
theorem d_M_rows_53 : decode prog_12_method_87_code 53 = .ok (.iload_n 3, 1) := by decide +kernel
theorem d_M_rows_54 : decode prog_12_method_87_code 54 = .ok (.aload_n 0, 1) := by decide +kernel
theorem d_M_rows_55 : decode prog_12_method_87_code 55 = .ok (.getfield 74, 3) := by decide +kernel
theorem d_M_rows_58 : decode prog_12_method_87_code 58 = .ok (.iload 4, 2) := by decide +kernel
theorem d_M_rows_60 : decode prog_12_method_87_code 60 = .ok (.iaload, 1) := by decide +kernel
theorem d_M_rows_61 : decode prog_12_method_87_code 61 = .ok (.iastore, 1) := by decide +kernel
theorem d_M_rows_62 : decode prog_12_method_87_code 62 = .ok (.aload_n 0, 1) := by decide +kernel
theorem d_M_rows_63 : decode prog_12_method_87_code 63 = .ok (.getfield 71, 3) := by decide +kernel
theorem d_M_rows_66 : decode prog_12_method_87_code 66 = .ok (.iload 4, 2) := by decide +kernel
theorem d_M_rows_68 : decode prog_12_method_87_code 68 = .ok (.iaload, 1) := by decide +kernel
theorem d_M_rows_69 : decode prog_12_method_87_code 69 = .ok (.istore 4, 2) := by decide +kernel
theorem d_M_rows_71 : decode prog_12_method_87_code 71 = .ok (.goto (-35), 3) := by decide +kernel
theorem d_M_rows_74 : decode prog_12_method_87_code 74 = .ok (.aload_n 0, 1) := by decide +kernel
theorem d_M_rows_75 : decode prog_12_method_87_code 75 = .ok (.dup, 1) := by decide +kernel
theorem d_M_rows_76 : decode prog_12_method_87_code 76 = .ok (.getfield 420, 3) := by decide +kernel
theorem d_M_rows_79 : decode prog_12_method_87_code 79 = .ok (.iload_n 2, 1) := by decide +kernel
theorem d_M_rows_80 : decode prog_12_method_87_code 80 = .ok (.iadd, 1) := by decide +kernel
theorem d_M_rows_81 : decode prog_12_method_87_code 81 = .ok (.putfield 420, 3) := by decide +kernel
theorem d_M_rows_84 : decode prog_12_method_87_code 84 = .ok (.return_, 1) := by decide +kernel
theorem d_M_isSomething_0 : decode prog_12_method_88_code 0 = .ok (.iconst 0, 1) := by decide +kernel
theorem d_M_isSomething_1 : decode prog_12_method_88_code 1 = .ok (.istore_n 2, 1) := by decide +kernel
theorem d_M_isSomething_2 : decode prog_12_method_88_code 2 = .ok (.iload_n 2, 1) := by decide +kernel
theorem d_M_isSomething_3 : decode prog_12_method_88_code 3 = .ok (.aload_n 0, 1) := by decide +kernel
theorem d_M_isSomething_4 : decode prog_12_method_88_code 4 = .ok (.getfield 42, 3) := by decide +kernel
theorem d_M_isSomething_7 : decode prog_12_method_88_code 7 = .ok (.iconst 0, 1) := by decide +kernel
theorem d_M_isSomething_8 : decode prog_12_method_88_code 8 = .ok (.iaload, 1) := by decide +kernel
theorem d_M_isSomething_9 : decode prog_12_method_88_code 9 = .ok (.if_icmp .ge 41, 3) := by decide +kernel
theorem d_M_isSomething_12 : decode prog_12_method_88_code 12 = .ok (.aload_n 0, 1) := by decide +kernel
theorem d_M_isSomething_13 : decode prog_12_method_88_code 13 = .ok (.getfield 51, 3) := by decide +kernel
theorem d_M_isSomething_16 : decode prog_12_method_88_code 16 = .ok (.iload_n 2, 1) := by decide +kernel
theorem d_M_isSomething_17 : decode prog_12_method_88_code 17 = .ok (.iaload, 1) := by decide +kernel
theorem d_M_isSomething_18 : decode prog_12_method_88_code 18 = .ok (.iload_n 1, 1) := by decide +kernel
theorem d_M_isSomething_19 : decode prog_12_method_88_code 19 = .ok (.if_icmp .ne 25, 3) := by decide +kernel
theorem d_M_isSomething_22 : decode prog_12_method_88_code 22 = .ok (.aload_n 0, 1) := by decide +kernel
theorem d_M_isSomething_23 : decode prog_12_method_88_code 23 = .ok (.getfield 42, 3) := by decide +kernel
theorem d_M_isSomething_26 : decode prog_12_method_88_code 26 = .ok (.iconst 3, 1) := by decide +kernel
theorem d_M_isSomething_27 : decode prog_12_method_88_code 27 = .ok (.iaload, 1) := by decide +kernel
theorem d_M_isSomething_28 : decode prog_12_method_88_code 28 = .ok (.aload_n 0, 1) := by decide +kernel
theorem d_M_isSomething_29 : decode prog_12_method_88_code 29 = .ok (.getfield 42, 3) := by decide +kernel
theorem d_M_isSomething_32 : decode prog_12_method_88_code 32 = .ok (.iconst 4, 1) := by decide +kernel
theorem d_M_isSomething_33 : decode prog_12_method_88_code 33 = .ok (.iaload, 1) := by decide +kernel
theorem d_M_isSomething_34 : decode prog_12_method_88_code 34 = .ok (.ior, 1) := by decide +kernel
theorem d_M_isSomething_35 : decode prog_12_method_88_code 35 = .ok (.iload_n 2, 1) := by decide +kernel
theorem d_M_isSomething_36 : decode prog_12_method_88_code 36 = .ok (.invokestatic 317, 3) := by decide +kernel
theorem d_M_isSomething_39 : decode prog_12_method_88_code 39 = .ok (.ifCond .eq 5, 3) := by decide +kernel
theorem d_M_isSomething_42 : decode prog_12_method_88_code 42 = .ok (.iconst 1, 1) := by decide +kernel
theorem d_M_isSomething_43 : decode prog_12_method_88_code 43 = .ok (.ireturn, 1) := by decide +kernel
theorem d_M_isSomething_44 : decode prog_12_method_88_code 44 = .ok (.iinc 2 1, 3) := by decide +kernel
theorem d_M_isSomething_47 : decode prog_12_method_88_code 47 = .ok (.goto (-45), 3) := by decide +kernel
theorem d_M_isSomething_50 : decode prog_12_method_88_code 50 = .ok (.iconst 0, 1) := by decide +kernel
theorem d_M_isSomething_51 : decode prog_12_method_88_code 51 = .ok (.ireturn, 1) := by decide +kernel
theorem d_M_plans_0 : decode prog_12_method_89_code 0 = .ok (.aload_n 0, 1) := by decide +kernel
theorem d_M_plans_1 : decode prog_12_method_89_code 1 = .ok (.iconst 0, 1) := by decide +kernel
theorem d_M_plans_2 : decode prog_12_method_89_code 2 = .ok (.putfield 420, 3) := by decide +kernel
theorem d_M_plans_5 : decode prog_12_method_89_code 5 = .ok (.iconst 0, 1) := by decide +kernel
theorem d_M_plans_6 : decode prog_12_method_89_code 6 = .ok (.istore_n 3, 1) := by decide +kernel
theorem d_M_plans_7 : decode prog_12_method_89_code 7 = .ok (.iconst 0, 1) := by decide +kernel
theorem d_M_plans_8 : decode prog_12_method_89_code 8 = .ok (.istore 4, 2) := by decide +kernel
theorem d_M_plans_10 : decode prog_12_method_89_code 10 = .ok (.iconst 0, 1) := by decide +kernel
theorem d_M_plans_11 : decode prog_12_method_89_code 11 = .ok (.istore 5, 2) := by decide +kernel
theorem d_M_plans_13 : decode prog_12_method_89_code 13 = .ok (.iload 5, 2) := by decide +kernel
theorem d_M_plans_15 : decode prog_12_method_89_code 15 = .ok (.aload_n 0, 1) := by decide +kernel
theorem d_M_plans_16 : decode prog_12_method_89_code 16 = .ok (.getfield 42, 3) := by decide +kernel
theorem d_M_plans_19 : decode prog_12_method_89_code 19 = .ok (.iconst 0, 1) := by decide +kernel
theorem d_M_plans_20 : decode prog_12_method_89_code 20 = .ok (.iaload, 1) := by decide +kernel
theorem d_M_plans_21 : decode prog_12_method_89_code 21 = .ok (.if_icmp .ge 96, 3) := by decide +kernel
theorem d_M_plans_24 : decode prog_12_method_89_code 24 = .ok (.aload_n 0, 1) := by decide +kernel
theorem d_M_plans_25 : decode prog_12_method_89_code 25 = .ok (.getfield 51, 3) := by decide +kernel
theorem d_M_plans_28 : decode prog_12_method_89_code 28 = .ok (.iload 5, 2) := by decide +kernel
theorem d_M_plans_30 : decode prog_12_method_89_code 30 = .ok (.iaload, 1) := by decide +kernel
theorem d_M_plans_31 : decode prog_12_method_89_code 31 = .ok (.iload 5, 2) := by decide +kernel
theorem d_M_plans_33 : decode prog_12_method_89_code 33 = .ok (.if_icmp .ne 78, 3) := by decide +kernel
theorem d_M_plans_36 : decode prog_12_method_89_code 36 = .ok (.aload_n 0, 1) := by decide +kernel
theorem d_M_plans_37 : decode prog_12_method_89_code 37 = .ok (.iload 5, 2) := by decide +kernel
theorem d_M_plans_39 : decode prog_12_method_89_code 39 = .ok (.invokevirtual 423, 3) := by decide +kernel
theorem d_M_plans_42 : decode prog_12_method_89_code 42 = .ok (.ifCond .eq 69, 3) := by decide +kernel
theorem d_M_plans_45 : decode prog_12_method_89_code 45 = .ok (.aload_n 0, 1) := by decide +kernel
theorem d_M_plans_46 : decode prog_12_method_89_code 46 = .ok (.iload 5, 2) := by decide +kernel
theorem d_M_plans_48 : decode prog_12_method_89_code 48 = .ok (.lconst 0, 1) := by decide +kernel
theorem d_M_plans_49 : decode prog_12_method_89_code 49 = .ok (.invokevirtual 417, 3) := by decide +kernel
theorem d_M_plans_52 : decode prog_12_method_89_code 52 = .ok (.ifCond .eq 6, 3) := by decide +kernel
theorem d_M_plans_55 : decode prog_12_method_89_code 55 = .ok (.goto 56, 3) := by decide +kernel
theorem d_M_plans_58 : decode prog_12_method_89_code 58 = .ok (.aload_n 0, 1) := by decide +kernel
theorem d_M_plans_59 : decode prog_12_method_89_code 59 = .ok (.iload 5, 2) := by decide +kernel
theorem d_M_plans_61 : decode prog_12_method_89_code 61 = .ok (.iload_n 1, 1) := by decide +kernel
theorem d_M_plans_62 : decode prog_12_method_89_code 62 = .ok (.iload_n 2, 1) := by decide +kernel
theorem d_M_plans_63 : decode prog_12_method_89_code 63 = .ok (.invokevirtual 426, 3) := by decide +kernel
theorem d_M_plans_66 : decode prog_12_method_89_code 66 = .ok (.istore 6, 2) := by decide +kernel
theorem d_M_plans_68 : decode prog_12_method_89_code 68 = .ok (.iload_n 3, 1) := by decide +kernel
theorem d_M_plans_69 : decode prog_12_method_89_code 69 = .ok (.iload 6, 2) := by decide +kernel
theorem d_M_plans_71 : decode prog_12_method_89_code 71 = .ok (.bipush (-2), 2) := by decide +kernel
theorem d_M_plans_73 : decode prog_12_method_89_code 73 = .ok (.if_icmp .ne 7, 3) := by decide +kernel
theorem d_M_plans_76 : decode prog_12_method_89_code 76 = .ok (.iconst 1, 1) := by decide +kernel
theorem d_M_plans_77 : decode prog_12_method_89_code 77 = .ok (.goto 4, 3) := by decide +kernel
theorem d_M_plans_80 : decode prog_12_method_89_code 80 = .ok (.iconst 0, 1) := by decide +kernel
theorem d_M_plans_81 : decode prog_12_method_89_code 81 = .ok (.ior, 1) := by decide +kernel
theorem d_M_plans_82 : decode prog_12_method_89_code 82 = .ok (.istore_n 3, 1) := by decide +kernel
theorem d_M_plans_83 : decode prog_12_method_89_code 83 = .ok (.iload 4, 2) := by decide +kernel
theorem d_M_plans_85 : decode prog_12_method_89_code 85 = .ok (.iload 6, 2) := by decide +kernel
theorem d_M_plans_87 : decode prog_12_method_89_code 87 = .ok (.bipush (-3), 2) := by decide +kernel
theorem d_M_plans_89 : decode prog_12_method_89_code 89 = .ok (.if_icmp .ne 7, 3) := by decide +kernel
theorem d_M_plans_92 : decode prog_12_method_89_code 92 = .ok (.iconst 1, 1) := by decide +kernel
theorem d_M_plans_93 : decode prog_12_method_89_code 93 = .ok (.goto 4, 3) := by decide +kernel
theorem d_M_plans_96 : decode prog_12_method_89_code 96 = .ok (.iconst 0, 1) := by decide +kernel
theorem d_M_plans_97 : decode prog_12_method_89_code 97 = .ok (.ior, 1) := by decide +kernel
theorem d_M_plans_98 : decode prog_12_method_89_code 98 = .ok (.istore 4, 2) := by decide +kernel
theorem d_M_plans_100 : decode prog_12_method_89_code 100 = .ok (.iload 6, 2) := by decide +kernel
theorem d_M_plans_102 : decode prog_12_method_89_code 102 = .ok (.ifCond .lt 9, 3) := by decide +kernel
theorem d_M_plans_105 : decode prog_12_method_89_code 105 = .ok (.aload_n 0, 1) := by decide +kernel
theorem d_M_plans_106 : decode prog_12_method_89_code 106 = .ok (.iload 6, 2) := by decide +kernel
theorem d_M_plans_108 : decode prog_12_method_89_code 108 = .ok (.invokevirtual 430, 3) := by decide +kernel
theorem d_M_plans_111 : decode prog_12_method_89_code 111 = .ok (.iinc 5 1, 3) := by decide +kernel
theorem d_M_plans_114 : decode prog_12_method_89_code 114 = .ok (.goto (-101), 3) := by decide +kernel
theorem d_M_plans_117 : decode prog_12_method_89_code 117 = .ok (.iload_n 3, 1) := by decide +kernel
theorem d_M_plans_118 : decode prog_12_method_89_code 118 = .ok (.ifCond .eq 8, 3) := by decide +kernel
theorem d_M_plans_121 : decode prog_12_method_89_code 121 = .ok (.bipush (-2), 2) := by decide +kernel
theorem d_M_plans_123 : decode prog_12_method_89_code 123 = .ok (.goto 17, 3) := by decide +kernel
theorem d_M_plans_126 : decode prog_12_method_89_code 126 = .ok (.iload 4, 2) := by decide +kernel
theorem d_M_plans_128 : decode prog_12_method_89_code 128 = .ok (.ifCond .eq 8, 3) := by decide +kernel
theorem d_M_plans_131 : decode prog_12_method_89_code 131 = .ok (.bipush (-3), 2) := by decide +kernel
theorem d_M_plans_133 : decode prog_12_method_89_code 133 = .ok (.goto 7, 3) := by decide +kernel
theorem d_M_plans_136 : decode prog_12_method_89_code 136 = .ok (.aload_n 0, 1) := by decide +kernel
theorem d_M_plans_137 : decode prog_12_method_89_code 137 = .ok (.getfield 420, 3) := by decide +kernel
theorem d_M_plans_140 : decode prog_12_method_89_code 140 = .ok (.ireturn, 1) := by decide +kernel
theorem d_M_canPlan_0 : decode prog_12_method_90_code 0 = .ok (.aload_n 0, 1) := by decide +kernel
theorem d_M_canPlan_1 : decode prog_12_method_90_code 1 = .ok (.getfield 42, 3) := by decide +kernel
theorem d_M_canPlan_4 : decode prog_12_method_90_code 4 = .ok (.iconst 0, 1) := by decide +kernel
theorem d_M_canPlan_5 : decode prog_12_method_90_code 5 = .ok (.iaload, 1) := by decide +kernel
theorem d_M_canPlan_6 : decode prog_12_method_90_code 6 = .ok (.ifCond .le 23, 3) := by decide +kernel
theorem d_M_canPlan_9 : decode prog_12_method_90_code 9 = .ok (.aload_n 0, 1) := by decide +kernel
theorem d_M_canPlan_10 : decode prog_12_method_90_code 10 = .ok (.iload_n 1, 1) := by decide +kernel
theorem d_M_canPlan_11 : decode prog_12_method_90_code 11 = .ok (.invokevirtual 388, 3) := by decide +kernel
theorem d_M_canPlan_14 : decode prog_12_method_90_code 14 = .ok (.ifCond .eq 15, 3) := by decide +kernel
theorem d_M_canPlan_17 : decode prog_12_method_90_code 17 = .ok (.aload_n 0, 1) := by decide +kernel
theorem d_M_canPlan_18 : decode prog_12_method_90_code 18 = .ok (.iload_n 2, 1) := by decide +kernel
theorem d_M_canPlan_19 : decode prog_12_method_90_code 19 = .ok (.invokevirtual 388, 3) := by decide +kernel
theorem d_M_canPlan_22 : decode prog_12_method_90_code 22 = .ok (.ifCond .eq 7, 3) := by decide +kernel
theorem d_M_canPlan_25 : decode prog_12_method_90_code 25 = .ok (.iconst 1, 1) := by decide +kernel
theorem d_M_canPlan_26 : decode prog_12_method_90_code 26 = .ok (.goto 4, 3) := by decide +kernel
theorem d_M_canPlan_29 : decode prog_12_method_90_code 29 = .ok (.iconst 0, 1) := by decide +kernel
theorem d_M_canPlan_30 : decode prog_12_method_90_code 30 = .ok (.ireturn, 1) := by decide +kernel
theorem d_M_planned_0 : decode prog_12_method_91_code 0 = .ok (.aload_n 0, 1) := by decide +kernel
theorem d_M_planned_1 : decode prog_12_method_91_code 1 = .ok (.iload_n 1, 1) := by decide +kernel
theorem d_M_planned_2 : decode prog_12_method_91_code 2 = .ok (.iload_n 2, 1) := by decide +kernel
theorem d_M_planned_3 : decode prog_12_method_91_code 3 = .ok (.invokevirtual 433, 3) := by decide +kernel
theorem d_M_planned_6 : decode prog_12_method_91_code 6 = .ok (.ifCond .eq 12, 3) := by decide +kernel
theorem d_M_planned_9 : decode prog_12_method_91_code 9 = .ok (.aload_n 0, 1) := by decide +kernel
theorem d_M_planned_10 : decode prog_12_method_91_code 10 = .ok (.iload_n 1, 1) := by decide +kernel
theorem d_M_planned_11 : decode prog_12_method_91_code 11 = .ok (.iload_n 2, 1) := by decide +kernel
theorem d_M_planned_12 : decode prog_12_method_91_code 12 = .ok (.invokevirtual 436, 3) := by decide +kernel
theorem d_M_planned_15 : decode prog_12_method_91_code 15 = .ok (.goto 4, 3) := by decide +kernel
theorem d_M_planned_18 : decode prog_12_method_91_code 18 = .ok (.iconst (-1), 1) := by decide +kernel
theorem d_M_planned_19 : decode prog_12_method_91_code 19 = .ok (.ireturn, 1) := by decide +kernel
theorem d_M_row_0 : decode prog_12_method_92_code 0 = .ok (.aload_n 0, 1) := by decide +kernel
theorem d_M_row_1 : decode prog_12_method_92_code 1 = .ok (.iload_n 1, 1) := by decide +kernel
theorem d_M_row_2 : decode prog_12_method_92_code 2 = .ok (.iload_n 2, 1) := by decide +kernel
theorem d_M_row_3 : decode prog_12_method_92_code 3 = .ok (.invokevirtual 433, 3) := by decide +kernel
theorem d_M_row_6 : decode prog_12_method_92_code 6 = .ok (.ifCond .eq 7, 3) := by decide +kernel
theorem d_M_row_9 : decode prog_12_method_92_code 9 = .ok (.iload_n 3, 1) := by decide +kernel
theorem d_M_row_10 : decode prog_12_method_92_code 10 = .ok (.ifCond .ge 5, 3) := by decide +kernel
theorem d_M_row_13 : decode prog_12_method_92_code 13 = .ok (.iconst (-1), 1) := by decide +kernel
theorem d_M_row_14 : decode prog_12_method_92_code 14 = .ok (.ireturn, 1) := by decide +kernel
theorem d_M_row_15 : decode prog_12_method_92_code 15 = .ok (.aload_n 0, 1) := by decide +kernel
theorem d_M_row_16 : decode prog_12_method_92_code 16 = .ok (.iload_n 1, 1) := by decide +kernel
theorem d_M_row_17 : decode prog_12_method_92_code 17 = .ok (.iload_n 2, 1) := by decide +kernel
theorem d_M_row_18 : decode prog_12_method_92_code 18 = .ok (.invokevirtual 436, 3) := by decide +kernel
theorem d_M_row_21 : decode prog_12_method_92_code 21 = .ok (.istore 4, 2) := by decide +kernel
theorem d_M_row_23 : decode prog_12_method_92_code 23 = .ok (.iload 4, 2) := by decide +kernel
theorem d_M_row_25 : decode prog_12_method_92_code 25 = .ok (.ifCond .ge 8, 3) := by decide +kernel
theorem d_M_row_28 : decode prog_12_method_92_code 28 = .ok (.iload 4, 2) := by decide +kernel
theorem d_M_row_30 : decode prog_12_method_92_code 30 = .ok (.goto 20, 3) := by decide +kernel
theorem d_M_row_33 : decode prog_12_method_92_code 33 = .ok (.iload_n 3, 1) := by decide +kernel
theorem d_M_row_34 : decode prog_12_method_92_code 34 = .ok (.iload 4, 2) := by decide +kernel
theorem d_M_row_36 : decode prog_12_method_92_code 36 = .ok (.if_icmp .ge 12, 3) := by decide +kernel
theorem d_M_row_39 : decode prog_12_method_92_code 39 = .ok (.aload_n 0, 1) := by decide +kernel
theorem d_M_row_40 : decode prog_12_method_92_code 40 = .ok (.getfield 80, 3) := by decide +kernel
theorem d_M_row_43 : decode prog_12_method_92_code 43 = .ok (.iload_n 3, 1) := by decide +kernel
theorem d_M_row_44 : decode prog_12_method_92_code 44 = .ok (.iaload, 1) := by decide +kernel
theorem d_M_row_45 : decode prog_12_method_92_code 45 = .ok (.goto 5, 3) := by decide +kernel
theorem d_M_row_48 : decode prog_12_method_92_code 48 = .ok (.bipush (-2), 2) := by decide +kernel
theorem d_M_row_50 : decode prog_12_method_92_code 50 = .ok (.ireturn, 1) := by decide +kernel
theorem d_M_without_0 : decode prog_12_method_93_code 0 = .ok (.iconst 1, 1) := by decide +kernel
theorem d_M_without_1 : decode prog_12_method_93_code 1 = .ok (.istore_n 3, 1) := by decide +kernel
theorem d_M_without_2 : decode prog_12_method_93_code 2 = .ok (.iload_n 3, 1) := by decide +kernel
theorem d_M_without_3 : decode prog_12_method_93_code 3 = .ok (.iconst 4, 1) := by decide +kernel
theorem d_M_without_4 : decode prog_12_method_93_code 4 = .ok (.if_icmp .ge 77, 3) := by decide +kernel
theorem d_M_without_7 : decode prog_12_method_93_code 7 = .ok (.iconst 1, 1) := by decide +kernel
theorem d_M_without_8 : decode prog_12_method_93_code 8 = .ok (.istore 4, 2) := by decide +kernel
theorem d_M_without_10 : decode prog_12_method_93_code 10 = .ok (.iload 4, 2) := by decide +kernel
theorem d_M_without_12 : decode prog_12_method_93_code 12 = .ok (.iconst 1, 1) := by decide +kernel
theorem d_M_without_13 : decode prog_12_method_93_code 13 = .ok (.aload_n 0, 1) := by decide +kernel
theorem d_M_without_14 : decode prog_12_method_93_code 14 = .ok (.getfield 42, 3) := by decide +kernel
theorem d_M_without_17 : decode prog_12_method_93_code 17 = .ok (.iconst 1, 1) := by decide +kernel
theorem d_M_without_18 : decode prog_12_method_93_code 18 = .ok (.iaload, 1) := by decide +kernel
theorem d_M_without_19 : decode prog_12_method_93_code 19 = .ok (.ishl, 1) := by decide +kernel
theorem d_M_without_20 : decode prog_12_method_93_code 20 = .ok (.if_icmp .ge 55, 3) := by decide +kernel
theorem d_M_without_23 : decode prog_12_method_93_code 23 = .ok (.iload 4, 2) := by decide +kernel
theorem d_M_without_25 : decode prog_12_method_93_code 25 = .ok (.invokestatic 439, 3) := by decide +kernel
theorem d_M_without_28 : decode prog_12_method_93_code 28 = .ok (.iload_n 3, 1) := by decide +kernel
theorem d_M_without_29 : decode prog_12_method_93_code 29 = .ok (.if_icmp .eq 6, 3) := by decide +kernel
theorem d_M_without_32 : decode prog_12_method_93_code 32 = .ok (.goto 37, 3) := by decide +kernel
theorem d_M_without_35 : decode prog_12_method_93_code 35 = .ok (.aload_n 0, 1) := by decide +kernel
theorem d_M_without_36 : decode prog_12_method_93_code 36 = .ok (.iload 4, 2) := by decide +kernel
theorem d_M_without_38 : decode prog_12_method_93_code 38 = .ok (.invokevirtual 331, 3) := by decide +kernel
theorem d_M_without_41 : decode prog_12_method_93_code 41 = .ok (.iload_n 2, 1) := by decide +kernel
theorem d_M_without_42 : decode prog_12_method_93_code 42 = .ok (.ifCond .ge 15, 3) := by decide +kernel
theorem d_M_without_45 : decode prog_12_method_93_code 45 = .ok (.aload_n 0, 1) := by decide +kernel
theorem d_M_without_46 : decode prog_12_method_93_code 46 = .ok (.getfield 60, 3) := by decide +kernel
theorem d_M_without_49 : decode prog_12_method_93_code 49 = .ok (.iload_n 1, 1) := by decide +kernel
theorem d_M_without_50 : decode prog_12_method_93_code 50 = .ok (.baload, 1) := by decide +kernel
theorem d_M_without_51 : decode prog_12_method_93_code 51 = .ok (.ifCond .ne 18, 3) := by decide +kernel
theorem d_M_without_54 : decode prog_12_method_93_code 54 = .ok (.goto 12, 3) := by decide +kernel
theorem d_M_without_57 : decode prog_12_method_93_code 57 = .ok (.aload_n 0, 1) := by decide +kernel
theorem d_M_without_58 : decode prog_12_method_93_code 58 = .ok (.iload_n 1, 1) := by decide +kernel
theorem d_M_without_59 : decode prog_12_method_93_code 59 = .ok (.iload_n 2, 1) := by decide +kernel
theorem d_M_without_60 : decode prog_12_method_93_code 60 = .ok (.invokevirtual 363, 3) := by decide +kernel
theorem d_M_without_63 : decode prog_12_method_93_code 63 = .ok (.ifCond .ne 6, 3) := by decide +kernel
theorem d_M_without_66 : decode prog_12_method_93_code 66 = .ok (.iload 4, 2) := by decide +kernel
theorem d_M_without_68 : decode prog_12_method_93_code 68 = .ok (.ireturn, 1) := by decide +kernel
theorem d_M_without_69 : decode prog_12_method_93_code 69 = .ok (.iinc 4 1, 3) := by decide +kernel
theorem d_M_without_72 : decode prog_12_method_93_code 72 = .ok (.goto (-62), 3) := by decide +kernel
theorem d_M_without_75 : decode prog_12_method_93_code 75 = .ok (.iinc 3 1, 3) := by decide +kernel
theorem d_M_without_78 : decode prog_12_method_93_code 78 = .ok (.goto (-76), 3) := by decide +kernel
theorem d_M_without_81 : decode prog_12_method_93_code 81 = .ok (.bipush (-2), 2) := by decide +kernel
theorem d_M_without_83 : decode prog_12_method_93_code 83 = .ok (.ireturn, 1) := by decide +kernel
theorem d_M_cut_0 : decode prog_12_method_94_code 0 = .ok (.aload_n 0, 1) := by decide +kernel
theorem d_M_cut_1 : decode prog_12_method_94_code 1 = .ok (.iload_n 1, 1) := by decide +kernel
theorem d_M_cut_2 : decode prog_12_method_94_code 2 = .ok (.invokevirtual 353, 3) := by decide +kernel
theorem d_M_cut_5 : decode prog_12_method_94_code 5 = .ok (.ifCond .eq 25, 3) := by decide +kernel
theorem d_M_cut_8 : decode prog_12_method_94_code 8 = .ok (.aload_n 0, 1) := by decide +kernel
theorem d_M_cut_9 : decode prog_12_method_94_code 9 = .ok (.iload_n 2, 1) := by decide +kernel
theorem d_M_cut_10 : decode prog_12_method_94_code 10 = .ok (.invokevirtual 353, 3) := by decide +kernel
theorem d_M_cut_13 : decode prog_12_method_94_code 13 = .ok (.ifCond .eq 17, 3) := by decide +kernel
theorem d_M_cut_16 : decode prog_12_method_94_code 16 = .ok (.iload_n 1, 1) := by decide +kernel
theorem d_M_cut_17 : decode prog_12_method_94_code 17 = .ok (.iload_n 2, 1) := by decide +kernel
theorem d_M_cut_18 : decode prog_12_method_94_code 18 = .ok (.if_icmp .eq 12, 3) := by decide +kernel
theorem d_M_cut_21 : decode prog_12_method_94_code 21 = .ok (.aload_n 0, 1) := by decide +kernel
theorem d_M_cut_22 : decode prog_12_method_94_code 22 = .ok (.iload_n 1, 1) := by decide +kernel
theorem d_M_cut_23 : decode prog_12_method_94_code 23 = .ok (.iload_n 2, 1) := by decide +kernel
theorem d_M_cut_24 : decode prog_12_method_94_code 24 = .ok (.invokevirtual 363, 3) := by decide +kernel
theorem d_M_cut_27 : decode prog_12_method_94_code 27 = .ok (.ifCond .ne 5, 3) := by decide +kernel
theorem d_M_cut_30 : decode prog_12_method_94_code 30 = .ok (.iconst (-1), 1) := by decide +kernel
theorem d_M_cut_31 : decode prog_12_method_94_code 31 = .ok (.ireturn, 1) := by decide +kernel
theorem d_M_cut_32 : decode prog_12_method_94_code 32 = .ok (.aload_n 0, 1) := by decide +kernel
theorem d_M_cut_33 : decode prog_12_method_94_code 33 = .ok (.iload_n 1, 1) := by decide +kernel
theorem d_M_cut_34 : decode prog_12_method_94_code 34 = .ok (.iload_n 2, 1) := by decide +kernel
theorem d_M_cut_35 : decode prog_12_method_94_code 35 = .ok (.invokevirtual 442, 3) := by decide +kernel
theorem d_M_cut_38 : decode prog_12_method_94_code 38 = .ok (.istore_n 3, 1) := by decide +kernel
theorem d_M_cut_39 : decode prog_12_method_94_code 39 = .ok (.aload_n 0, 1) := by decide +kernel
theorem d_M_cut_40 : decode prog_12_method_94_code 40 = .ok (.iconst 0, 1) := by decide +kernel
theorem d_M_cut_41 : decode prog_12_method_94_code 41 = .ok (.invokevirtual 331, 3) := by decide +kernel
theorem d_M_cut_44 : decode prog_12_method_94_code 44 = .ok (.iload_n 3, 1) := by decide +kernel
theorem d_M_cut_45 : decode prog_12_method_94_code 45 = .ok (.ireturn, 1) := by decide +kernel
theorem d_M_freed_0 : decode prog_12_method_95_code 0 = .ok (.aload_n 0, 1) := by decide +kernel
theorem d_M_freed_1 : decode prog_12_method_95_code 1 = .ok (.iload_n 1, 1) := by decide +kernel
theorem d_M_freed_2 : decode prog_12_method_95_code 2 = .ok (.invokevirtual 353, 3) := by decide +kernel
theorem d_M_freed_5 : decode prog_12_method_95_code 5 = .ok (.ifCond .eq 12, 3) := by decide +kernel
theorem d_M_freed_8 : decode prog_12_method_95_code 8 = .ok (.aload_n 0, 1) := by decide +kernel
theorem d_M_freed_9 : decode prog_12_method_95_code 9 = .ok (.getfield 60, 3) := by decide +kernel
theorem d_M_freed_12 : decode prog_12_method_95_code 12 = .ok (.iload_n 1, 1) := by decide +kernel
theorem d_M_freed_13 : decode prog_12_method_95_code 13 = .ok (.baload, 1) := by decide +kernel
theorem d_M_freed_14 : decode prog_12_method_95_code 14 = .ok (.ifCond .ne 5, 3) := by decide +kernel
theorem d_M_freed_17 : decode prog_12_method_95_code 17 = .ok (.iconst (-1), 1) := by decide +kernel
theorem d_M_freed_18 : decode prog_12_method_95_code 18 = .ok (.ireturn, 1) := by decide +kernel
theorem d_M_freed_19 : decode prog_12_method_95_code 19 = .ok (.aload_n 0, 1) := by decide +kernel
theorem d_M_freed_20 : decode prog_12_method_95_code 20 = .ok (.iload_n 1, 1) := by decide +kernel
theorem d_M_freed_21 : decode prog_12_method_95_code 21 = .ok (.iconst (-1), 1) := by decide +kernel
theorem d_M_freed_22 : decode prog_12_method_95_code 22 = .ok (.invokevirtual 442, 3) := by decide +kernel
theorem d_M_freed_25 : decode prog_12_method_95_code 25 = .ok (.istore_n 2, 1) := by decide +kernel
theorem d_M_freed_26 : decode prog_12_method_95_code 26 = .ok (.aload_n 0, 1) := by decide +kernel
theorem d_M_freed_27 : decode prog_12_method_95_code 27 = .ok (.iconst 0, 1) := by decide +kernel
theorem d_M_freed_28 : decode prog_12_method_95_code 28 = .ok (.invokevirtual 331, 3) := by decide +kernel
theorem d_M_freed_31 : decode prog_12_method_95_code 31 = .ok (.iload_n 2, 1) := by decide +kernel
theorem d_M_freed_32 : decode prog_12_method_95_code 32 = .ok (.ireturn, 1) := by decide +kernel
theorem d_M_seen_0 : decode prog_12_method_96_code 0 = .ok (.iload_n 1, 1) := by decide +kernel
theorem d_M_seen_1 : decode prog_12_method_96_code 1 = .ok (.iconst (-1), 1) := by decide +kernel
theorem d_M_seen_2 : decode prog_12_method_96_code 2 = .ok (.if_icmp .ne 13, 3) := by decide +kernel
theorem d_M_seen_5 : decode prog_12_method_96_code 5 = .ok (.aload_n 0, 1) := by decide +kernel
theorem d_M_seen_6 : decode prog_12_method_96_code 6 = .ok (.getfield 42, 3) := by decide +kernel
theorem d_M_seen_9 : decode prog_12_method_96_code 9 = .ok (.bipush 6, 2) := by decide +kernel
theorem d_M_seen_11 : decode prog_12_method_96_code 11 = .ok (.iconst 0, 1) := by decide +kernel
theorem d_M_seen_12 : decode prog_12_method_96_code 12 = .ok (.iastore, 1) := by decide +kernel
theorem d_M_seen_13 : decode prog_12_method_96_code 13 = .ok (.iconst 1, 1) := by decide +kernel
theorem d_M_seen_14 : decode prog_12_method_96_code 14 = .ok (.ireturn, 1) := by decide +kernel
theorem d_M_seen_15 : decode prog_12_method_96_code 15 = .ok (.aload_n 0, 1) := by decide +kernel
theorem d_M_seen_16 : decode prog_12_method_96_code 16 = .ok (.iload_n 1, 1) := by decide +kernel
theorem d_M_seen_17 : decode prog_12_method_96_code 17 = .ok (.invokevirtual 353, 3) := by decide +kernel
theorem d_M_seen_20 : decode prog_12_method_96_code 20 = .ok (.ifCond .eq 17, 3) := by decide +kernel
theorem d_M_seen_23 : decode prog_12_method_96_code 23 = .ok (.iload_n 2, 1) := by decide +kernel
theorem d_M_seen_24 : decode prog_12_method_96_code 24 = .ok (.i2l, 1) := by decide +kernel
theorem d_M_seen_25 : decode prog_12_method_96_code 25 = .ok (.ldc2_w 445, 3) := by decide +kernel
theorem d_M_seen_28 : decode prog_12_method_96_code 28 = .ok (.ldc2_w 447, 3) := by decide +kernel
theorem d_M_seen_31 : decode prog_12_method_96_code 31 = .ok (.invokestatic 138, 3) := by decide +kernel
theorem d_M_seen_34 : decode prog_12_method_96_code 34 = .ok (.ifCond .ne 5, 3) := by decide +kernel
theorem d_M_seen_37 : decode prog_12_method_96_code 37 = .ok (.iconst 0, 1) := by decide +kernel
theorem d_M_seen_38 : decode prog_12_method_96_code 38 = .ok (.ireturn, 1) := by decide +kernel
theorem d_M_seen_39 : decode prog_12_method_96_code 39 = .ok (.aload_n 0, 1) := by decide +kernel
theorem d_M_seen_40 : decode prog_12_method_96_code 40 = .ok (.getfield 42, 3) := by decide +kernel
theorem d_M_seen_43 : decode prog_12_method_96_code 43 = .ok (.bipush 6, 2) := by decide +kernel
theorem d_M_seen_45 : decode prog_12_method_96_code 45 = .ok (.dup2, 1) := by decide +kernel
theorem d_M_seen_46 : decode prog_12_method_96_code 46 = .ok (.iaload, 1) := by decide +kernel
theorem d_M_seen_47 : decode prog_12_method_96_code 47 = .ok (.iconst 1, 1) := by decide +kernel
theorem d_M_seen_48 : decode prog_12_method_96_code 48 = .ok (.iload_n 1, 1) := by decide +kernel
theorem d_M_seen_49 : decode prog_12_method_96_code 49 = .ok (.ishl, 1) := by decide +kernel
theorem d_M_seen_50 : decode prog_12_method_96_code 50 = .ok (.ior, 1) := by decide +kernel
theorem d_M_seen_51 : decode prog_12_method_96_code 51 = .ok (.iastore, 1) := by decide +kernel
theorem d_M_seen_52 : decode prog_12_method_96_code 52 = .ok (.aload_n 0, 1) := by decide +kernel
theorem d_M_seen_53 : decode prog_12_method_96_code 53 = .ok (.getfield 42, 3) := by decide +kernel
theorem d_M_seen_56 : decode prog_12_method_96_code 56 = .ok (.bipush 82, 2) := by decide +kernel
theorem d_M_seen_58 : decode prog_12_method_96_code 58 = .ok (.iload_n 1, 1) := by decide +kernel
theorem d_M_seen_59 : decode prog_12_method_96_code 59 = .ok (.iadd, 1) := by decide +kernel
theorem d_M_seen_60 : decode prog_12_method_96_code 60 = .ok (.iload_n 2, 1) := by decide +kernel
theorem d_M_seen_61 : decode prog_12_method_96_code 61 = .ok (.iastore, 1) := by decide +kernel
theorem d_M_seen_62 : decode prog_12_method_96_code 62 = .ok (.iconst 1, 1) := by decide +kernel
theorem d_M_seen_63 : decode prog_12_method_96_code 63 = .ok (.ireturn, 1) := by decide +kernel
theorem d_M_areSeen_0 : decode prog_12_method_97_code 0 = .ok (.iconst 0, 1) := by decide +kernel
theorem d_M_areSeen_1 : decode prog_12_method_97_code 1 = .ok (.istore_n 3, 1) := by decide +kernel
theorem d_M_areSeen_2 : decode prog_12_method_97_code 2 = .ok (.iload_n 3, 1) := by decide +kernel
theorem d_M_areSeen_3 : decode prog_12_method_97_code 3 = .ok (.aload_n 0, 1) := by decide +kernel
theorem d_M_areSeen_4 : decode prog_12_method_97_code 4 = .ok (.getfield 42, 3) := by decide +kernel
theorem d_M_areSeen_7 : decode prog_12_method_97_code 7 = .ok (.iconst 0, 1) := by decide +kernel
theorem d_M_areSeen_8 : decode prog_12_method_97_code 8 = .ok (.iaload, 1) := by decide +kernel
theorem d_M_areSeen_9 : decode prog_12_method_97_code 9 = .ok (.if_icmp .ge 69, 3) := by decide +kernel
theorem d_M_areSeen_12 : decode prog_12_method_97_code 12 = .ok (.aload_n 0, 1) := by decide +kernel
theorem d_M_areSeen_13 : decode prog_12_method_97_code 13 = .ok (.getfield 42, 3) := by decide +kernel
theorem d_M_areSeen_16 : decode prog_12_method_97_code 16 = .ok (.bipush 6, 2) := by decide +kernel
theorem d_M_areSeen_18 : decode prog_12_method_97_code 18 = .ok (.iaload, 1) := by decide +kernel
theorem d_M_areSeen_19 : decode prog_12_method_97_code 19 = .ok (.iload_n 3, 1) := by decide +kernel
theorem d_M_areSeen_20 : decode prog_12_method_97_code 20 = .ok (.invokestatic 317, 3) := by decide +kernel
theorem d_M_areSeen_23 : decode prog_12_method_97_code 23 = .ok (.ifCond .eq 49, 3) := by decide +kernel
theorem d_M_areSeen_26 : decode prog_12_method_97_code 26 = .ok (.aload_n 0, 1) := by decide +kernel
theorem d_M_areSeen_27 : decode prog_12_method_97_code 27 = .ok (.getfield 45, 3) := by decide +kernel
theorem d_M_areSeen_30 : decode prog_12_method_97_code 30 = .ok (.iload_n 3, 1) := by decide +kernel
theorem d_M_areSeen_31 : decode prog_12_method_97_code 31 = .ok (.laload, 1) := by decide +kernel
theorem d_M_areSeen_32 : decode prog_12_method_97_code 32 = .ok (.iload_n 3, 1) := by decide +kernel
theorem d_M_areSeen_33 : decode prog_12_method_97_code 33 = .ok (.iload_n 1, 1) := by decide +kernel
theorem d_M_areSeen_34 : decode prog_12_method_97_code 34 = .ok (.if_icmp .ne 13, 3) := by decide +kernel
theorem d_M_areSeen_37 : decode prog_12_method_97_code 37 = .ok (.iload_n 2, 1) := by decide +kernel
theorem d_M_areSeen_38 : decode prog_12_method_97_code 38 = .ok (.i2l, 1) := by decide +kernel
theorem d_M_areSeen_39 : decode prog_12_method_97_code 39 = .ok (.aload_n 0, 1) := by decide +kernel
theorem d_M_areSeen_40 : decode prog_12_method_97_code 40 = .ok (.getfield 64, 3) := by decide +kernel
theorem d_M_areSeen_43 : decode prog_12_method_97_code 43 = .ok (.lmul, 1) := by decide +kernel
theorem d_M_areSeen_44 : decode prog_12_method_97_code 44 = .ok (.goto 4, 3) := by decide +kernel
theorem d_M_areSeen_47 : decode prog_12_method_97_code 47 = .ok (.lconst 0, 1) := by decide +kernel
theorem d_M_areSeen_48 : decode prog_12_method_97_code 48 = .ok (.ladd, 1) := by decide +kernel
theorem d_M_areSeen_49 : decode prog_12_method_97_code 49 = .ok (.aload_n 0, 1) := by decide +kernel
theorem d_M_areSeen_50 : decode prog_12_method_97_code 50 = .ok (.getfield 64, 3) := by decide +kernel
theorem d_M_areSeen_53 : decode prog_12_method_97_code 53 = .ok (.invokestatic 343, 3) := by decide +kernel
theorem d_M_areSeen_56 : decode prog_12_method_97_code 56 = .ok (.aload_n 0, 1) := by decide +kernel
theorem d_M_areSeen_57 : decode prog_12_method_97_code 57 = .ok (.getfield 42, 3) := by decide +kernel
theorem d_M_areSeen_60 : decode prog_12_method_97_code 60 = .ok (.bipush 82, 2) := by decide +kernel
theorem d_M_areSeen_62 : decode prog_12_method_97_code 62 = .ok (.iload_n 3, 1) := by decide +kernel
theorem d_M_areSeen_63 : decode prog_12_method_97_code 63 = .ok (.iadd, 1) := by decide +kernel
theorem d_M_areSeen_64 : decode prog_12_method_97_code 64 = .ok (.iaload, 1) := by decide +kernel
theorem d_M_areSeen_65 : decode prog_12_method_97_code 65 = .ok (.i2l, 1) := by decide +kernel
theorem d_M_areSeen_66 : decode prog_12_method_97_code 66 = .ok (.lcmp, 1) := by decide +kernel
theorem d_M_areSeen_67 : decode prog_12_method_97_code 67 = .ok (.ifCond .eq 5, 3) := by decide +kernel
theorem d_M_areSeen_70 : decode prog_12_method_97_code 70 = .ok (.iconst 0, 1) := by decide +kernel
theorem d_M_areSeen_71 : decode prog_12_method_97_code 71 = .ok (.ireturn, 1) := by decide +kernel
theorem d_M_areSeen_72 : decode prog_12_method_97_code 72 = .ok (.iinc 3 1, 3) := by decide +kernel
theorem d_M_areSeen_75 : decode prog_12_method_97_code 75 = .ok (.goto (-73), 3) := by decide +kernel
theorem d_M_areSeen_78 : decode prog_12_method_97_code 78 = .ok (.iconst 1, 1) := by decide +kernel
theorem d_M_areSeen_79 : decode prog_12_method_97_code 79 = .ok (.ireturn, 1) := by decide +kernel
theorem d_M_slipped_0 : decode prog_12_method_98_code 0 = .ok (.aload_n 0, 1) := by decide +kernel
theorem d_M_slipped_1 : decode prog_12_method_98_code 1 = .ok (.getfield 42, 3) := by decide +kernel
theorem d_M_slipped_4 : decode prog_12_method_98_code 4 = .ok (.iconst 0, 1) := by decide +kernel
theorem d_M_slipped_5 : decode prog_12_method_98_code 5 = .ok (.iaload, 1) := by decide +kernel
theorem d_M_slipped_6 : decode prog_12_method_98_code 6 = .ok (.ifCond .eq 15, 3) := by decide +kernel
theorem d_M_slipped_9 : decode prog_12_method_98_code 9 = .ok (.iload_n 1, 1) := by decide +kernel
theorem d_M_slipped_10 : decode prog_12_method_98_code 10 = .ok (.i2l, 1) := by decide +kernel
theorem d_M_slipped_11 : decode prog_12_method_98_code 11 = .ok (.lconst 0, 1) := by decide +kernel
theorem d_M_slipped_12 : decode prog_12_method_98_code 12 = .ok (.ldc2_w 341, 3) := by decide +kernel
theorem d_M_slipped_15 : decode prog_12_method_98_code 15 = .ok (.invokestatic 138, 3) := by decide +kernel
theorem d_M_slipped_18 : decode prog_12_method_98_code 18 = .ok (.ifCond .ne 5, 3) := by decide +kernel
theorem d_M_slipped_21 : decode prog_12_method_98_code 21 = .ok (.iconst (-1), 1) := by decide +kernel
theorem d_M_slipped_22 : decode prog_12_method_98_code 22 = .ok (.ireturn, 1) := by decide +kernel
theorem d_M_slipped_23 : decode prog_12_method_98_code 23 = .ok (.iconst 0, 1) := by decide +kernel
theorem d_M_slipped_24 : decode prog_12_method_98_code 24 = .ok (.istore_n 2, 1) := by decide +kernel
theorem d_M_slipped_25 : decode prog_12_method_98_code 25 = .ok (.bipush (-2), 2) := by decide +kernel
theorem d_M_slipped_27 : decode prog_12_method_98_code 27 = .ok (.istore_n 3, 1) := by decide +kernel
theorem d_M_slipped_28 : decode prog_12_method_98_code 28 = .ok (.iconst 0, 1) := by decide +kernel
theorem d_M_slipped_29 : decode prog_12_method_98_code 29 = .ok (.istore 4, 2) := by decide +kernel
theorem d_M_slipped_31 : decode prog_12_method_98_code 31 = .ok (.iconst 0, 1) := by decide +kernel
theorem d_M_slipped_32 : decode prog_12_method_98_code 32 = .ok (.istore 5, 2) := by decide +kernel
theorem d_M_slipped_34 : decode prog_12_method_98_code 34 = .ok (.iload 5, 2) := by decide +kernel
theorem d_M_slipped_36 : decode prog_12_method_98_code 36 = .ok (.aload_n 0, 1) := by decide +kernel
theorem d_M_slipped_37 : decode prog_12_method_98_code 37 = .ok (.getfield 42, 3) := by decide +kernel
theorem d_M_slipped_40 : decode prog_12_method_98_code 40 = .ok (.iconst 0, 1) := by decide +kernel
theorem d_M_slipped_41 : decode prog_12_method_98_code 41 = .ok (.iaload, 1) := by decide +kernel
theorem d_M_slipped_42 : decode prog_12_method_98_code 42 = .ok (.if_icmp .ge 81, 3) := by decide +kernel
theorem d_M_slipped_45 : decode prog_12_method_98_code 45 = .ok (.aload_n 0, 1) := by decide +kernel
theorem d_M_slipped_46 : decode prog_12_method_98_code 46 = .ok (.iconst (-1), 1) := by decide +kernel
theorem d_M_slipped_47 : decode prog_12_method_98_code 47 = .ok (.iconst 0, 1) := by decide +kernel
theorem d_M_slipped_48 : decode prog_12_method_98_code 48 = .ok (.invokevirtual 449, 3) := by decide +kernel
theorem d_M_slipped_51 : decode prog_12_method_98_code 51 = .ok (.ifCond .ne 72, 3) := by decide +kernel
theorem d_M_slipped_54 : decode prog_12_method_98_code 54 = .ok (.bipush (-9), 2) := by decide +kernel
theorem d_M_slipped_56 : decode prog_12_method_98_code 56 = .ok (.istore 6, 2) := by decide +kernel
theorem d_M_slipped_58 : decode prog_12_method_98_code 58 = .ok (.iload 6, 2) := by decide +kernel
theorem d_M_slipped_60 : decode prog_12_method_98_code 60 = .ok (.bipush 9, 2) := by decide +kernel
theorem d_M_slipped_62 : decode prog_12_method_98_code 62 = .ok (.if_icmp .gt 55, 3) := by decide +kernel
theorem d_M_slipped_65 : decode prog_12_method_98_code 65 = .ok (.iload 6, 2) := by decide +kernel
theorem d_M_slipped_67 : decode prog_12_method_98_code 67 = .ok (.ifCond .eq 44, 3) := by decide +kernel
theorem d_M_slipped_70 : decode prog_12_method_98_code 70 = .ok (.aload_n 0, 1) := by decide +kernel
theorem d_M_slipped_71 : decode prog_12_method_98_code 71 = .ok (.iload 5, 2) := by decide +kernel
theorem d_M_slipped_73 : decode prog_12_method_98_code 73 = .ok (.iload 6, 2) := by decide +kernel
theorem d_M_slipped_75 : decode prog_12_method_98_code 75 = .ok (.invokevirtual 449, 3) := by decide +kernel
theorem d_M_slipped_78 : decode prog_12_method_98_code 78 = .ok (.ifCond .ne 6, 3) := by decide +kernel
theorem d_M_slipped_81 : decode prog_12_method_98_code 81 = .ok (.goto 30, 3) := by decide +kernel
theorem d_M_slipped_84 : decode prog_12_method_98_code 84 = .ok (.iload_n 2, 1) := by decide +kernel
theorem d_M_slipped_85 : decode prog_12_method_98_code 85 = .ok (.ifCond .ne 8, 3) := by decide +kernel
theorem d_M_slipped_88 : decode prog_12_method_98_code 88 = .ok (.iload 5, 2) := by decide +kernel
theorem d_M_slipped_90 : decode prog_12_method_98_code 90 = .ok (.goto 4, 3) := by decide +kernel
theorem d_M_slipped_93 : decode prog_12_method_98_code 93 = .ok (.iload_n 3, 1) := by decide +kernel
theorem d_M_slipped_94 : decode prog_12_method_98_code 94 = .ok (.istore_n 3, 1) := by decide +kernel
theorem d_M_slipped_95 : decode prog_12_method_98_code 95 = .ok (.iload_n 2, 1) := by decide +kernel
theorem d_M_slipped_96 : decode prog_12_method_98_code 96 = .ok (.ifCond .ne 8, 3) := by decide +kernel
theorem d_M_slipped_99 : decode prog_12_method_98_code 99 = .ok (.iload 6, 2) := by decide +kernel
theorem d_M_slipped_101 : decode prog_12_method_98_code 101 = .ok (.goto 5, 3) := by decide +kernel
theorem d_M_slipped_104 : decode prog_12_method_98_code 104 = .ok (.iload 4, 2) := by decide +kernel
theorem d_M_slipped_106 : decode prog_12_method_98_code 106 = .ok (.istore 4, 2) := by decide +kernel
theorem d_M_slipped_108 : decode prog_12_method_98_code 108 = .ok (.iinc 2 1, 3) := by decide +kernel
theorem d_M_slipped_111 : decode prog_12_method_98_code 111 = .ok (.iinc 6 1, 3) := by decide +kernel
theorem d_M_slipped_114 : decode prog_12_method_98_code 114 = .ok (.goto (-56), 3) := by decide +kernel
theorem d_M_slipped_117 : decode prog_12_method_98_code 117 = .ok (.iinc 5 1, 3) := by decide +kernel
theorem d_M_slipped_120 : decode prog_12_method_98_code 120 = .ok (.goto (-86), 3) := by decide +kernel
theorem d_M_slipped_123 : decode prog_12_method_98_code 123 = .ok (.iload_n 1, 1) := by decide +kernel
theorem d_M_slipped_124 : decode prog_12_method_98_code 124 = .ok (.ifCond .ne 7, 3) := by decide +kernel
theorem d_M_slipped_127 : decode prog_12_method_98_code 127 = .ok (.iload_n 2, 1) := by decide +kernel
theorem d_M_slipped_128 : decode prog_12_method_98_code 128 = .ok (.goto 14, 3) := by decide +kernel
theorem d_M_slipped_131 : decode prog_12_method_98_code 131 = .ok (.iload_n 1, 1) := by decide +kernel
theorem d_M_slipped_132 : decode prog_12_method_98_code 132 = .ok (.iconst 1, 1) := by decide +kernel
theorem d_M_slipped_133 : decode prog_12_method_98_code 133 = .ok (.if_icmp .ne 7, 3) := by decide +kernel
theorem d_M_slipped_136 : decode prog_12_method_98_code 136 = .ok (.iload_n 3, 1) := by decide +kernel
theorem d_M_slipped_137 : decode prog_12_method_98_code 137 = .ok (.goto 5, 3) := by decide +kernel
theorem d_M_slipped_140 : decode prog_12_method_98_code 140 = .ok (.iload 4, 2) := by decide +kernel
theorem d_M_slipped_142 : decode prog_12_method_98_code 142 = .ok (.ireturn, 1) := by decide +kernel
theorem d_M_coming_0 : decode prog_12_method_99_code 0 = .ok (.iload_n 1, 1) := by decide +kernel
theorem d_M_coming_1 : decode prog_12_method_99_code 1 = .ok (.iconst (-1), 1) := by decide +kernel
theorem d_M_coming_2 : decode prog_12_method_99_code 2 = .ok (.if_icmp .ne 12, 3) := by decide +kernel
theorem d_M_coming_5 : decode prog_12_method_99_code 5 = .ok (.aload_n 0, 1) := by decide +kernel
theorem d_M_coming_6 : decode prog_12_method_99_code 6 = .ok (.getfield 42, 3) := by decide +kernel
theorem d_M_coming_9 : decode prog_12_method_99_code 9 = .ok (.iconst 5, 1) := by decide +kernel
theorem d_M_coming_10 : decode prog_12_method_99_code 10 = .ok (.iconst 0, 1) := by decide +kernel
theorem d_M_coming_11 : decode prog_12_method_99_code 11 = .ok (.iastore, 1) := by decide +kernel
theorem d_M_coming_12 : decode prog_12_method_99_code 12 = .ok (.iconst 0, 1) := by decide +kernel
theorem d_M_coming_13 : decode prog_12_method_99_code 13 = .ok (.ireturn, 1) := by decide +kernel
theorem d_M_coming_14 : decode prog_12_method_99_code 14 = .ok (.aload_n 0, 1) := by decide +kernel
theorem d_M_coming_15 : decode prog_12_method_99_code 15 = .ok (.iload_n 1, 1) := by decide +kernel
theorem d_M_coming_16 : decode prog_12_method_99_code 16 = .ok (.invokevirtual 353, 3) := by decide +kernel
theorem d_M_coming_19 : decode prog_12_method_99_code 19 = .ok (.ifCond .eq 14, 3) := by decide +kernel
theorem d_M_coming_22 : decode prog_12_method_99_code 22 = .ok (.aload_n 0, 1) := by decide +kernel
theorem d_M_coming_23 : decode prog_12_method_99_code 23 = .ok (.getfield 42, 3) := by decide +kernel
theorem d_M_coming_26 : decode prog_12_method_99_code 26 = .ok (.iconst 5, 1) := by decide +kernel
theorem d_M_coming_27 : decode prog_12_method_99_code 27 = .ok (.iaload, 1) := by decide +kernel
theorem d_M_coming_28 : decode prog_12_method_99_code 28 = .ok (.bipush 40, 2) := by decide +kernel
theorem d_M_coming_30 : decode prog_12_method_99_code 30 = .ok (.if_icmp .ne 6, 3) := by decide +kernel
theorem d_M_coming_33 : decode prog_12_method_99_code 33 = .ok (.bipush (-2), 2) := by decide +kernel
theorem d_M_coming_35 : decode prog_12_method_99_code 35 = .ok (.ireturn, 1) := by decide +kernel
theorem d_M_coming_36 : decode prog_12_method_99_code 36 = .ok (.aload_n 0, 1) := by decide +kernel
theorem d_M_coming_37 : decode prog_12_method_99_code 37 = .ok (.getfield 42, 3) := by decide +kernel
theorem d_M_coming_40 : decode prog_12_method_99_code 40 = .ok (.bipush 94, 2) := by decide +kernel
theorem d_M_coming_42 : decode prog_12_method_99_code 42 = .ok (.aload_n 0, 1) := by decide +kernel
theorem d_M_coming_43 : decode prog_12_method_99_code 43 = .ok (.getfield 42, 3) := by decide +kernel
theorem d_M_coming_46 : decode prog_12_method_99_code 46 = .ok (.iconst 5, 1) := by decide +kernel
theorem d_M_coming_47 : decode prog_12_method_99_code 47 = .ok (.iaload, 1) := by decide +kernel
theorem d_M_coming_48 : decode prog_12_method_99_code 48 = .ok (.iadd, 1) := by decide +kernel
theorem d_M_coming_49 : decode prog_12_method_99_code 49 = .ok (.iload_n 1, 1) := by decide +kernel
theorem d_M_coming_50 : decode prog_12_method_99_code 50 = .ok (.iastore, 1) := by decide +kernel
theorem d_M_coming_51 : decode prog_12_method_99_code 51 = .ok (.aload_n 0, 1) := by decide +kernel
theorem d_M_coming_52 : decode prog_12_method_99_code 52 = .ok (.getfield 42, 3) := by decide +kernel
theorem d_M_coming_55 : decode prog_12_method_99_code 55 = .ok (.iconst 5, 1) := by decide +kernel
theorem d_M_coming_56 : decode prog_12_method_99_code 56 = .ok (.dup2, 1) := by decide +kernel
theorem d_M_coming_57 : decode prog_12_method_99_code 57 = .ok (.iaload, 1) := by decide +kernel
theorem d_M_coming_58 : decode prog_12_method_99_code 58 = .ok (.iconst 1, 1) := by decide +kernel
theorem d_M_coming_59 : decode prog_12_method_99_code 59 = .ok (.iadd, 1) := by decide +kernel
theorem d_M_coming_60 : decode prog_12_method_99_code 60 = .ok (.iastore, 1) := by decide +kernel
theorem d_M_coming_61 : decode prog_12_method_99_code 61 = .ok (.aload_n 0, 1) := by decide +kernel
theorem d_M_coming_62 : decode prog_12_method_99_code 62 = .ok (.getfield 42, 3) := by decide +kernel
theorem d_M_coming_65 : decode prog_12_method_99_code 65 = .ok (.iconst 5, 1) := by decide +kernel
theorem d_M_coming_66 : decode prog_12_method_99_code 66 = .ok (.iaload, 1) := by decide +kernel
theorem d_M_coming_67 : decode prog_12_method_99_code 67 = .ok (.ireturn, 1) := by decide +kernel
theorem d_M_joinsOf_0 : decode prog_12_method_100_code 0 = .ok (.iconst 0, 1) := by decide +kernel
theorem d_M_joinsOf_1 : decode prog_12_method_100_code 1 = .ok (.istore_n 2, 1) := by decide +kernel
theorem d_M_joinsOf_2 : decode prog_12_method_100_code 2 = .ok (.iconst 0, 1) := by decide +kernel
theorem d_M_joinsOf_3 : decode prog_12_method_100_code 3 = .ok (.istore_n 3, 1) := by decide +kernel
theorem d_M_joinsOf_4 : decode prog_12_method_100_code 4 = .ok (.iload_n 3, 1) := by decide +kernel
theorem d_M_joinsOf_5 : decode prog_12_method_100_code 5 = .ok (.aload_n 0, 1) := by decide +kernel
theorem d_M_joinsOf_6 : decode prog_12_method_100_code 6 = .ok (.getfield 42, 3) := by decide +kernel
theorem d_M_joinsOf_9 : decode prog_12_method_100_code 9 = .ok (.iconst 1, 1) := by decide +kernel
theorem d_M_joinsOf_10 : decode prog_12_method_100_code 10 = .ok (.iaload, 1) := by decide +kernel
theorem d_M_joinsOf_11 : decode prog_12_method_100_code 11 = .ok (.if_icmp .ge 37, 3) := by decide +kernel
theorem d_M_joinsOf_14 : decode prog_12_method_100_code 14 = .ok (.iload_n 2, 1) := by decide +kernel
theorem d_M_joinsOf_15 : decode prog_12_method_100_code 15 = .ok (.aload_n 0, 1) := by decide +kernel
theorem d_M_joinsOf_16 : decode prog_12_method_100_code 16 = .ok (.iload_n 3, 1) := by decide +kernel
theorem d_M_joinsOf_17 : decode prog_12_method_100_code 17 = .ok (.iconst 0, 1) := by decide +kernel
theorem d_M_joinsOf_18 : decode prog_12_method_100_code 18 = .ok (.invokevirtual 297, 3) := by decide +kernel
theorem d_M_joinsOf_21 : decode prog_12_method_100_code 21 = .ok (.iload_n 1, 1) := by decide +kernel
theorem d_M_joinsOf_22 : decode prog_12_method_100_code 22 = .ok (.if_icmp .eq 13, 3) := by decide +kernel
theorem d_M_joinsOf_25 : decode prog_12_method_100_code 25 = .ok (.aload_n 0, 1) := by decide +kernel
theorem d_M_joinsOf_26 : decode prog_12_method_100_code 26 = .ok (.iload_n 3, 1) := by decide +kernel
theorem d_M_joinsOf_27 : decode prog_12_method_100_code 27 = .ok (.iconst 1, 1) := by decide +kernel
theorem d_M_joinsOf_28 : decode prog_12_method_100_code 28 = .ok (.invokevirtual 297, 3) := by decide +kernel
theorem d_M_joinsOf_31 : decode prog_12_method_100_code 31 = .ok (.iload_n 1, 1) := by decide +kernel
theorem d_M_joinsOf_32 : decode prog_12_method_100_code 32 = .ok (.if_icmp .ne 7, 3) := by decide +kernel
theorem d_M_joinsOf_35 : decode prog_12_method_100_code 35 = .ok (.iconst 1, 1) := by decide +kernel
theorem d_M_joinsOf_36 : decode prog_12_method_100_code 36 = .ok (.goto 4, 3) := by decide +kernel
theorem d_M_joinsOf_39 : decode prog_12_method_100_code 39 = .ok (.iconst 0, 1) := by decide +kernel
theorem d_M_joinsOf_40 : decode prog_12_method_100_code 40 = .ok (.iadd, 1) := by decide +kernel
theorem d_M_joinsOf_41 : decode prog_12_method_100_code 41 = .ok (.istore_n 2, 1) := by decide +kernel
theorem d_M_joinsOf_42 : decode prog_12_method_100_code 42 = .ok (.iinc 3 1, 3) := by decide +kernel
theorem d_M_joinsOf_45 : decode prog_12_method_100_code 45 = .ok (.goto (-41), 3) := by decide +kernel
theorem d_M_joinsOf_48 : decode prog_12_method_100_code 48 = .ok (.iload_n 2, 1) := by decide +kernel
theorem d_M_joinsOf_49 : decode prog_12_method_100_code 49 = .ok (.ireturn, 1) := by decide +kernel
theorem d_M_words_0 : decode prog_12_method_101_code 0 = .ok (.aload_n 0, 1) := by decide +kernel
theorem d_M_words_1 : decode prog_12_method_101_code 1 = .ok (.getfield 39, 3) := by decide +kernel
theorem d_M_words_4 : decode prog_12_method_101_code 4 = .ok (.iconst 0, 1) := by decide +kernel
theorem d_M_words_5 : decode prog_12_method_101_code 5 = .ok (.iload_n 1, 1) := by decide +kernel
theorem d_M_words_6 : decode prog_12_method_101_code 6 = .ok (.i2l, 1) := by decide +kernel
theorem d_M_words_7 : decode prog_12_method_101_code 7 = .ok (.lastore, 1) := by decide +kernel
theorem d_M_words_8 : decode prog_12_method_101_code 8 = .ok (.aload_n 0, 1) := by decide +kernel
theorem d_M_words_9 : decode prog_12_method_101_code 9 = .ok (.getfield 39, 3) := by decide +kernel
theorem d_M_words_12 : decode prog_12_method_101_code 12 = .ok (.iconst 1, 1) := by decide +kernel
theorem d_M_words_13 : decode prog_12_method_101_code 13 = .ok (.aload_n 0, 1) := by decide +kernel
theorem d_M_words_14 : decode prog_12_method_101_code 14 = .ok (.iload_n 1, 1) := by decide +kernel
theorem d_M_words_15 : decode prog_12_method_101_code 15 = .ok (.invokevirtual 301, 3) := by decide +kernel
theorem d_M_words_18 : decode prog_12_method_101_code 18 = .ok (.i2l, 1) := by decide +kernel
theorem d_M_words_19 : decode prog_12_method_101_code 19 = .ok (.lastore, 1) := by decide +kernel
theorem d_M_words_20 : decode prog_12_method_101_code 20 = .ok (.aload_n 0, 1) := by decide +kernel
theorem d_M_words_21 : decode prog_12_method_101_code 21 = .ok (.getfield 39, 3) := by decide +kernel
theorem d_M_words_24 : decode prog_12_method_101_code 24 = .ok (.iconst 2, 1) := by decide +kernel
theorem d_M_words_25 : decode prog_12_method_101_code 25 = .ok (.aload_n 0, 1) := by decide +kernel
theorem d_M_words_26 : decode prog_12_method_101_code 26 = .ok (.iload_n 1, 1) := by decide +kernel
theorem d_M_words_27 : decode prog_12_method_101_code 27 = .ok (.invokevirtual 338, 3) := by decide +kernel
theorem d_M_words_30 : decode prog_12_method_101_code 30 = .ok (.i2l, 1) := by decide +kernel
theorem d_M_words_31 : decode prog_12_method_101_code 31 = .ok (.lastore, 1) := by decide +kernel
theorem d_M_words_32 : decode prog_12_method_101_code 32 = .ok (.aload_n 0, 1) := by decide +kernel
theorem d_M_words_33 : decode prog_12_method_101_code 33 = .ok (.getfield 39, 3) := by decide +kernel
theorem d_M_words_36 : decode prog_12_method_101_code 36 = .ok (.iconst 3, 1) := by decide +kernel
theorem d_M_words_37 : decode prog_12_method_101_code 37 = .ok (.aload_n 0, 1) := by decide +kernel
theorem d_M_words_38 : decode prog_12_method_101_code 38 = .ok (.getfield 45, 3) := by decide +kernel
theorem d_M_words_41 : decode prog_12_method_101_code 41 = .ok (.iload_n 1, 1) := by decide +kernel
theorem d_M_words_42 : decode prog_12_method_101_code 42 = .ok (.laload, 1) := by decide +kernel
theorem d_M_words_43 : decode prog_12_method_101_code 43 = .ok (.aload_n 0, 1) := by decide +kernel
theorem d_M_words_44 : decode prog_12_method_101_code 44 = .ok (.getfield 64, 3) := by decide +kernel
theorem d_M_words_47 : decode prog_12_method_101_code 47 = .ok (.invokestatic 343, 3) := by decide +kernel
theorem d_M_words_50 : decode prog_12_method_101_code 50 = .ok (.lastore, 1) := by decide +kernel
theorem d_M_words_51 : decode prog_12_method_101_code 51 = .ok (.aload_n 0, 1) := by decide +kernel
theorem d_M_words_52 : decode prog_12_method_101_code 52 = .ok (.getfield 39, 3) := by decide +kernel
theorem d_M_words_55 : decode prog_12_method_101_code 55 = .ok (.iconst 4, 1) := by decide +kernel
theorem d_M_words_56 : decode prog_12_method_101_code 56 = .ok (.aload_n 0, 1) := by decide +kernel
theorem d_M_words_57 : decode prog_12_method_101_code 57 = .ok (.iload_n 1, 1) := by decide +kernel
theorem d_M_words_58 : decode prog_12_method_101_code 58 = .ok (.invokevirtual 350, 3) := by decide +kernel
theorem d_M_words_61 : decode prog_12_method_101_code 61 = .ok (.ifCond .eq 7, 3) := by decide +kernel
theorem d_M_words_64 : decode prog_12_method_101_code 64 = .ok (.lconst 1, 1) := by decide +kernel
theorem d_M_words_65 : decode prog_12_method_101_code 65 = .ok (.goto 4, 3) := by decide +kernel
theorem d_M_words_68 : decode prog_12_method_101_code 68 = .ok (.lconst 0, 1) := by decide +kernel
theorem d_M_words_69 : decode prog_12_method_101_code 69 = .ok (.lastore, 1) := by decide +kernel
theorem d_M_words_70 : decode prog_12_method_101_code 70 = .ok (.aload_n 0, 1) := by decide +kernel
theorem d_M_words_71 : decode prog_12_method_101_code 71 = .ok (.getfield 39, 3) := by decide +kernel
theorem d_M_words_74 : decode prog_12_method_101_code 74 = .ok (.iconst 5, 1) := by decide +kernel
theorem d_M_words_75 : decode prog_12_method_101_code 75 = .ok (.aload_n 0, 1) := by decide +kernel
theorem d_M_words_76 : decode prog_12_method_101_code 76 = .ok (.invokevirtual 452, 3) := by decide +kernel
theorem d_M_words_79 : decode prog_12_method_101_code 79 = .ok (.invokestatic 439, 3) := by decide +kernel
theorem d_M_words_82 : decode prog_12_method_101_code 82 = .ok (.i2l, 1) := by decide +kernel
theorem d_M_words_83 : decode prog_12_method_101_code 83 = .ok (.lastore, 1) := by decide +kernel
theorem d_M_words_84 : decode prog_12_method_101_code 84 = .ok (.aload_n 0, 1) := by decide +kernel
theorem d_M_words_85 : decode prog_12_method_101_code 85 = .ok (.getfield 39, 3) := by decide +kernel
theorem d_M_words_88 : decode prog_12_method_101_code 88 = .ok (.bipush 6, 2) := by decide +kernel
theorem d_M_words_90 : decode prog_12_method_101_code 90 = .ok (.aload_n 0, 1) := by decide +kernel
theorem d_M_words_91 : decode prog_12_method_101_code 91 = .ok (.iload_n 1, 1) := by decide +kernel
theorem d_M_words_92 : decode prog_12_method_101_code 92 = .ok (.invokevirtual 455, 3) := by decide +kernel
theorem d_M_words_95 : decode prog_12_method_101_code 95 = .ok (.i2l, 1) := by decide +kernel
theorem d_M_words_96 : decode prog_12_method_101_code 96 = .ok (.lastore, 1) := by decide +kernel
theorem d_M_words_97 : decode prog_12_method_101_code 97 = .ok (.aload_n 0, 1) := by decide +kernel
theorem d_M_words_98 : decode prog_12_method_101_code 98 = .ok (.getfield 39, 3) := by decide +kernel
theorem d_M_words_101 : decode prog_12_method_101_code 101 = .ok (.bipush 7, 2) := by decide +kernel
theorem d_M_words_103 : decode prog_12_method_101_code 103 = .ok (.iload_n 2, 1) := by decide +kernel
theorem d_M_words_104 : decode prog_12_method_101_code 104 = .ok (.i2l, 1) := by decide +kernel
theorem d_M_words_105 : decode prog_12_method_101_code 105 = .ok (.lastore, 1) := by decide +kernel
theorem d_M_words_106 : decode prog_12_method_101_code 106 = .ok (.return_, 1) := by decide +kernel
theorem d_M_pushedBy_0 : decode prog_12_method_102_code 0 = .ok (.aload_n 0, 1) := by decide +kernel
theorem d_M_pushedBy_1 : decode prog_12_method_102_code 1 = .ok (.iload_n 2, 1) := by decide +kernel
theorem d_M_pushedBy_2 : decode prog_12_method_102_code 2 = .ok (.iload_n 3, 1) := by decide +kernel
theorem d_M_pushedBy_3 : decode prog_12_method_102_code 3 = .ok (.invokevirtual 458, 3) := by decide +kernel
theorem d_M_pushedBy_6 : decode prog_12_method_102_code 6 = .ok (.iconst 0, 1) := by decide +kernel
theorem d_M_pushedBy_7 : decode prog_12_method_102_code 7 = .ok (.istore 4, 2) := by decide +kernel
theorem d_M_pushedBy_9 : decode prog_12_method_102_code 9 = .ok (.iload 4, 2) := by decide +kernel
theorem d_M_pushedBy_11 : decode prog_12_method_102_code 11 = .ok (.aload_n 0, 1) := by decide +kernel
theorem d_M_pushedBy_12 : decode prog_12_method_102_code 12 = .ok (.getfield 23, 3) := by decide +kernel
theorem d_M_pushedBy_15 : decode prog_12_method_102_code 15 = .ok (.iload_n 1, 1) := by decide +kernel
theorem d_M_pushedBy_16 : decode prog_12_method_102_code 16 = .ok (.iaload, 1) := by decide +kernel
theorem d_M_pushedBy_17 : decode prog_12_method_102_code 17 = .ok (.if_icmp .ge 95, 3) := by decide +kernel
theorem d_M_pushedBy_20 : decode prog_12_method_102_code 20 = .ok (.bipush 48, 2) := by decide +kernel
theorem d_M_pushedBy_22 : decode prog_12_method_102_code 22 = .ok (.iload_n 1, 1) := by decide +kernel
theorem d_M_pushedBy_23 : decode prog_12_method_102_code 23 = .ok (.imul, 1) := by decide +kernel
theorem d_M_pushedBy_24 : decode prog_12_method_102_code 24 = .ok (.iconst 4, 1) := by decide +kernel
theorem d_M_pushedBy_25 : decode prog_12_method_102_code 25 = .ok (.iload 4, 2) := by decide +kernel
theorem d_M_pushedBy_27 : decode prog_12_method_102_code 27 = .ok (.imul, 1) := by decide +kernel
theorem d_M_pushedBy_28 : decode prog_12_method_102_code 28 = .ok (.iadd, 1) := by decide +kernel
theorem d_M_pushedBy_29 : decode prog_12_method_102_code 29 = .ok (.istore 5, 2) := by decide +kernel
theorem d_M_pushedBy_31 : decode prog_12_method_102_code 31 = .ok (.aload_n 0, 1) := by decide +kernel
theorem d_M_pushedBy_32 : decode prog_12_method_102_code 32 = .ok (.getfield 20, 3) := by decide +kernel
theorem d_M_pushedBy_35 : decode prog_12_method_102_code 35 = .ok (.iload 5, 2) := by decide +kernel
theorem d_M_pushedBy_37 : decode prog_12_method_102_code 37 = .ok (.iconst 2, 1) := by decide +kernel
theorem d_M_pushedBy_38 : decode prog_12_method_102_code 38 = .ok (.iadd, 1) := by decide +kernel
theorem d_M_pushedBy_39 : decode prog_12_method_102_code 39 = .ok (.iaload, 1) := by decide +kernel
theorem d_M_pushedBy_40 : decode prog_12_method_102_code 40 = .ok (.ifCond .lt 34, 3) := by decide +kernel
theorem d_M_pushedBy_43 : decode prog_12_method_102_code 43 = .ok (.aload_n 0, 1) := by decide +kernel
theorem d_M_pushedBy_44 : decode prog_12_method_102_code 44 = .ok (.iload_n 1, 1) := by decide +kernel
theorem d_M_pushedBy_45 : decode prog_12_method_102_code 45 = .ok (.aload_n 0, 1) := by decide +kernel
theorem d_M_pushedBy_46 : decode prog_12_method_102_code 46 = .ok (.getfield 20, 3) := by decide +kernel
theorem d_M_pushedBy_49 : decode prog_12_method_102_code 49 = .ok (.iload 5, 2) := by decide +kernel
theorem d_M_pushedBy_51 : decode prog_12_method_102_code 51 = .ok (.iconst 2, 1) := by decide +kernel
theorem d_M_pushedBy_52 : decode prog_12_method_102_code 52 = .ok (.iadd, 1) := by decide +kernel
theorem d_M_pushedBy_53 : decode prog_12_method_102_code 53 = .ok (.iaload, 1) := by decide +kernel
theorem d_M_pushedBy_54 : decode prog_12_method_102_code 54 = .ok (.aload_n 0, 1) := by decide +kernel
theorem d_M_pushedBy_55 : decode prog_12_method_102_code 55 = .ok (.getfield 20, 3) := by decide +kernel
theorem d_M_pushedBy_58 : decode prog_12_method_102_code 58 = .ok (.iload 5, 2) := by decide +kernel
theorem d_M_pushedBy_60 : decode prog_12_method_102_code 60 = .ok (.iconst 3, 1) := by decide +kernel
theorem d_M_pushedBy_61 : decode prog_12_method_102_code 61 = .ok (.iadd, 1) := by decide +kernel
theorem d_M_pushedBy_62 : decode prog_12_method_102_code 62 = .ok (.iaload, 1) := by decide +kernel
theorem d_M_pushedBy_63 : decode prog_12_method_102_code 63 = .ok (.invokevirtual 461, 3) := by decide +kernel
theorem d_M_pushedBy_66 : decode prog_12_method_102_code 66 = .ok (.lconst 0, 1) := by decide +kernel
theorem d_M_pushedBy_67 : decode prog_12_method_102_code 67 = .ok (.lcmp, 1) := by decide +kernel
theorem d_M_pushedBy_68 : decode prog_12_method_102_code 68 = .ok (.ifCond .ne 6, 3) := by decide +kernel
theorem d_M_pushedBy_71 : decode prog_12_method_102_code 71 = .ok (.goto 35, 3) := by decide +kernel
theorem d_M_pushedBy_74 : decode prog_12_method_102_code 74 = .ok (.aload_n 0, 1) := by decide +kernel
theorem d_M_pushedBy_75 : decode prog_12_method_102_code 75 = .ok (.iload_n 1, 1) := by decide +kernel
theorem d_M_pushedBy_76 : decode prog_12_method_102_code 76 = .ok (.aload_n 0, 1) := by decide +kernel
theorem d_M_pushedBy_77 : decode prog_12_method_102_code 77 = .ok (.getfield 20, 3) := by decide +kernel
theorem d_M_pushedBy_80 : decode prog_12_method_102_code 80 = .ok (.iload 5, 2) := by decide +kernel
theorem d_M_pushedBy_82 : decode prog_12_method_102_code 82 = .ok (.iaload, 1) := by decide +kernel
theorem d_M_pushedBy_83 : decode prog_12_method_102_code 83 = .ok (.aload_n 0, 1) := by decide +kernel
theorem d_M_pushedBy_84 : decode prog_12_method_102_code 84 = .ok (.getfield 20, 3) := by decide +kernel
theorem d_M_pushedBy_87 : decode prog_12_method_102_code 87 = .ok (.iload 5, 2) := by decide +kernel
theorem d_M_pushedBy_89 : decode prog_12_method_102_code 89 = .ok (.iconst 1, 1) := by decide +kernel
theorem d_M_pushedBy_90 : decode prog_12_method_102_code 90 = .ok (.iadd, 1) := by decide +kernel
theorem d_M_pushedBy_91 : decode prog_12_method_102_code 91 = .ok (.iaload, 1) := by decide +kernel
theorem d_M_pushedBy_92 : decode prog_12_method_102_code 92 = .ok (.invokevirtual 461, 3) := by decide +kernel
theorem d_M_pushedBy_95 : decode prog_12_method_102_code 95 = .ok (.ldc2_w 372, 3) := by decide +kernel
theorem d_M_pushedBy_98 : decode prog_12_method_102_code 98 = .ok (.ldc2_w 374, 3) := by decide +kernel
theorem d_M_pushedBy_101 : decode prog_12_method_102_code 101 = .ok (.invokestatic 464, 3) := by decide +kernel
theorem d_M_pushedBy_104 : decode prog_12_method_102_code 104 = .ok (.l2i, 1) := by decide +kernel
theorem d_M_pushedBy_105 : decode prog_12_method_102_code 105 = .ok (.ireturn, 1) := by decide +kernel
theorem d_M_pushedBy_106 : decode prog_12_method_102_code 106 = .ok (.iinc 4 1, 3) := by decide +kernel
theorem d_M_pushedBy_109 : decode prog_12_method_102_code 109 = .ok (.goto (-100), 3) := by decide +kernel
theorem d_M_pushedBy_112 : decode prog_12_method_102_code 112 = .ok (.iconst 0, 1) := by decide +kernel
theorem d_M_pushedBy_113 : decode prog_12_method_102_code 113 = .ok (.ireturn, 1) := by decide +kernel
theorem d_M_begins_0 : decode prog_12_method_103_code 0 = .ok (.aload_n 0, 1) := by decide +kernel
theorem d_M_begins_1 : decode prog_12_method_103_code 1 = .ok (.iconst 0, 1) := by decide +kernel
theorem d_M_begins_2 : decode prog_12_method_103_code 2 = .ok (.putfield 468, 3) := by decide +kernel
theorem d_M_begins_5 : decode prog_12_method_103_code 5 = .ok (.aload_n 0, 1) := by decide +kernel
theorem d_M_begins_6 : decode prog_12_method_103_code 6 = .ok (.iconst 0, 1) := by decide +kernel
theorem d_M_begins_7 : decode prog_12_method_103_code 7 = .ok (.putfield 471, 3) := by decide +kernel
theorem d_M_begins_10 : decode prog_12_method_103_code 10 = .ok (.aload_n 0, 1) := by decide +kernel
theorem d_M_begins_11 : decode prog_12_method_103_code 11 = .ok (.iconst 0, 1) := by decide +kernel
theorem d_M_begins_12 : decode prog_12_method_103_code 12 = .ok (.putfield 474, 3) := by decide +kernel
theorem d_M_begins_15 : decode prog_12_method_103_code 15 = .ok (.iconst 0, 1) := by decide +kernel
theorem d_M_begins_16 : decode prog_12_method_103_code 16 = .ok (.istore_n 1, 1) := by decide +kernel
theorem d_M_begins_17 : decode prog_12_method_103_code 17 = .ok (.iload_n 1, 1) := by decide +kernel
theorem d_M_begins_18 : decode prog_12_method_103_code 18 = .ok (.bipush 12, 2) := by decide +kernel
theorem d_M_begins_20 : decode prog_12_method_103_code 20 = .ok (.if_icmp .ge 16, 3) := by decide +kernel
theorem d_M_begins_23 : decode prog_12_method_103_code 23 = .ok (.aload_n 0, 1) := by decide +kernel
theorem d_M_begins_24 : decode prog_12_method_103_code 24 = .ok (.getfield 83, 3) := by decide +kernel
theorem d_M_begins_27 : decode prog_12_method_103_code 27 = .ok (.iload_n 1, 1) := by decide +kernel
theorem d_M_begins_28 : decode prog_12_method_103_code 28 = .ok (.lconst 0, 1) := by decide +kernel
theorem d_M_begins_29 : decode prog_12_method_103_code 29 = .ok (.lastore, 1) := by decide +kernel
theorem d_M_begins_30 : decode prog_12_method_103_code 30 = .ok (.iinc 1 1, 3) := by decide +kernel
theorem d_M_begins_33 : decode prog_12_method_103_code 33 = .ok (.goto (-16), 3) := by decide +kernel
theorem d_M_begins_36 : decode prog_12_method_103_code 36 = .ok (.return_, 1) := by decide +kernel
theorem d_M_comes_0 : decode prog_12_method_104_code 0 = .ok (.aload_n 0, 1) := by decide +kernel
theorem d_M_comes_1 : decode prog_12_method_104_code 1 = .ok (.iload_n 2, 1) := by decide +kernel
theorem d_M_comes_2 : decode prog_12_method_104_code 2 = .ok (.invokevirtual 350, 3) := by decide +kernel
theorem d_M_comes_5 : decode prog_12_method_104_code 5 = .ok (.ifCond .eq 7, 3) := by decide +kernel
theorem d_M_comes_8 : decode prog_12_method_104_code 8 = .ok (.iconst 0, 1) := by decide +kernel
theorem d_M_comes_9 : decode prog_12_method_104_code 9 = .ok (.goto 10, 3) := by decide +kernel
theorem d_M_comes_12 : decode prog_12_method_104_code 12 = .ok (.aload_n 0, 1) := by decide +kernel
theorem d_M_comes_13 : decode prog_12_method_104_code 13 = .ok (.iload_n 1, 1) := by decide +kernel
theorem d_M_comes_14 : decode prog_12_method_104_code 14 = .ok (.iload_n 2, 1) := by decide +kernel
theorem d_M_comes_15 : decode prog_12_method_104_code 15 = .ok (.iload_n 3, 1) := by decide +kernel
theorem d_M_comes_16 : decode prog_12_method_104_code 16 = .ok (.invokevirtual 477, 3) := by decide +kernel
theorem d_M_comes_19 : decode prog_12_method_104_code 19 = .ok (.istore 4, 2) := by decide +kernel
theorem d_M_comes_21 : decode prog_12_method_104_code 21 = .ok (.iload 4, 2) := by decide +kernel
theorem d_M_comes_23 : decode prog_12_method_104_code 23 = .ok (.ifCond .eq 142, 3) := by decide +kernel
theorem d_M_comes_26 : decode prog_12_method_104_code 26 = .ok (.aload_n 0, 1) := by decide +kernel
theorem d_M_comes_27 : decode prog_12_method_104_code 27 = .ok (.iload_n 2, 1) := by decide +kernel
theorem d_M_comes_28 : decode prog_12_method_104_code 28 = .ok (.iload 4, 2) := by decide +kernel
theorem d_M_comes_30 : decode prog_12_method_104_code 30 = .ok (.invokevirtual 379, 3) := by decide +kernel
theorem d_M_comes_33 : decode prog_12_method_104_code 33 = .ok (.ifCond .le 7, 3) := by decide +kernel
theorem d_M_comes_36 : decode prog_12_method_104_code 36 = .ok (.iconst 1, 1) := by decide +kernel
theorem d_M_comes_37 : decode prog_12_method_104_code 37 = .ok (.goto 4, 3) := by decide +kernel
theorem d_M_comes_40 : decode prog_12_method_104_code 40 = .ok (.iconst 0, 1) := by decide +kernel
theorem d_M_comes_41 : decode prog_12_method_104_code 41 = .ok (.istore 5, 2) := by decide +kernel
theorem d_M_comes_43 : decode prog_12_method_104_code 43 = .ok (.aload_n 0, 1) := by decide +kernel
theorem d_M_comes_44 : decode prog_12_method_104_code 44 = .ok (.dup, 1) := by decide +kernel
theorem d_M_comes_45 : decode prog_12_method_104_code 45 = .ok (.getfield 471, 3) := by decide +kernel
theorem d_M_comes_48 : decode prog_12_method_104_code 48 = .ok (.iload 5, 2) := by decide +kernel
theorem d_M_comes_50 : decode prog_12_method_104_code 50 = .ok (.ifCond .eq 7, 3) := by decide +kernel
theorem d_M_comes_53 : decode prog_12_method_104_code 53 = .ok (.iconst 1, 1) := by decide +kernel
theorem d_M_comes_54 : decode prog_12_method_104_code 54 = .ok (.goto 4, 3) := by decide +kernel
theorem d_M_comes_57 : decode prog_12_method_104_code 57 = .ok (.iconst 0, 1) := by decide +kernel
theorem d_M_comes_58 : decode prog_12_method_104_code 58 = .ok (.iadd, 1) := by decide +kernel
theorem d_M_comes_59 : decode prog_12_method_104_code 59 = .ok (.putfield 471, 3) := by decide +kernel
theorem d_M_comes_62 : decode prog_12_method_104_code 62 = .ok (.aload_n 0, 1) := by decide +kernel
theorem d_M_comes_63 : decode prog_12_method_104_code 63 = .ok (.dup, 1) := by decide +kernel
theorem d_M_comes_64 : decode prog_12_method_104_code 64 = .ok (.getfield 474, 3) := by decide +kernel
theorem d_M_comes_67 : decode prog_12_method_104_code 67 = .ok (.iload 5, 2) := by decide +kernel
theorem d_M_comes_69 : decode prog_12_method_104_code 69 = .ok (.ifCond .eq 7, 3) := by decide +kernel
theorem d_M_comes_72 : decode prog_12_method_104_code 72 = .ok (.iconst 0, 1) := by decide +kernel
theorem d_M_comes_73 : decode prog_12_method_104_code 73 = .ok (.goto 4, 3) := by decide +kernel
theorem d_M_comes_76 : decode prog_12_method_104_code 76 = .ok (.iconst 1, 1) := by decide +kernel
theorem d_M_comes_77 : decode prog_12_method_104_code 77 = .ok (.iadd, 1) := by decide +kernel
theorem d_M_comes_78 : decode prog_12_method_104_code 78 = .ok (.putfield 474, 3) := by decide +kernel
theorem d_M_comes_81 : decode prog_12_method_104_code 81 = .ok (.iload 5, 2) := by decide +kernel
theorem d_M_comes_83 : decode prog_12_method_104_code 83 = .ok (.ifCond .eq 82, 3) := by decide +kernel
theorem d_M_comes_86 : decode prog_12_method_104_code 86 = .ok (.aload_n 0, 1) := by decide +kernel
theorem d_M_comes_87 : decode prog_12_method_104_code 87 = .ok (.iload_n 2, 1) := by decide +kernel
theorem d_M_comes_88 : decode prog_12_method_104_code 88 = .ok (.iload 4, 2) := by decide +kernel
theorem d_M_comes_90 : decode prog_12_method_104_code 90 = .ok (.invokevirtual 385, 3) := by decide +kernel
theorem d_M_comes_93 : decode prog_12_method_104_code 93 = .ok (.iconst 0, 1) := by decide +kernel
theorem d_M_comes_94 : decode prog_12_method_104_code 94 = .ok (.istore 6, 2) := by decide +kernel
theorem d_M_comes_96 : decode prog_12_method_104_code 96 = .ok (.iload 6, 2) := by decide +kernel
theorem d_M_comes_98 : decode prog_12_method_104_code 98 = .ok (.aload_n 0, 1) := by decide +kernel
theorem d_M_comes_99 : decode prog_12_method_104_code 99 = .ok (.getfield 42, 3) := by decide +kernel
theorem d_M_comes_102 : decode prog_12_method_104_code 102 = .ok (.iconst 0, 1) := by decide +kernel
theorem d_M_comes_103 : decode prog_12_method_104_code 103 = .ok (.iaload, 1) := by decide +kernel
theorem d_M_comes_104 : decode prog_12_method_104_code 104 = .ok (.if_icmp .ge 61, 3) := by decide +kernel
theorem d_M_comes_107 : decode prog_12_method_104_code 107 = .ok (.aload_n 0, 1) := by decide +kernel
theorem d_M_comes_108 : decode prog_12_method_104_code 108 = .ok (.iload_n 2, 1) := by decide +kernel
theorem d_M_comes_109 : decode prog_12_method_104_code 109 = .ok (.iload 6, 2) := by decide +kernel
theorem d_M_comes_111 : decode prog_12_method_104_code 111 = .ok (.invokevirtual 363, 3) := by decide +kernel
theorem d_M_comes_114 : decode prog_12_method_104_code 114 = .ok (.ifCond .eq 17, 3) := by decide +kernel
theorem d_M_comes_117 : decode prog_12_method_104_code 117 = .ok (.iload 4, 2) := by decide +kernel
theorem d_M_comes_119 : decode prog_12_method_104_code 119 = .ok (.i2l, 1) := by decide +kernel
theorem d_M_comes_120 : decode prog_12_method_104_code 120 = .ok (.aload_n 0, 1) := by decide +kernel
theorem d_M_comes_121 : decode prog_12_method_104_code 121 = .ok (.iload_n 2, 1) := by decide +kernel
theorem d_M_comes_122 : decode prog_12_method_104_code 122 = .ok (.iload 6, 2) := by decide +kernel
theorem d_M_comes_124 : decode prog_12_method_104_code 124 = .ok (.invokevirtual 366, 3) := by decide +kernel
theorem d_M_comes_127 : decode prog_12_method_104_code 127 = .ok (.lmul, 1) := by decide +kernel
theorem d_M_comes_128 : decode prog_12_method_104_code 128 = .ok (.goto 4, 3) := by decide +kernel
theorem d_M_comes_131 : decode prog_12_method_104_code 131 = .ok (.lconst 0, 1) := by decide +kernel
theorem d_M_comes_132 : decode prog_12_method_104_code 132 = .ok (.lstore 7, 2) := by decide +kernel
theorem d_M_comes_134 : decode prog_12_method_104_code 134 = .ok (.aload_n 0, 1) := by decide +kernel
theorem d_M_comes_135 : decode prog_12_method_104_code 135 = .ok (.getfield 83, 3) := by decide +kernel
theorem d_M_comes_138 : decode prog_12_method_104_code 138 = .ok (.iload 6, 2) := by decide +kernel
theorem d_M_comes_140 : decode prog_12_method_104_code 140 = .ok (.dup2, 1) := by decide +kernel
theorem d_M_comes_141 : decode prog_12_method_104_code 141 = .ok (.laload, 1) := by decide +kernel
theorem d_M_comes_142 : decode prog_12_method_104_code 142 = .ok (.lload 7, 2) := by decide +kernel
theorem d_M_comes_144 : decode prog_12_method_104_code 144 = .ok (.lconst 0, 1) := by decide +kernel
theorem d_M_comes_145 : decode prog_12_method_104_code 145 = .ok (.lcmp, 1) := by decide +kernel
theorem d_M_comes_146 : decode prog_12_method_104_code 146 = .ok (.ifCond .ge 9, 3) := by decide +kernel
theorem d_M_comes_149 : decode prog_12_method_104_code 149 = .ok (.lload 7, 2) := by decide +kernel
theorem d_M_comes_151 : decode prog_12_method_104_code 151 = .ok (.lneg, 1) := by decide +kernel
theorem d_M_comes_152 : decode prog_12_method_104_code 152 = .ok (.goto 5, 3) := by decide +kernel
theorem d_M_comes_155 : decode prog_12_method_104_code 155 = .ok (.lload 7, 2) := by decide +kernel
theorem d_M_comes_157 : decode prog_12_method_104_code 157 = .ok (.ladd, 1) := by decide +kernel
theorem d_M_comes_158 : decode prog_12_method_104_code 158 = .ok (.lastore, 1) := by decide +kernel
theorem d_M_comes_159 : decode prog_12_method_104_code 159 = .ok (.iinc 6 1, 3) := by decide +kernel
theorem d_M_comes_162 : decode prog_12_method_104_code 162 = .ok (.goto (-66), 3) := by decide +kernel
theorem d_M_comes_165 : decode prog_12_method_104_code 165 = .ok (.aload_n 0, 1) := by decide +kernel
theorem d_M_comes_166 : decode prog_12_method_104_code 166 = .ok (.dup, 1) := by decide +kernel
theorem d_M_comes_167 : decode prog_12_method_104_code 167 = .ok (.getfield 468, 3) := by decide +kernel
theorem d_M_comes_170 : decode prog_12_method_104_code 170 = .ok (.aload_n 0, 1) := by decide +kernel
theorem d_M_comes_171 : decode prog_12_method_104_code 171 = .ok (.iload_n 2, 1) := by decide +kernel
theorem d_M_comes_172 : decode prog_12_method_104_code 172 = .ok (.invokevirtual 350, 3) := by decide +kernel
theorem d_M_comes_175 : decode prog_12_method_104_code 175 = .ok (.ifCond .eq 7, 3) := by decide +kernel
theorem d_M_comes_178 : decode prog_12_method_104_code 178 = .ok (.iconst 1, 1) := by decide +kernel
theorem d_M_comes_179 : decode prog_12_method_104_code 179 = .ok (.goto 4, 3) := by decide +kernel
theorem d_M_comes_182 : decode prog_12_method_104_code 182 = .ok (.iconst 0, 1) := by decide +kernel
theorem d_M_comes_183 : decode prog_12_method_104_code 183 = .ok (.iadd, 1) := by decide +kernel
theorem d_M_comes_184 : decode prog_12_method_104_code 184 = .ok (.putfield 468, 3) := by decide +kernel
theorem d_M_comes_187 : decode prog_12_method_104_code 187 = .ok (.return_, 1) := by decide +kernel
theorem d_M_passesDay_0 : decode prog_12_method_105_code 0 = .ok (.aload_n 0, 1) := by decide +kernel
theorem d_M_passesDay_1 : decode prog_12_method_105_code 1 = .ok (.invokevirtual 480, 3) := by decide +kernel
theorem d_M_passesDay_4 : decode prog_12_method_105_code 4 = .ok (.iconst 0, 1) := by decide +kernel
theorem d_M_passesDay_5 : decode prog_12_method_105_code 5 = .ok (.istore_n 2, 1) := by decide +kernel
theorem d_M_passesDay_6 : decode prog_12_method_105_code 6 = .ok (.iload_n 2, 1) := by decide +kernel
theorem d_M_passesDay_7 : decode prog_12_method_105_code 7 = .ok (.aload_n 0, 1) := by decide +kernel
theorem d_M_passesDay_8 : decode prog_12_method_105_code 8 = .ok (.getfield 42, 3) := by decide +kernel
theorem d_M_passesDay_11 : decode prog_12_method_105_code 11 = .ok (.iconst 5, 1) := by decide +kernel
theorem d_M_passesDay_12 : decode prog_12_method_105_code 12 = .ok (.iaload, 1) := by decide +kernel
theorem d_M_passesDay_13 : decode prog_12_method_105_code 13 = .ok (.if_icmp .ge 24, 3) := by decide +kernel
theorem d_M_passesDay_16 : decode prog_12_method_105_code 16 = .ok (.aload_n 0, 1) := by decide +kernel
theorem d_M_passesDay_17 : decode prog_12_method_105_code 17 = .ok (.iload_n 1, 1) := by decide +kernel
theorem d_M_passesDay_18 : decode prog_12_method_105_code 18 = .ok (.aload_n 0, 1) := by decide +kernel
theorem d_M_passesDay_19 : decode prog_12_method_105_code 19 = .ok (.getfield 42, 3) := by decide +kernel
theorem d_M_passesDay_22 : decode prog_12_method_105_code 22 = .ok (.bipush 94, 2) := by decide +kernel
theorem d_M_passesDay_24 : decode prog_12_method_105_code 24 = .ok (.iload_n 2, 1) := by decide +kernel
theorem d_M_passesDay_25 : decode prog_12_method_105_code 25 = .ok (.iadd, 1) := by decide +kernel
theorem d_M_passesDay_26 : decode prog_12_method_105_code 26 = .ok (.iaload, 1) := by decide +kernel
theorem d_M_passesDay_27 : decode prog_12_method_105_code 27 = .ok (.iload_n 2, 1) := by decide +kernel
theorem d_M_passesDay_28 : decode prog_12_method_105_code 28 = .ok (.invokevirtual 483, 3) := by decide +kernel
theorem d_M_passesDay_31 : decode prog_12_method_105_code 31 = .ok (.iinc 2 1, 3) := by decide +kernel
theorem d_M_passesDay_34 : decode prog_12_method_105_code 34 = .ok (.goto (-28), 3) := by decide +kernel
theorem d_M_passesDay_37 : decode prog_12_method_105_code 37 = .ok (.return_, 1) := by decide +kernel
theorem d_M_keeps_0 : decode prog_12_method_106_code 0 = .ok (.iconst 0, 1) := by decide +kernel
theorem d_M_keeps_1 : decode prog_12_method_106_code 1 = .ok (.istore_n 1, 1) := by decide +kernel
theorem d_M_keeps_2 : decode prog_12_method_106_code 2 = .ok (.iload_n 1, 1) := by decide +kernel
theorem d_M_keeps_3 : decode prog_12_method_106_code 3 = .ok (.bipush 12, 2) := by decide +kernel
theorem d_M_keeps_5 : decode prog_12_method_106_code 5 = .ok (.if_icmp .ge 21, 3) := by decide +kernel
theorem d_M_keeps_8 : decode prog_12_method_106_code 8 = .ok (.aload_n 0, 1) := by decide +kernel
theorem d_M_keeps_9 : decode prog_12_method_106_code 9 = .ok (.getfield 48, 3) := by decide +kernel
theorem d_M_keeps_12 : decode prog_12_method_106_code 12 = .ok (.iload_n 1, 1) := by decide +kernel
theorem d_M_keeps_13 : decode prog_12_method_106_code 13 = .ok (.aload_n 0, 1) := by decide +kernel
theorem d_M_keeps_14 : decode prog_12_method_106_code 14 = .ok (.getfield 45, 3) := by decide +kernel
theorem d_M_keeps_17 : decode prog_12_method_106_code 17 = .ok (.iload_n 1, 1) := by decide +kernel
theorem d_M_keeps_18 : decode prog_12_method_106_code 18 = .ok (.laload, 1) := by decide +kernel
theorem d_M_keeps_19 : decode prog_12_method_106_code 19 = .ok (.lastore, 1) := by decide +kernel
theorem d_M_keeps_20 : decode prog_12_method_106_code 20 = .ok (.iinc 1 1, 3) := by decide +kernel
theorem d_M_keeps_23 : decode prog_12_method_106_code 23 = .ok (.goto (-21), 3) := by decide +kernel
theorem d_M_keeps_26 : decode prog_12_method_106_code 26 = .ok (.return_, 1) := by decide +kernel
theorem d_M_putsBack_0 : decode prog_12_method_107_code 0 = .ok (.iconst 0, 1) := by decide +kernel
theorem d_M_putsBack_1 : decode prog_12_method_107_code 1 = .ok (.istore_n 1, 1) := by decide +kernel
theorem d_M_putsBack_2 : decode prog_12_method_107_code 2 = .ok (.iload_n 1, 1) := by decide +kernel
theorem d_M_putsBack_3 : decode prog_12_method_107_code 3 = .ok (.bipush 12, 2) := by decide +kernel
theorem d_M_putsBack_5 : decode prog_12_method_107_code 5 = .ok (.if_icmp .ge 21, 3) := by decide +kernel
theorem d_M_putsBack_8 : decode prog_12_method_107_code 8 = .ok (.aload_n 0, 1) := by decide +kernel
theorem d_M_putsBack_9 : decode prog_12_method_107_code 9 = .ok (.getfield 45, 3) := by decide +kernel
theorem d_M_putsBack_12 : decode prog_12_method_107_code 12 = .ok (.iload_n 1, 1) := by decide +kernel
theorem d_M_putsBack_13 : decode prog_12_method_107_code 13 = .ok (.aload_n 0, 1) := by decide +kernel
theorem d_M_putsBack_14 : decode prog_12_method_107_code 14 = .ok (.getfield 48, 3) := by decide +kernel
theorem d_M_putsBack_17 : decode prog_12_method_107_code 17 = .ok (.iload_n 1, 1) := by decide +kernel
theorem d_M_putsBack_18 : decode prog_12_method_107_code 18 = .ok (.laload, 1) := by decide +kernel
theorem d_M_putsBack_19 : decode prog_12_method_107_code 19 = .ok (.lastore, 1) := by decide +kernel
theorem d_M_putsBack_20 : decode prog_12_method_107_code 20 = .ok (.iinc 1 1, 3) := by decide +kernel
theorem d_M_putsBack_23 : decode prog_12_method_107_code 23 = .ok (.goto (-21), 3) := by decide +kernel
theorem d_M_putsBack_26 : decode prog_12_method_107_code 26 = .ok (.return_, 1) := by decide +kernel
theorem d_M_canPass_0 : decode prog_12_method_108_code 0 = .ok (.aload_n 0, 1) := by decide +kernel
theorem d_M_canPass_1 : decode prog_12_method_108_code 1 = .ok (.getfield 42, 3) := by decide +kernel
theorem d_M_canPass_4 : decode prog_12_method_108_code 4 = .ok (.iconst 0, 1) := by decide +kernel
theorem d_M_canPass_5 : decode prog_12_method_108_code 5 = .ok (.iaload, 1) := by decide +kernel
theorem d_M_canPass_6 : decode prog_12_method_108_code 6 = .ok (.ifCond .le 15, 3) := by decide +kernel
theorem d_M_canPass_9 : decode prog_12_method_108_code 9 = .ok (.aload_n 0, 1) := by decide +kernel
theorem d_M_canPass_10 : decode prog_12_method_108_code 10 = .ok (.iload_n 1, 1) := by decide +kernel
theorem d_M_canPass_11 : decode prog_12_method_108_code 11 = .ok (.invokevirtual 486, 3) := by decide +kernel
theorem d_M_canPass_14 : decode prog_12_method_108_code 14 = .ok (.ifCond .eq 7, 3) := by decide +kernel
theorem d_M_canPass_17 : decode prog_12_method_108_code 17 = .ok (.iconst 1, 1) := by decide +kernel
theorem d_M_canPass_18 : decode prog_12_method_108_code 18 = .ok (.goto 4, 3) := by decide +kernel
theorem d_M_canPass_21 : decode prog_12_method_108_code 21 = .ok (.iconst 0, 1) := by decide +kernel
theorem d_M_canPass_22 : decode prog_12_method_108_code 22 = .ok (.ireturn, 1) := by decide +kernel
theorem d_M_day_0 : decode prog_12_method_109_code 0 = .ok (.aload_n 0, 1) := by decide +kernel
theorem d_M_day_1 : decode prog_12_method_109_code 1 = .ok (.iload_n 1, 1) := by decide +kernel
theorem d_M_day_2 : decode prog_12_method_109_code 2 = .ok (.invokevirtual 489, 3) := by decide +kernel
theorem d_M_day_5 : decode prog_12_method_109_code 5 = .ok (.ifCond .ne 5, 3) := by decide +kernel
theorem d_M_day_8 : decode prog_12_method_109_code 8 = .ok (.iconst (-1), 1) := by decide +kernel
theorem d_M_day_9 : decode prog_12_method_109_code 9 = .ok (.ireturn, 1) := by decide +kernel
theorem d_M_day_10 : decode prog_12_method_109_code 10 = .ok (.aload_n 0, 1) := by decide +kernel
theorem d_M_day_11 : decode prog_12_method_109_code 11 = .ok (.iload_n 1, 1) := by decide +kernel
theorem d_M_day_12 : decode prog_12_method_109_code 12 = .ok (.invokevirtual 492, 3) := by decide +kernel
theorem d_M_day_15 : decode prog_12_method_109_code 15 = .ok (.aload_n 0, 1) := by decide +kernel
theorem d_M_day_16 : decode prog_12_method_109_code 16 = .ok (.getfield 468, 3) := by decide +kernel
theorem d_M_day_19 : decode prog_12_method_109_code 19 = .ok (.ireturn, 1) := by decide +kernel
theorem d_M_would_0 : decode prog_12_method_110_code 0 = .ok (.aload_n 0, 1) := by decide +kernel
theorem d_M_would_1 : decode prog_12_method_110_code 1 = .ok (.iload_n 1, 1) := by decide +kernel
theorem d_M_would_2 : decode prog_12_method_110_code 2 = .ok (.invokevirtual 489, 3) := by decide +kernel
theorem d_M_would_5 : decode prog_12_method_110_code 5 = .ok (.ifCond .eq 15, 3) := by decide +kernel
theorem d_M_would_8 : decode prog_12_method_110_code 8 = .ok (.iload_n 2, 1) := by decide +kernel
theorem d_M_would_9 : decode prog_12_method_110_code 9 = .ok (.i2l, 1) := by decide +kernel
theorem d_M_would_10 : decode prog_12_method_110_code 10 = .ok (.lconst 0, 1) := by decide +kernel
theorem d_M_would_11 : decode prog_12_method_110_code 11 = .ok (.ldc2_w 495, 3) := by decide +kernel
theorem d_M_would_14 : decode prog_12_method_110_code 14 = .ok (.invokestatic 138, 3) := by decide +kernel
theorem d_M_would_17 : decode prog_12_method_110_code 17 = .ok (.ifCond .ne 5, 3) := by decide +kernel
theorem d_M_would_20 : decode prog_12_method_110_code 20 = .ok (.iconst (-1), 1) := by decide +kernel
theorem d_M_would_21 : decode prog_12_method_110_code 21 = .ok (.ireturn, 1) := by decide +kernel
theorem d_M_would_22 : decode prog_12_method_110_code 22 = .ok (.aload_n 0, 1) := by decide +kernel
theorem d_M_would_23 : decode prog_12_method_110_code 23 = .ok (.invokevirtual 497, 3) := by decide +kernel
theorem d_M_would_26 : decode prog_12_method_110_code 26 = .ok (.aload_n 0, 1) := by decide +kernel
theorem d_M_would_27 : decode prog_12_method_110_code 27 = .ok (.iload_n 1, 1) := by decide +kernel
theorem d_M_would_28 : decode prog_12_method_110_code 28 = .ok (.invokevirtual 492, 3) := by decide +kernel
theorem d_M_would_31 : decode prog_12_method_110_code 31 = .ok (.aload_n 0, 1) := by decide +kernel
theorem d_M_would_32 : decode prog_12_method_110_code 32 = .ok (.invokevirtual 452, 3) := by decide +kernel
theorem d_M_would_35 : decode prog_12_method_110_code 35 = .ok (.istore_n 3, 1) := by decide +kernel
theorem d_M_would_36 : decode prog_12_method_110_code 36 = .ok (.aload_n 0, 1) := by decide +kernel
theorem d_M_would_37 : decode prog_12_method_110_code 37 = .ok (.invokevirtual 500, 3) := by decide +kernel
theorem d_M_would_40 : decode prog_12_method_110_code 40 = .ok (.iload_n 2, 1) := by decide +kernel
theorem d_M_would_41 : decode prog_12_method_110_code 41 = .ok (.ifCond .ne 10, 3) := by decide +kernel
theorem d_M_would_44 : decode prog_12_method_110_code 44 = .ok (.aload_n 0, 1) := by decide +kernel
theorem d_M_would_45 : decode prog_12_method_110_code 45 = .ok (.getfield 468, 3) := by decide +kernel
theorem d_M_would_48 : decode prog_12_method_110_code 48 = .ok (.goto 28, 3) := by decide +kernel
theorem d_M_would_51 : decode prog_12_method_110_code 51 = .ok (.iload_n 2, 1) := by decide +kernel
theorem d_M_would_52 : decode prog_12_method_110_code 52 = .ok (.iconst 1, 1) := by decide +kernel
theorem d_M_would_53 : decode prog_12_method_110_code 53 = .ok (.if_icmp .ne 10, 3) := by decide +kernel
theorem d_M_would_56 : decode prog_12_method_110_code 56 = .ok (.aload_n 0, 1) := by decide +kernel
theorem d_M_would_57 : decode prog_12_method_110_code 57 = .ok (.getfield 471, 3) := by decide +kernel
theorem d_M_would_60 : decode prog_12_method_110_code 60 = .ok (.goto 16, 3) := by decide +kernel
theorem d_M_would_63 : decode prog_12_method_110_code 63 = .ok (.iload_n 2, 1) := by decide +kernel
theorem d_M_would_64 : decode prog_12_method_110_code 64 = .ok (.iconst 2, 1) := by decide +kernel
theorem d_M_would_65 : decode prog_12_method_110_code 65 = .ok (.if_icmp .ne 10, 3) := by decide +kernel
theorem d_M_would_68 : decode prog_12_method_110_code 68 = .ok (.aload_n 0, 1) := by decide +kernel
theorem d_M_would_69 : decode prog_12_method_110_code 69 = .ok (.getfield 474, 3) := by decide +kernel
theorem d_M_would_72 : decode prog_12_method_110_code 72 = .ok (.goto 4, 3) := by decide +kernel
theorem d_M_would_75 : decode prog_12_method_110_code 75 = .ok (.iload_n 3, 1) := by decide +kernel
theorem d_M_would_76 : decode prog_12_method_110_code 76 = .ok (.ireturn, 1) := by decide +kernel
theorem d_M_worn_0 : decode prog_12_method_111_code 0 = .ok (.aload_n 0, 1) := by decide +kernel
theorem d_M_worn_1 : decode prog_12_method_111_code 1 = .ok (.iload_n 1, 1) := by decide +kernel
theorem d_M_worn_2 : decode prog_12_method_111_code 2 = .ok (.invokevirtual 489, 3) := by decide +kernel
theorem d_M_worn_5 : decode prog_12_method_111_code 5 = .ok (.ifCond .eq 21, 3) := by decide +kernel
theorem d_M_worn_8 : decode prog_12_method_111_code 8 = .ok (.aload_n 0, 1) := by decide +kernel
theorem d_M_worn_9 : decode prog_12_method_111_code 9 = .ok (.iload_n 2, 1) := by decide +kernel
theorem d_M_worn_10 : decode prog_12_method_111_code 10 = .ok (.invokevirtual 353, 3) := by decide +kernel
theorem d_M_worn_13 : decode prog_12_method_111_code 13 = .ok (.ifCond .eq 13, 3) := by decide +kernel
theorem d_M_worn_16 : decode prog_12_method_111_code 16 = .ok (.iload_n 3, 1) := by decide +kernel
theorem d_M_worn_17 : decode prog_12_method_111_code 17 = .ok (.i2l, 1) := by decide +kernel
theorem d_M_worn_18 : decode prog_12_method_111_code 18 = .ok (.lconst 0, 1) := by decide +kernel
theorem d_M_worn_19 : decode prog_12_method_111_code 19 = .ok (.lconst 1, 1) := by decide +kernel
theorem d_M_worn_20 : decode prog_12_method_111_code 20 = .ok (.invokestatic 138, 3) := by decide +kernel
theorem d_M_worn_23 : decode prog_12_method_111_code 23 = .ok (.ifCond .ne 7, 3) := by decide +kernel
theorem d_M_worn_26 : decode prog_12_method_111_code 26 = .ok (.ldc2_w 304, 3) := by decide +kernel
theorem d_M_worn_29 : decode prog_12_method_111_code 29 = .ok (.lreturn, 1) := by decide +kernel
theorem d_M_worn_30 : decode prog_12_method_111_code 30 = .ok (.aload_n 0, 1) := by decide +kernel
theorem d_M_worn_31 : decode prog_12_method_111_code 31 = .ok (.invokevirtual 497, 3) := by decide +kernel
theorem d_M_worn_34 : decode prog_12_method_111_code 34 = .ok (.aload_n 0, 1) := by decide +kernel
theorem d_M_worn_35 : decode prog_12_method_111_code 35 = .ok (.iload_n 1, 1) := by decide +kernel
theorem d_M_worn_36 : decode prog_12_method_111_code 36 = .ok (.invokevirtual 492, 3) := by decide +kernel
theorem d_M_worn_39 : decode prog_12_method_111_code 39 = .ok (.aload_n 0, 1) := by decide +kernel
theorem d_M_worn_40 : decode prog_12_method_111_code 40 = .ok (.invokevirtual 500, 3) := by decide +kernel
theorem d_M_worn_43 : decode prog_12_method_111_code 43 = .ok (.aload_n 0, 1) := by decide +kernel
theorem d_M_worn_44 : decode prog_12_method_111_code 44 = .ok (.getfield 83, 3) := by decide +kernel
theorem d_M_worn_47 : decode prog_12_method_111_code 47 = .ok (.iload_n 2, 1) := by decide +kernel
theorem d_M_worn_48 : decode prog_12_method_111_code 48 = .ok (.laload, 1) := by decide +kernel
theorem d_M_worn_49 : decode prog_12_method_111_code 49 = .ok (.aload_n 0, 1) := by decide +kernel
theorem d_M_worn_50 : decode prog_12_method_111_code 50 = .ok (.getfield 64, 3) := by decide +kernel
theorem d_M_worn_53 : decode prog_12_method_111_code 53 = .ok (.iload_n 3, 1) := by decide +kernel
theorem d_M_worn_54 : decode prog_12_method_111_code 54 = .ok (.invokestatic 313, 3) := by decide +kernel
theorem d_M_worn_57 : decode prog_12_method_111_code 57 = .ok (.lreturn, 1) := by decide +kernel
theorem d_M_seed_0 : decode prog_12_method_112_code 0 = .ok (.iload_n 1, 1) := by decide +kernel
theorem d_M_seed_1 : decode prog_12_method_112_code 1 = .ok (.ifCond .ge 5, 3) := by decide +kernel
theorem d_M_seed_4 : decode prog_12_method_112_code 4 = .ok (.iconst (-1), 1) := by decide +kernel
theorem d_M_seed_5 : decode prog_12_method_112_code 5 = .ok (.ireturn, 1) := by decide +kernel
theorem d_M_seed_6 : decode prog_12_method_112_code 6 = .ok (.aload_n 0, 1) := by decide +kernel
theorem d_M_seed_7 : decode prog_12_method_112_code 7 = .ok (.getfield 42, 3) := by decide +kernel
theorem d_M_seed_10 : decode prog_12_method_112_code 10 = .ok (.bipush 8, 2) := by decide +kernel
theorem d_M_seed_12 : decode prog_12_method_112_code 12 = .ok (.iaload, 1) := by decide +kernel
theorem d_M_seed_13 : decode prog_12_method_112_code 13 = .ok (.istore_n 2, 1) := by decide +kernel
theorem d_M_seed_14 : decode prog_12_method_112_code 14 = .ok (.aload_n 0, 1) := by decide +kernel
theorem d_M_seed_15 : decode prog_12_method_112_code 15 = .ok (.getfield 42, 3) := by decide +kernel
theorem d_M_seed_18 : decode prog_12_method_112_code 18 = .ok (.bipush 8, 2) := by decide +kernel
theorem d_M_seed_20 : decode prog_12_method_112_code 20 = .ok (.iload_n 1, 1) := by decide +kernel
theorem d_M_seed_21 : decode prog_12_method_112_code 21 = .ok (.iastore, 1) := by decide +kernel
theorem d_M_seed_22 : decode prog_12_method_112_code 22 = .ok (.iload_n 2, 1) := by decide +kernel
theorem d_M_seed_23 : decode prog_12_method_112_code 23 = .ok (.ireturn, 1) := by decide +kernel
theorem d_M_drawn_0 : decode prog_12_method_113_code 0 = .ok (.aload_n 0, 1) := by decide +kernel
theorem d_M_drawn_1 : decode prog_12_method_113_code 1 = .ok (.iload_n 1, 1) := by decide +kernel
theorem d_M_drawn_2 : decode prog_12_method_113_code 2 = .ok (.invokevirtual 489, 3) := by decide +kernel
theorem d_M_drawn_5 : decode prog_12_method_113_code 5 = .ok (.ifCond .eq 40, 3) := by decide +kernel
theorem d_M_drawn_8 : decode prog_12_method_113_code 8 = .ok (.iload_n 2, 1) := by decide +kernel
theorem d_M_drawn_9 : decode prog_12_method_113_code 9 = .ok (.i2l, 1) := by decide +kernel
theorem d_M_drawn_10 : decode prog_12_method_113_code 10 = .ok (.lconst 1, 1) := by decide +kernel
theorem d_M_drawn_11 : decode prog_12_method_113_code 11 = .ok (.ldc2_w 503, 3) := by decide +kernel
theorem d_M_drawn_14 : decode prog_12_method_113_code 14 = .ok (.invokestatic 138, 3) := by decide +kernel
theorem d_M_drawn_17 : decode prog_12_method_113_code 17 = .ok (.ifCond .eq 28, 3) := by decide +kernel
theorem d_M_drawn_20 : decode prog_12_method_113_code 20 = .ok (.iload_n 3, 1) := by decide +kernel
theorem d_M_drawn_21 : decode prog_12_method_113_code 21 = .ok (.i2l, 1) := by decide +kernel
theorem d_M_drawn_22 : decode prog_12_method_113_code 22 = .ok (.lconst 1, 1) := by decide +kernel
theorem d_M_drawn_23 : decode prog_12_method_113_code 23 = .ok (.ldc2_w 374, 3) := by decide +kernel
theorem d_M_drawn_26 : decode prog_12_method_113_code 26 = .ok (.invokestatic 138, 3) := by decide +kernel
theorem d_M_drawn_29 : decode prog_12_method_113_code 29 = .ok (.ifCond .eq 16, 3) := by decide +kernel
theorem d_M_drawn_32 : decode prog_12_method_113_code 32 = .ok (.iload 4, 2) := by decide +kernel
theorem d_M_drawn_34 : decode prog_12_method_113_code 34 = .ok (.i2l, 1) := by decide +kernel
theorem d_M_drawn_35 : decode prog_12_method_113_code 35 = .ok (.lconst 0, 1) := by decide +kernel
theorem d_M_drawn_36 : decode prog_12_method_113_code 36 = .ok (.ldc2_w 341, 3) := by decide +kernel
theorem d_M_drawn_39 : decode prog_12_method_113_code 39 = .ok (.invokestatic 138, 3) := by decide +kernel
theorem d_M_drawn_42 : decode prog_12_method_113_code 42 = .ok (.ifCond .ne 5, 3) := by decide +kernel
theorem d_M_drawn_45 : decode prog_12_method_113_code 45 = .ok (.iconst (-1), 1) := by decide +kernel
theorem d_M_drawn_46 : decode prog_12_method_113_code 46 = .ok (.ireturn, 1) := by decide +kernel
theorem d_M_drawn_47 : decode prog_12_method_113_code 47 = .ok (.aload_n 0, 1) := by decide +kernel
theorem d_M_drawn_48 : decode prog_12_method_113_code 48 = .ok (.invokevirtual 497, 3) := by decide +kernel
theorem d_M_drawn_51 : decode prog_12_method_113_code 51 = .ok (.aload_n 0, 1) := by decide +kernel
theorem d_M_drawn_52 : decode prog_12_method_113_code 52 = .ok (.invokevirtual 480, 3) := by decide +kernel
theorem d_M_drawn_55 : decode prog_12_method_113_code 55 = .ok (.aload_n 0, 1) := by decide +kernel
theorem d_M_drawn_56 : decode prog_12_method_113_code 56 = .ok (.getfield 42, 3) := by decide +kernel
theorem d_M_drawn_59 : decode prog_12_method_113_code 59 = .ok (.bipush 8, 2) := by decide +kernel
theorem d_M_drawn_61 : decode prog_12_method_113_code 61 = .ok (.iaload, 1) := by decide +kernel
theorem d_M_drawn_62 : decode prog_12_method_113_code 62 = .ok (.i2l, 1) := by decide +kernel
theorem d_M_drawn_63 : decode prog_12_method_113_code 63 = .ok (.lstore 5, 2) := by decide +kernel
theorem d_M_drawn_65 : decode prog_12_method_113_code 65 = .ok (.iconst 0, 1) := by decide +kernel
theorem d_M_drawn_66 : decode prog_12_method_113_code 66 = .ok (.istore 7, 2) := by decide +kernel
theorem d_M_drawn_68 : decode prog_12_method_113_code 68 = .ok (.iload 7, 2) := by decide +kernel
theorem d_M_drawn_70 : decode prog_12_method_113_code 70 = .ok (.iload_n 2, 1) := by decide +kernel
theorem d_M_drawn_71 : decode prog_12_method_113_code 71 = .ok (.if_icmp .ge 66, 3) := by decide +kernel
theorem d_M_drawn_74 : decode prog_12_method_113_code 74 = .ok (.iconst 0, 1) := by decide +kernel
theorem d_M_drawn_75 : decode prog_12_method_113_code 75 = .ok (.istore 8, 2) := by decide +kernel
theorem d_M_drawn_77 : decode prog_12_method_113_code 77 = .ok (.iload 8, 2) := by decide +kernel
theorem d_M_drawn_79 : decode prog_12_method_113_code 79 = .ok (.iload_n 3, 1) := by decide +kernel
theorem d_M_drawn_80 : decode prog_12_method_113_code 80 = .ok (.if_icmp .ge 47, 3) := by decide +kernel
theorem d_M_drawn_83 : decode prog_12_method_113_code 83 = .ok (.lload 5, 2) := by decide +kernel
theorem d_M_drawn_85 : decode prog_12_method_113_code 85 = .ok (.ldc2_w 505, 3) := by decide +kernel
theorem d_M_drawn_88 : decode prog_12_method_113_code 88 = .ok (.lmul, 1) := by decide +kernel
theorem d_M_drawn_89 : decode prog_12_method_113_code 89 = .ok (.ldc2_w 507, 3) := by decide +kernel
theorem d_M_drawn_92 : decode prog_12_method_113_code 92 = .ok (.ladd, 1) := by decide +kernel
theorem d_M_drawn_93 : decode prog_12_method_113_code 93 = .ok (.ldc2_w 509, 3) := by decide +kernel
theorem d_M_drawn_96 : decode prog_12_method_113_code 96 = .ok (.lrem, 1) := by decide +kernel
theorem d_M_drawn_97 : decode prog_12_method_113_code 97 = .ok (.lstore 5, 2) := by decide +kernel
theorem d_M_drawn_99 : decode prog_12_method_113_code 99 = .ok (.aload_n 0, 1) := by decide +kernel
theorem d_M_drawn_100 : decode prog_12_method_113_code 100 = .ok (.iload_n 1, 1) := by decide +kernel
theorem d_M_drawn_101 : decode prog_12_method_113_code 101 = .ok (.lload 5, 2) := by decide +kernel
theorem d_M_drawn_103 : decode prog_12_method_113_code 103 = .ok (.ldc2_w 511, 3) := by decide +kernel
theorem d_M_drawn_106 : decode prog_12_method_113_code 106 = .ok (.ldiv, 1) := by decide +kernel
theorem d_M_drawn_107 : decode prog_12_method_113_code 107 = .ok (.aload_n 0, 1) := by decide +kernel
theorem d_M_drawn_108 : decode prog_12_method_113_code 108 = .ok (.getfield 42, 3) := by decide +kernel
theorem d_M_drawn_111 : decode prog_12_method_113_code 111 = .ok (.iconst 0, 1) := by decide +kernel
theorem d_M_drawn_112 : decode prog_12_method_113_code 112 = .ok (.iaload, 1) := by decide +kernel
theorem d_M_drawn_113 : decode prog_12_method_113_code 113 = .ok (.i2l, 1) := by decide +kernel
theorem d_M_drawn_114 : decode prog_12_method_113_code 114 = .ok (.lrem, 1) := by decide +kernel
theorem d_M_drawn_115 : decode prog_12_method_113_code 115 = .ok (.l2i, 1) := by decide +kernel
theorem d_M_drawn_116 : decode prog_12_method_113_code 116 = .ok (.iload 8, 2) := by decide +kernel
theorem d_M_drawn_118 : decode prog_12_method_113_code 118 = .ok (.invokevirtual 483, 3) := by decide +kernel
theorem d_M_drawn_121 : decode prog_12_method_113_code 121 = .ok (.iinc 8 1, 3) := by decide +kernel
theorem d_M_drawn_124 : decode prog_12_method_113_code 124 = .ok (.goto (-47), 3) := by decide +kernel
theorem d_M_drawn_127 : decode prog_12_method_113_code 127 = .ok (.aload_n 0, 1) := by decide +kernel
theorem d_M_drawn_128 : decode prog_12_method_113_code 128 = .ok (.invokevirtual 500, 3) := by decide +kernel
theorem d_M_drawn_131 : decode prog_12_method_113_code 131 = .ok (.iinc 7 1, 3) := by decide +kernel
theorem d_M_drawn_134 : decode prog_12_method_113_code 134 = .ok (.goto (-66), 3) := by decide +kernel
theorem d_M_drawn_137 : decode prog_12_method_113_code 137 = .ok (.iload 4, 2) := by decide +kernel
theorem d_M_drawn_139 : decode prog_12_method_113_code 139 = .ok (.ifCond .ne 10, 3) := by decide +kernel
theorem d_M_drawn_142 : decode prog_12_method_113_code 142 = .ok (.aload_n 0, 1) := by decide +kernel
theorem d_M_drawn_143 : decode prog_12_method_113_code 143 = .ok (.getfield 468, 3) := by decide +kernel
theorem d_M_drawn_146 : decode prog_12_method_113_code 146 = .ok (.goto 20, 3) := by decide +kernel
theorem d_M_drawn_149 : decode prog_12_method_113_code 149 = .ok (.iload 4, 2) := by decide +kernel
theorem d_M_drawn_151 : decode prog_12_method_113_code 151 = .ok (.iconst 1, 1) := by decide +kernel
theorem d_M_drawn_152 : decode prog_12_method_113_code 152 = .ok (.if_icmp .ne 10, 3) := by decide +kernel
theorem d_M_drawn_155 : decode prog_12_method_113_code 155 = .ok (.aload_n 0, 1) := by decide +kernel
theorem d_M_drawn_156 : decode prog_12_method_113_code 156 = .ok (.getfield 471, 3) := by decide +kernel
theorem d_M_drawn_159 : decode prog_12_method_113_code 159 = .ok (.goto 7, 3) := by decide +kernel
theorem d_M_drawn_162 : decode prog_12_method_113_code 162 = .ok (.aload_n 0, 1) := by decide +kernel
theorem d_M_drawn_163 : decode prog_12_method_113_code 163 = .ok (.getfield 474, 3) := by decide +kernel
theorem d_M_drawn_166 : decode prog_12_method_113_code 166 = .ok (.ireturn, 1) := by decide +kernel
theorem d_M_count_0 : decode prog_12_method_114_code 0 = .ok (.iconst 0, 1) := by decide +kernel
theorem d_M_count_1 : decode prog_12_method_114_code 1 = .ok (.istore_n 2, 1) := by decide +kernel
theorem d_M_count_2 : decode prog_12_method_114_code 2 = .ok (.iload_n 1, 1) := by decide +kernel
theorem d_M_count_3 : decode prog_12_method_114_code 3 = .ok (.tableswitch 193 0 11 #[61, 61, 68, 73, 78, 117, 155, 162, 170, 178, 183, 183], 61) := by decide +kernel
theorem d_M_count_64 : decode prog_12_method_114_code 64 = .ok (.aload_n 0, 1) := by decide +kernel
theorem d_M_count_65 : decode prog_12_method_114_code 65 = .ok (.getfield 42, 3) := by decide +kernel
theorem d_M_count_68 : decode prog_12_method_114_code 68 = .ok (.iload_n 1, 1) := by decide +kernel
theorem d_M_count_69 : decode prog_12_method_114_code 69 = .ok (.iaload, 1) := by decide +kernel
theorem d_M_count_70 : decode prog_12_method_114_code 70 = .ok (.ireturn, 1) := by decide +kernel
theorem d_M_count_71 : decode prog_12_method_114_code 71 = .ok (.aload_n 0, 1) := by decide +kernel
theorem d_M_count_72 : decode prog_12_method_114_code 72 = .ok (.getfield 273, 3) := by decide +kernel
theorem d_M_count_75 : decode prog_12_method_114_code 75 = .ok (.ireturn, 1) := by decide +kernel
theorem d_M_count_76 : decode prog_12_method_114_code 76 = .ok (.aload_n 0, 1) := by decide +kernel
theorem d_M_count_77 : decode prog_12_method_114_code 77 = .ok (.invokevirtual 452, 3) := by decide +kernel
theorem d_M_count_80 : decode prog_12_method_114_code 80 = .ok (.ireturn, 1) := by decide +kernel
theorem d_M_count_81 : decode prog_12_method_114_code 81 = .ok (.iconst 0, 1) := by decide +kernel
theorem d_M_count_82 : decode prog_12_method_114_code 82 = .ok (.istore_n 3, 1) := by decide +kernel
theorem d_M_count_83 : decode prog_12_method_114_code 83 = .ok (.iload_n 3, 1) := by decide +kernel
theorem d_M_count_84 : decode prog_12_method_114_code 84 = .ok (.aload_n 0, 1) := by decide +kernel
theorem d_M_count_85 : decode prog_12_method_114_code 85 = .ok (.getfield 42, 3) := by decide +kernel
theorem d_M_count_88 : decode prog_12_method_114_code 88 = .ok (.iconst 0, 1) := by decide +kernel
theorem d_M_count_89 : decode prog_12_method_114_code 89 = .ok (.iaload, 1) := by decide +kernel
theorem d_M_count_90 : decode prog_12_method_114_code 90 = .ok (.if_icmp .ge 28, 3) := by decide +kernel
theorem d_M_count_93 : decode prog_12_method_114_code 93 = .ok (.iload_n 2, 1) := by decide +kernel
theorem d_M_count_94 : decode prog_12_method_114_code 94 = .ok (.aload_n 0, 1) := by decide +kernel
theorem d_M_count_95 : decode prog_12_method_114_code 95 = .ok (.getfield 60, 3) := by decide +kernel
theorem d_M_count_98 : decode prog_12_method_114_code 98 = .ok (.iload_n 3, 1) := by decide +kernel
theorem d_M_count_99 : decode prog_12_method_114_code 99 = .ok (.baload, 1) := by decide +kernel
theorem d_M_count_100 : decode prog_12_method_114_code 100 = .ok (.ifCond .eq 9, 3) := by decide +kernel
theorem d_M_count_103 : decode prog_12_method_114_code 103 = .ok (.iconst 1, 1) := by decide +kernel
theorem d_M_count_104 : decode prog_12_method_114_code 104 = .ok (.iload_n 3, 1) := by decide +kernel
theorem d_M_count_105 : decode prog_12_method_114_code 105 = .ok (.ishl, 1) := by decide +kernel
theorem d_M_count_106 : decode prog_12_method_114_code 106 = .ok (.goto 4, 3) := by decide +kernel
theorem d_M_count_109 : decode prog_12_method_114_code 109 = .ok (.iconst 0, 1) := by decide +kernel
theorem d_M_count_110 : decode prog_12_method_114_code 110 = .ok (.ior, 1) := by decide +kernel
theorem d_M_count_111 : decode prog_12_method_114_code 111 = .ok (.istore_n 2, 1) := by decide +kernel
theorem d_M_count_112 : decode prog_12_method_114_code 112 = .ok (.iinc 3 1, 3) := by decide +kernel
theorem d_M_count_115 : decode prog_12_method_114_code 115 = .ok (.goto (-32), 3) := by decide +kernel
theorem d_M_count_118 : decode prog_12_method_114_code 118 = .ok (.iload_n 2, 1) := by decide +kernel
theorem d_M_count_119 : decode prog_12_method_114_code 119 = .ok (.ireturn, 1) := by decide +kernel
theorem d_M_count_120 : decode prog_12_method_114_code 120 = .ok (.iconst 0, 1) := by decide +kernel
theorem d_M_count_121 : decode prog_12_method_114_code 121 = .ok (.istore_n 3, 1) := by decide +kernel
theorem d_M_count_122 : decode prog_12_method_114_code 122 = .ok (.iload_n 3, 1) := by decide +kernel
theorem d_M_count_123 : decode prog_12_method_114_code 123 = .ok (.aload_n 0, 1) := by decide +kernel
theorem d_M_count_124 : decode prog_12_method_114_code 124 = .ok (.getfield 42, 3) := by decide +kernel
theorem d_M_count_127 : decode prog_12_method_114_code 127 = .ok (.iconst 0, 1) := by decide +kernel
theorem d_M_count_128 : decode prog_12_method_114_code 128 = .ok (.iaload, 1) := by decide +kernel
theorem d_M_count_129 : decode prog_12_method_114_code 129 = .ok (.if_icmp .ge 27, 3) := by decide +kernel
theorem d_M_count_132 : decode prog_12_method_114_code 132 = .ok (.iload_n 2, 1) := by decide +kernel
theorem d_M_count_133 : decode prog_12_method_114_code 133 = .ok (.aload_n 0, 1) := by decide +kernel
theorem d_M_count_134 : decode prog_12_method_114_code 134 = .ok (.getfield 51, 3) := by decide +kernel
theorem d_M_count_137 : decode prog_12_method_114_code 137 = .ok (.iload_n 3, 1) := by decide +kernel
theorem d_M_count_138 : decode prog_12_method_114_code 138 = .ok (.iaload, 1) := by decide +kernel
theorem d_M_count_139 : decode prog_12_method_114_code 139 = .ok (.iload_n 3, 1) := by decide +kernel
theorem d_M_count_140 : decode prog_12_method_114_code 140 = .ok (.if_icmp .ne 7, 3) := by decide +kernel
theorem d_M_count_143 : decode prog_12_method_114_code 143 = .ok (.iconst 1, 1) := by decide +kernel
theorem d_M_count_144 : decode prog_12_method_114_code 144 = .ok (.goto 4, 3) := by decide +kernel
theorem d_M_count_147 : decode prog_12_method_114_code 147 = .ok (.iconst 0, 1) := by decide +kernel
theorem d_M_count_148 : decode prog_12_method_114_code 148 = .ok (.iadd, 1) := by decide +kernel
theorem d_M_count_149 : decode prog_12_method_114_code 149 = .ok (.istore_n 2, 1) := by decide +kernel
theorem d_M_count_150 : decode prog_12_method_114_code 150 = .ok (.iinc 3 1, 3) := by decide +kernel
theorem d_M_count_153 : decode prog_12_method_114_code 153 = .ok (.goto (-31), 3) := by decide +kernel
theorem d_M_count_156 : decode prog_12_method_114_code 156 = .ok (.iload_n 2, 1) := by decide +kernel
theorem d_M_count_157 : decode prog_12_method_114_code 157 = .ok (.ireturn, 1) := by decide +kernel
theorem d_M_count_158 : decode prog_12_method_114_code 158 = .ok (.aload_n 0, 1) := by decide +kernel
theorem d_M_count_159 : decode prog_12_method_114_code 159 = .ok (.getfield 42, 3) := by decide +kernel
theorem d_M_count_162 : decode prog_12_method_114_code 162 = .ok (.iconst 5, 1) := by decide +kernel
theorem d_M_count_163 : decode prog_12_method_114_code 163 = .ok (.iaload, 1) := by decide +kernel
theorem d_M_count_164 : decode prog_12_method_114_code 164 = .ok (.ireturn, 1) := by decide +kernel
theorem d_M_count_165 : decode prog_12_method_114_code 165 = .ok (.aload_n 0, 1) := by decide +kernel
theorem d_M_count_166 : decode prog_12_method_114_code 166 = .ok (.getfield 42, 3) := by decide +kernel
theorem d_M_count_169 : decode prog_12_method_114_code 169 = .ok (.bipush 6, 2) := by decide +kernel
theorem d_M_count_171 : decode prog_12_method_114_code 171 = .ok (.iaload, 1) := by decide +kernel
theorem d_M_count_172 : decode prog_12_method_114_code 172 = .ok (.ireturn, 1) := by decide +kernel
theorem d_M_count_173 : decode prog_12_method_114_code 173 = .ok (.aload_n 0, 1) := by decide +kernel
theorem d_M_count_174 : decode prog_12_method_114_code 174 = .ok (.getfield 42, 3) := by decide +kernel
theorem d_M_count_177 : decode prog_12_method_114_code 177 = .ok (.bipush 8, 2) := by decide +kernel
theorem d_M_count_179 : decode prog_12_method_114_code 179 = .ok (.iaload, 1) := by decide +kernel
theorem d_M_count_180 : decode prog_12_method_114_code 180 = .ok (.ireturn, 1) := by decide +kernel
theorem d_M_count_181 : decode prog_12_method_114_code 181 = .ok (.aload_n 0, 1) := by decide +kernel
theorem d_M_count_182 : decode prog_12_method_114_code 182 = .ok (.getfield 99, 3) := by decide +kernel
theorem d_M_count_185 : decode prog_12_method_114_code 185 = .ok (.ireturn, 1) := by decide +kernel
theorem d_M_count_186 : decode prog_12_method_114_code 186 = .ok (.aload_n 0, 1) := by decide +kernel
theorem d_M_count_187 : decode prog_12_method_114_code 187 = .ok (.getfield 42, 3) := by decide +kernel
theorem d_M_count_190 : decode prog_12_method_114_code 190 = .ok (.iload_n 1, 1) := by decide +kernel
theorem d_M_count_191 : decode prog_12_method_114_code 191 = .ok (.bipush 7, 2) := by decide +kernel
theorem d_M_count_193 : decode prog_12_method_114_code 193 = .ok (.isub, 1) := by decide +kernel
theorem d_M_count_194 : decode prog_12_method_114_code 194 = .ok (.iaload, 1) := by decide +kernel
theorem d_M_count_195 : decode prog_12_method_114_code 195 = .ok (.ireturn, 1) := by decide +kernel
theorem d_M_count_196 : decode prog_12_method_114_code 196 = .ok (.iconst (-1), 1) := by decide +kernel
theorem d_M_count_197 : decode prog_12_method_114_code 197 = .ok (.ireturn, 1) := by decide +kernel
theorem d_M_image_0 : decode prog_12_method_115_code 0 = .ok (.iload_n 1, 1) := by decide +kernel
theorem d_M_image_1 : decode prog_12_method_115_code 1 = .ok (.i2l, 1) := by decide +kernel
theorem d_M_image_2 : decode prog_12_method_115_code 2 = .ok (.lconst 0, 1) := by decide +kernel
theorem d_M_image_3 : decode prog_12_method_115_code 3 = .ok (.ldc2_w 495, 3) := by decide +kernel
theorem d_M_image_6 : decode prog_12_method_115_code 6 = .ok (.invokestatic 138, 3) := by decide +kernel
theorem d_M_image_9 : decode prog_12_method_115_code 9 = .ok (.ifCond .ne 5, 3) := by decide +kernel
theorem d_M_image_12 : decode prog_12_method_115_code 12 = .ok (.iconst (-1), 1) := by decide +kernel
theorem d_M_image_13 : decode prog_12_method_115_code 13 = .ok (.ireturn, 1) := by decide +kernel
theorem d_M_image_14 : decode prog_12_method_115_code 14 = .ok (.aload_n 0, 1) := by decide +kernel
theorem d_M_image_15 : decode prog_12_method_115_code 15 = .ok (.getfield 92, 3) := by decide +kernel
theorem d_M_image_18 : decode prog_12_method_115_code 18 = .ok (.iload_n 1, 1) := by decide +kernel
theorem d_M_image_19 : decode prog_12_method_115_code 19 = .ok (.iconst 1, 1) := by decide +kernel
theorem d_M_image_20 : decode prog_12_method_115_code 20 = .ok (.bastore, 1) := by decide +kernel
theorem d_M_image_21 : decode prog_12_method_115_code 21 = .ok (.iconst 0, 1) := by decide +kernel
theorem d_M_image_22 : decode prog_12_method_115_code 22 = .ok (.istore_n 2, 1) := by decide +kernel
theorem d_M_image_23 : decode prog_12_method_115_code 23 = .ok (.iload_n 2, 1) := by decide +kernel
theorem d_M_image_24 : decode prog_12_method_115_code 24 = .ok (.sipush 134, 3) := by decide +kernel
theorem d_M_image_27 : decode prog_12_method_115_code 27 = .ok (.if_icmp .ge 27, 3) := by decide +kernel
theorem d_M_image_30 : decode prog_12_method_115_code 30 = .ok (.aload_n 0, 1) := by decide +kernel
theorem d_M_image_31 : decode prog_12_method_115_code 31 = .ok (.getfield 86, 3) := by decide +kernel
theorem d_M_image_34 : decode prog_12_method_115_code 34 = .ok (.sipush 134, 3) := by decide +kernel
theorem d_M_image_37 : decode prog_12_method_115_code 37 = .ok (.iload_n 1, 1) := by decide +kernel
theorem d_M_image_38 : decode prog_12_method_115_code 38 = .ok (.imul, 1) := by decide +kernel
theorem d_M_image_39 : decode prog_12_method_115_code 39 = .ok (.iload_n 2, 1) := by decide +kernel
theorem d_M_image_40 : decode prog_12_method_115_code 40 = .ok (.iadd, 1) := by decide +kernel
theorem d_M_image_41 : decode prog_12_method_115_code 41 = .ok (.aload_n 0, 1) := by decide +kernel
theorem d_M_image_42 : decode prog_12_method_115_code 42 = .ok (.getfield 42, 3) := by decide +kernel
theorem d_M_image_45 : decode prog_12_method_115_code 45 = .ok (.iload_n 2, 1) := by decide +kernel
theorem d_M_image_46 : decode prog_12_method_115_code 46 = .ok (.iaload, 1) := by decide +kernel
theorem d_M_image_47 : decode prog_12_method_115_code 47 = .ok (.iastore, 1) := by decide +kernel
theorem d_M_image_48 : decode prog_12_method_115_code 48 = .ok (.iinc 2 1, 3) := by decide +kernel
theorem d_M_image_51 : decode prog_12_method_115_code 51 = .ok (.goto (-28), 3) := by decide +kernel
theorem d_M_image_54 : decode prog_12_method_115_code 54 = .ok (.iconst 0, 1) := by decide +kernel
theorem d_M_image_55 : decode prog_12_method_115_code 55 = .ok (.istore_n 2, 1) := by decide +kernel
theorem d_M_image_56 : decode prog_12_method_115_code 56 = .ok (.iload_n 2, 1) := by decide +kernel
theorem d_M_image_57 : decode prog_12_method_115_code 57 = .ok (.bipush 12, 2) := by decide +kernel
theorem d_M_image_59 : decode prog_12_method_115_code 59 = .ok (.if_icmp .ge 26, 3) := by decide +kernel
theorem d_M_image_62 : decode prog_12_method_115_code 62 = .ok (.aload_n 0, 1) := by decide +kernel
theorem d_M_image_63 : decode prog_12_method_115_code 63 = .ok (.getfield 89, 3) := by decide +kernel
theorem d_M_image_66 : decode prog_12_method_115_code 66 = .ok (.bipush 12, 2) := by decide +kernel
theorem d_M_image_68 : decode prog_12_method_115_code 68 = .ok (.iload_n 1, 1) := by decide +kernel
theorem d_M_image_69 : decode prog_12_method_115_code 69 = .ok (.imul, 1) := by decide +kernel
theorem d_M_image_70 : decode prog_12_method_115_code 70 = .ok (.iload_n 2, 1) := by decide +kernel
theorem d_M_image_71 : decode prog_12_method_115_code 71 = .ok (.iadd, 1) := by decide +kernel
theorem d_M_image_72 : decode prog_12_method_115_code 72 = .ok (.aload_n 0, 1) := by decide +kernel
theorem d_M_image_73 : decode prog_12_method_115_code 73 = .ok (.getfield 45, 3) := by decide +kernel
theorem d_M_image_76 : decode prog_12_method_115_code 76 = .ok (.iload_n 2, 1) := by decide +kernel
theorem d_M_image_77 : decode prog_12_method_115_code 77 = .ok (.laload, 1) := by decide +kernel
theorem d_M_image_78 : decode prog_12_method_115_code 78 = .ok (.lastore, 1) := by decide +kernel
theorem d_M_image_79 : decode prog_12_method_115_code 79 = .ok (.iinc 2 1, 3) := by decide +kernel
theorem d_M_image_82 : decode prog_12_method_115_code 82 = .ok (.goto (-26), 3) := by decide +kernel
theorem d_M_image_85 : decode prog_12_method_115_code 85 = .ok (.aload_n 0, 1) := by decide +kernel
theorem d_M_image_86 : decode prog_12_method_115_code 86 = .ok (.invokevirtual 452, 3) := by decide +kernel
theorem d_M_image_89 : decode prog_12_method_115_code 89 = .ok (.ireturn, 1) := by decide +kernel
theorem d_M_back_0 : decode prog_12_method_116_code 0 = .ok (.iload_n 1, 1) := by decide +kernel
theorem d_M_back_1 : decode prog_12_method_116_code 1 = .ok (.i2l, 1) := by decide +kernel
theorem d_M_back_2 : decode prog_12_method_116_code 2 = .ok (.lconst 0, 1) := by decide +kernel
theorem d_M_back_3 : decode prog_12_method_116_code 3 = .ok (.ldc2_w 495, 3) := by decide +kernel
theorem d_M_back_6 : decode prog_12_method_116_code 6 = .ok (.invokestatic 138, 3) := by decide +kernel
theorem d_M_back_9 : decode prog_12_method_116_code 9 = .ok (.ifCond .eq 12, 3) := by decide +kernel
theorem d_M_back_12 : decode prog_12_method_116_code 12 = .ok (.aload_n 0, 1) := by decide +kernel
theorem d_M_back_13 : decode prog_12_method_116_code 13 = .ok (.getfield 92, 3) := by decide +kernel
theorem d_M_back_16 : decode prog_12_method_116_code 16 = .ok (.iload_n 1, 1) := by decide +kernel
theorem d_M_back_17 : decode prog_12_method_116_code 17 = .ok (.baload, 1) := by decide +kernel
theorem d_M_back_18 : decode prog_12_method_116_code 18 = .ok (.ifCond .ne 5, 3) := by decide +kernel
theorem d_M_back_21 : decode prog_12_method_116_code 21 = .ok (.iconst (-1), 1) := by decide +kernel
theorem d_M_back_22 : decode prog_12_method_116_code 22 = .ok (.ireturn, 1) := by decide +kernel
theorem d_M_back_23 : decode prog_12_method_116_code 23 = .ok (.iconst 0, 1) := by decide +kernel
theorem d_M_back_24 : decode prog_12_method_116_code 24 = .ok (.istore_n 2, 1) := by decide +kernel
theorem d_M_back_25 : decode prog_12_method_116_code 25 = .ok (.iload_n 2, 1) := by decide +kernel
theorem d_M_back_26 : decode prog_12_method_116_code 26 = .ok (.sipush 134, 3) := by decide +kernel
theorem d_M_back_29 : decode prog_12_method_116_code 29 = .ok (.if_icmp .ge 27, 3) := by decide +kernel
theorem d_M_back_32 : decode prog_12_method_116_code 32 = .ok (.aload_n 0, 1) := by decide +kernel
theorem d_M_back_33 : decode prog_12_method_116_code 33 = .ok (.getfield 42, 3) := by decide +kernel
theorem d_M_back_36 : decode prog_12_method_116_code 36 = .ok (.iload_n 2, 1) := by decide +kernel
theorem d_M_back_37 : decode prog_12_method_116_code 37 = .ok (.aload_n 0, 1) := by decide +kernel
theorem d_M_back_38 : decode prog_12_method_116_code 38 = .ok (.getfield 86, 3) := by decide +kernel
theorem d_M_back_41 : decode prog_12_method_116_code 41 = .ok (.sipush 134, 3) := by decide +kernel
theorem d_M_back_44 : decode prog_12_method_116_code 44 = .ok (.iload_n 1, 1) := by decide +kernel
theorem d_M_back_45 : decode prog_12_method_116_code 45 = .ok (.imul, 1) := by decide +kernel
theorem d_M_back_46 : decode prog_12_method_116_code 46 = .ok (.iload_n 2, 1) := by decide +kernel
theorem d_M_back_47 : decode prog_12_method_116_code 47 = .ok (.iadd, 1) := by decide +kernel
theorem d_M_back_48 : decode prog_12_method_116_code 48 = .ok (.iaload, 1) := by decide +kernel
theorem d_M_back_49 : decode prog_12_method_116_code 49 = .ok (.iastore, 1) := by decide +kernel
theorem d_M_back_50 : decode prog_12_method_116_code 50 = .ok (.iinc 2 1, 3) := by decide +kernel
theorem d_M_back_53 : decode prog_12_method_116_code 53 = .ok (.goto (-28), 3) := by decide +kernel
theorem d_M_back_56 : decode prog_12_method_116_code 56 = .ok (.iconst 0, 1) := by decide +kernel
theorem d_M_back_57 : decode prog_12_method_116_code 57 = .ok (.istore_n 2, 1) := by decide +kernel
theorem d_M_back_58 : decode prog_12_method_116_code 58 = .ok (.iload_n 2, 1) := by decide +kernel
theorem d_M_back_59 : decode prog_12_method_116_code 59 = .ok (.bipush 12, 2) := by decide +kernel
theorem d_M_back_61 : decode prog_12_method_116_code 61 = .ok (.if_icmp .ge 26, 3) := by decide +kernel
theorem d_M_back_64 : decode prog_12_method_116_code 64 = .ok (.aload_n 0, 1) := by decide +kernel
theorem d_M_back_65 : decode prog_12_method_116_code 65 = .ok (.getfield 45, 3) := by decide +kernel
theorem d_M_back_68 : decode prog_12_method_116_code 68 = .ok (.iload_n 2, 1) := by decide +kernel
theorem d_M_back_69 : decode prog_12_method_116_code 69 = .ok (.aload_n 0, 1) := by decide +kernel
theorem d_M_back_70 : decode prog_12_method_116_code 70 = .ok (.getfield 89, 3) := by decide +kernel
theorem d_M_back_73 : decode prog_12_method_116_code 73 = .ok (.bipush 12, 2) := by decide +kernel
theorem d_M_back_75 : decode prog_12_method_116_code 75 = .ok (.iload_n 1, 1) := by decide +kernel
theorem d_M_back_76 : decode prog_12_method_116_code 76 = .ok (.imul, 1) := by decide +kernel
theorem d_M_back_77 : decode prog_12_method_116_code 77 = .ok (.iload_n 2, 1) := by decide +kernel
theorem d_M_back_78 : decode prog_12_method_116_code 78 = .ok (.iadd, 1) := by decide +kernel
theorem d_M_back_79 : decode prog_12_method_116_code 79 = .ok (.laload, 1) := by decide +kernel
theorem d_M_back_80 : decode prog_12_method_116_code 80 = .ok (.lastore, 1) := by decide +kernel
theorem d_M_back_81 : decode prog_12_method_116_code 81 = .ok (.iinc 2 1, 3) := by decide +kernel
theorem d_M_back_84 : decode prog_12_method_116_code 84 = .ok (.goto (-26), 3) := by decide +kernel
theorem d_M_back_87 : decode prog_12_method_116_code 87 = .ok (.aload_n 0, 1) := by decide +kernel
theorem d_M_back_88 : decode prog_12_method_116_code 88 = .ok (.invokevirtual 279, 3) := by decide +kernel
theorem d_M_back_91 : decode prog_12_method_116_code 91 = .ok (.aload_n 0, 1) := by decide +kernel
theorem d_M_back_92 : decode prog_12_method_116_code 92 = .ok (.invokevirtual 452, 3) := by decide +kernel
theorem d_M_back_95 : decode prog_12_method_116_code 95 = .ok (.ireturn, 1) := by decide +kernel
