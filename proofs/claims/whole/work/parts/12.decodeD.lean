/-! decode rows, D -/
theorem d_Cu_fewest_0 : decode prog_2_method_2_code 0 = .ok (.aload_n 0, 1) := by decide +kernel
theorem d_Cu_fewest_1 : decode prog_2_method_2_code 1 = .ok (.iload_n 1, 1) := by decide +kernel
theorem d_Cu_fewest_2 : decode prog_2_method_2_code 2 = .ok (.putfield 24, 3) := by decide +kernel
theorem d_Cu_fewest_5 : decode prog_2_method_2_code 5 = .ok (.aload_n 0, 1) := by decide +kernel
theorem d_Cu_fewest_6 : decode prog_2_method_2_code 6 = .ok (.iload_n 2, 1) := by decide +kernel
theorem d_Cu_fewest_7 : decode prog_2_method_2_code 7 = .ok (.putfield 28, 3) := by decide +kernel
theorem d_Cu_fewest_10 : decode prog_2_method_2_code 10 = .ok (.iconst 1, 1) := by decide +kernel
theorem d_Cu_fewest_11 : decode prog_2_method_2_code 11 = .ok (.aload_n 0, 1) := by decide +kernel
theorem d_Cu_fewest_12 : decode prog_2_method_2_code 12 = .ok (.getfield 9, 3) := by decide +kernel
theorem d_Cu_fewest_15 : decode prog_2_method_2_code 15 = .ok (.getfield 31, 3) := by decide +kernel
theorem d_Cu_fewest_18 : decode prog_2_method_2_code 18 = .ok (.ishl, 1) := by decide +kernel
theorem d_Cu_fewest_19 : decode prog_2_method_2_code 19 = .ok (.istore_n 3, 1) := by decide +kernel
theorem d_Cu_fewest_20 : decode prog_2_method_2_code 20 = .ok (.iconst 1, 1) := by decide +kernel
theorem d_Cu_fewest_21 : decode prog_2_method_2_code 21 = .ok (.istore 4, 2) := by decide +kernel
theorem d_Cu_fewest_23 : decode prog_2_method_2_code 23 = .ok (.iload 4, 2) := by decide +kernel
theorem d_Cu_fewest_25 : decode prog_2_method_2_code 25 = .ok (.iconst 3, 1) := by decide +kernel
theorem d_Cu_fewest_26 : decode prog_2_method_2_code 26 = .ok (.if_icmp .gt 59, 3) := by decide +kernel
theorem d_Cu_fewest_29 : decode prog_2_method_2_code 29 = .ok (.iconst 1, 1) := by decide +kernel
theorem d_Cu_fewest_30 : decode prog_2_method_2_code 30 = .ok (.iload 4, 2) := by decide +kernel
theorem d_Cu_fewest_32 : decode prog_2_method_2_code 32 = .ok (.ishl, 1) := by decide +kernel
theorem d_Cu_fewest_33 : decode prog_2_method_2_code 33 = .ok (.iconst 1, 1) := by decide +kernel
theorem d_Cu_fewest_34 : decode prog_2_method_2_code 34 = .ok (.isub, 1) := by decide +kernel
theorem d_Cu_fewest_35 : decode prog_2_method_2_code 35 = .ok (.istore 5, 2) := by decide +kernel
theorem d_Cu_fewest_37 : decode prog_2_method_2_code 37 = .ok (.iconst 0, 1) := by decide +kernel
theorem d_Cu_fewest_38 : decode prog_2_method_2_code 38 = .ok (.istore 6, 2) := by decide +kernel
theorem d_Cu_fewest_40 : decode prog_2_method_2_code 40 = .ok (.iload 6, 2) := by decide +kernel
theorem d_Cu_fewest_42 : decode prog_2_method_2_code 42 = .ok (.sipush 560, 3) := by decide +kernel
theorem d_Cu_fewest_45 : decode prog_2_method_2_code 45 = .ok (.if_icmp .ge 34, 3) := by decide +kernel
theorem d_Cu_fewest_48 : decode prog_2_method_2_code 48 = .ok (.iload 5, 2) := by decide +kernel
theorem d_Cu_fewest_50 : decode prog_2_method_2_code 50 = .ok (.iload_n 3, 1) := by decide +kernel
theorem d_Cu_fewest_51 : decode prog_2_method_2_code 51 = .ok (.if_icmp .ge 28, 3) := by decide +kernel
theorem d_Cu_fewest_54 : decode prog_2_method_2_code 54 = .ok (.aload_n 0, 1) := by decide +kernel
theorem d_Cu_fewest_55 : decode prog_2_method_2_code 55 = .ok (.iload 5, 2) := by decide +kernel
theorem d_Cu_fewest_57 : decode prog_2_method_2_code 57 = .ok (.invokevirtual 36, 3) := by decide +kernel
theorem d_Cu_fewest_60 : decode prog_2_method_2_code 60 = .ok (.ifCond .eq 6, 3) := by decide +kernel
theorem d_Cu_fewest_63 : decode prog_2_method_2_code 63 = .ok (.iload 5, 2) := by decide +kernel
theorem d_Cu_fewest_65 : decode prog_2_method_2_code 65 = .ok (.ireturn, 1) := by decide +kernel
theorem d_Cu_fewest_66 : decode prog_2_method_2_code 66 = .ok (.iload 5, 2) := by decide +kernel
theorem d_Cu_fewest_68 : decode prog_2_method_2_code 68 = .ok (.invokestatic 40, 3) := by decide +kernel
theorem d_Cu_fewest_71 : decode prog_2_method_2_code 71 = .ok (.istore 5, 2) := by decide +kernel
theorem d_Cu_fewest_73 : decode prog_2_method_2_code 73 = .ok (.iinc 6 1, 3) := by decide +kernel
theorem d_Cu_fewest_76 : decode prog_2_method_2_code 76 = .ok (.goto (-36), 3) := by decide +kernel
theorem d_Cu_fewest_79 : decode prog_2_method_2_code 79 = .ok (.iinc 4 1, 3) := by decide +kernel
theorem d_Cu_fewest_82 : decode prog_2_method_2_code 82 = .ok (.goto (-59), 3) := by decide +kernel
theorem d_Cu_fewest_85 : decode prog_2_method_2_code 85 = .ok (.bipush (-2), 2) := by decide +kernel
theorem d_Cu_fewest_87 : decode prog_2_method_2_code 87 = .ok (.ireturn, 1) := by decide +kernel
theorem d_Cu_nextOfSize_0 : decode prog_2_method_3_code 0 = .ok (.iload_n 0, 1) := by decide +kernel
theorem d_Cu_nextOfSize_1 : decode prog_2_method_3_code 1 = .ok (.iload_n 0, 1) := by decide +kernel
theorem d_Cu_nextOfSize_2 : decode prog_2_method_3_code 2 = .ok (.ineg, 1) := by decide +kernel
theorem d_Cu_nextOfSize_3 : decode prog_2_method_3_code 3 = .ok (.iand, 1) := by decide +kernel
theorem d_Cu_nextOfSize_4 : decode prog_2_method_3_code 4 = .ok (.istore_n 1, 1) := by decide +kernel
theorem d_Cu_nextOfSize_5 : decode prog_2_method_3_code 5 = .ok (.iload_n 1, 1) := by decide +kernel
theorem d_Cu_nextOfSize_6 : decode prog_2_method_3_code 6 = .ok (.ifCond .ne 6, 3) := by decide +kernel
theorem d_Cu_nextOfSize_9 : decode prog_2_method_3_code 9 = .ok (.ldc 44, 2) := by decide +kernel
theorem d_Cu_nextOfSize_11 : decode prog_2_method_3_code 11 = .ok (.ireturn, 1) := by decide +kernel
theorem d_Cu_nextOfSize_12 : decode prog_2_method_3_code 12 = .ok (.iload_n 0, 1) := by decide +kernel
theorem d_Cu_nextOfSize_13 : decode prog_2_method_3_code 13 = .ok (.iload_n 1, 1) := by decide +kernel
theorem d_Cu_nextOfSize_14 : decode prog_2_method_3_code 14 = .ok (.iadd, 1) := by decide +kernel
theorem d_Cu_nextOfSize_15 : decode prog_2_method_3_code 15 = .ok (.istore_n 2, 1) := by decide +kernel
theorem d_Cu_nextOfSize_16 : decode prog_2_method_3_code 16 = .ok (.iload_n 2, 1) := by decide +kernel
theorem d_Cu_nextOfSize_17 : decode prog_2_method_3_code 17 = .ok (.iload_n 0, 1) := by decide +kernel
theorem d_Cu_nextOfSize_18 : decode prog_2_method_3_code 18 = .ok (.iload_n 2, 1) := by decide +kernel
theorem d_Cu_nextOfSize_19 : decode prog_2_method_3_code 19 = .ok (.ixor, 1) := by decide +kernel
theorem d_Cu_nextOfSize_20 : decode prog_2_method_3_code 20 = .ok (.iconst 2, 1) := by decide +kernel
theorem d_Cu_nextOfSize_21 : decode prog_2_method_3_code 21 = .ok (.iushr, 1) := by decide +kernel
theorem d_Cu_nextOfSize_22 : decode prog_2_method_3_code 22 = .ok (.iload_n 1, 1) := by decide +kernel
theorem d_Cu_nextOfSize_23 : decode prog_2_method_3_code 23 = .ok (.idiv, 1) := by decide +kernel
theorem d_Cu_nextOfSize_24 : decode prog_2_method_3_code 24 = .ok (.ior, 1) := by decide +kernel
theorem d_Cu_nextOfSize_25 : decode prog_2_method_3_code 25 = .ok (.ireturn, 1) := by decide +kernel
theorem d_Cu_isEnough_0 : decode prog_2_method_4_code 0 = .ok (.aload_n 0, 1) := by decide +kernel
theorem d_Cu_isEnough_1 : decode prog_2_method_4_code 1 = .ok (.getfield 20, 3) := by decide +kernel
theorem d_Cu_isEnough_4 : decode prog_2_method_4_code 4 = .ok (.iload_n 1, 1) := by decide +kernel
theorem d_Cu_isEnough_5 : decode prog_2_method_4_code 5 = .ok (.invokevirtual 45, 3) := by decide +kernel
theorem d_Cu_isEnough_8 : decode prog_2_method_4_code 8 = .ok (.aload_n 0, 1) := by decide +kernel
theorem d_Cu_isEnough_9 : decode prog_2_method_4_code 9 = .ok (.getfield 28, 3) := by decide +kernel
theorem d_Cu_isEnough_12 : decode prog_2_method_4_code 12 = .ok (.iconst (-1), 1) := by decide +kernel
theorem d_Cu_isEnough_13 : decode prog_2_method_4_code 13 = .ok (.if_icmp .ne 26, 3) := by decide +kernel
theorem d_Cu_isEnough_16 : decode prog_2_method_4_code 16 = .ok (.aload_n 0, 1) := by decide +kernel
theorem d_Cu_isEnough_17 : decode prog_2_method_4_code 17 = .ok (.getfield 20, 3) := by decide +kernel
theorem d_Cu_isEnough_20 : decode prog_2_method_4_code 20 = .ok (.getfield 49, 3) := by decide +kernel
theorem d_Cu_isEnough_23 : decode prog_2_method_4_code 23 = .ok (.aload_n 0, 1) := by decide +kernel
theorem d_Cu_isEnough_24 : decode prog_2_method_4_code 24 = .ok (.getfield 24, 3) := by decide +kernel
theorem d_Cu_isEnough_27 : decode prog_2_method_4_code 27 = .ok (.invokestatic 52, 3) := by decide +kernel
theorem d_Cu_isEnough_30 : decode prog_2_method_4_code 30 = .ok (.ifCond .ne 7, 3) := by decide +kernel
theorem d_Cu_isEnough_33 : decode prog_2_method_4_code 33 = .ok (.iconst 1, 1) := by decide +kernel
theorem d_Cu_isEnough_34 : decode prog_2_method_4_code 34 = .ok (.goto 4, 3) := by decide +kernel
theorem d_Cu_isEnough_37 : decode prog_2_method_4_code 37 = .ok (.iconst 0, 1) := by decide +kernel
theorem d_Cu_isEnough_38 : decode prog_2_method_4_code 38 = .ok (.ireturn, 1) := by decide +kernel
theorem d_Cu_isEnough_39 : decode prog_2_method_4_code 39 = .ok (.aload_n 0, 1) := by decide +kernel
theorem d_Cu_isEnough_40 : decode prog_2_method_4_code 40 = .ok (.getfield 20, 3) := by decide +kernel
theorem d_Cu_isEnough_43 : decode prog_2_method_4_code 43 = .ok (.getfield 56, 3) := by decide +kernel
theorem d_Cu_isEnough_46 : decode prog_2_method_4_code 46 = .ok (.aload_n 0, 1) := by decide +kernel
theorem d_Cu_isEnough_47 : decode prog_2_method_4_code 47 = .ok (.getfield 24, 3) := by decide +kernel
theorem d_Cu_isEnough_50 : decode prog_2_method_4_code 50 = .ok (.iaload, 1) := by decide +kernel
theorem d_Cu_isEnough_51 : decode prog_2_method_4_code 51 = .ok (.aload_n 0, 1) := by decide +kernel
theorem d_Cu_isEnough_52 : decode prog_2_method_4_code 52 = .ok (.getfield 20, 3) := by decide +kernel
theorem d_Cu_isEnough_55 : decode prog_2_method_4_code 55 = .ok (.getfield 56, 3) := by decide +kernel
theorem d_Cu_isEnough_58 : decode prog_2_method_4_code 58 = .ok (.aload_n 0, 1) := by decide +kernel
theorem d_Cu_isEnough_59 : decode prog_2_method_4_code 59 = .ok (.getfield 28, 3) := by decide +kernel
theorem d_Cu_isEnough_62 : decode prog_2_method_4_code 62 = .ok (.iaload, 1) := by decide +kernel
theorem d_Cu_isEnough_63 : decode prog_2_method_4_code 63 = .ok (.if_icmp .eq 7, 3) := by decide +kernel
theorem d_Cu_isEnough_66 : decode prog_2_method_4_code 66 = .ok (.iconst 1, 1) := by decide +kernel
theorem d_Cu_isEnough_67 : decode prog_2_method_4_code 67 = .ok (.goto 4, 3) := by decide +kernel
theorem d_Cu_isEnough_70 : decode prog_2_method_4_code 70 = .ok (.iconst 0, 1) := by decide +kernel
theorem d_Cu_isEnough_71 : decode prog_2_method_4_code 71 = .ok (.ireturn, 1) := by decide +kernel
theorem d_Di_clear_0 : decode prog_3_method_2_code 0 = .ok (.aload_n 0, 1) := by decide +kernel
theorem d_Di_clear_1 : decode prog_3_method_2_code 1 = .ok (.iconst 0, 1) := by decide +kernel
theorem d_Di_clear_2 : decode prog_3_method_2_code 2 = .ok (.putfield 23, 3) := by decide +kernel
theorem d_Di_clear_5 : decode prog_3_method_2_code 5 = .ok (.aload_n 0, 1) := by decide +kernel
theorem d_Di_clear_6 : decode prog_3_method_2_code 6 = .ok (.iconst 0, 1) := by decide +kernel
theorem d_Di_clear_7 : decode prog_3_method_2_code 7 = .ok (.putfield 27, 3) := by decide +kernel
theorem d_Di_clear_10 : decode prog_3_method_2_code 10 = .ok (.aload_n 0, 1) := by decide +kernel
theorem d_Di_clear_11 : decode prog_3_method_2_code 11 = .ok (.iconst 0, 1) := by decide +kernel
theorem d_Di_clear_12 : decode prog_3_method_2_code 12 = .ok (.putfield 30, 3) := by decide +kernel
theorem d_Di_clear_15 : decode prog_3_method_2_code 15 = .ok (.aload_n 0, 1) := by decide +kernel
theorem d_Di_clear_16 : decode prog_3_method_2_code 16 = .ok (.getfield 9, 3) := by decide +kernel
theorem d_Di_clear_19 : decode prog_3_method_2_code 19 = .ok (.lconst 0, 1) := by decide +kernel
theorem d_Di_clear_20 : decode prog_3_method_2_code 20 = .ok (.invokestatic 33, 3) := by decide +kernel
theorem d_Di_clear_23 : decode prog_3_method_2_code 23 = .ok (.return_, 1) := by decide +kernel
theorem d_Di_spend_0 : decode prog_3_method_3_code 0 = .ok (.iconst 0, 1) := by decide +kernel
theorem d_Di_spend_1 : decode prog_3_method_3_code 1 = .ok (.istore 4, 2) := by decide +kernel
theorem d_Di_spend_3 : decode prog_3_method_3_code 3 = .ok (.iload 4, 2) := by decide +kernel
theorem d_Di_spend_5 : decode prog_3_method_3_code 5 = .ok (.iload_n 3, 1) := by decide +kernel
theorem d_Di_spend_6 : decode prog_3_method_3_code 6 = .ok (.if_icmp .ge 93, 3) := by decide +kernel
theorem d_Di_spend_9 : decode prog_3_method_3_code 9 = .ok (.iload 4, 2) := by decide +kernel
theorem d_Di_spend_11 : decode prog_3_method_3_code 11 = .ok (.aload_n 2, 1) := by decide +kernel
theorem d_Di_spend_12 : decode prog_3_method_3_code 12 = .ok (.arraylength, 1) := by decide +kernel
theorem d_Di_spend_13 : decode prog_3_method_3_code 13 = .ok (.if_icmp .ge 86, 3) := by decide +kernel
theorem d_Di_spend_16 : decode prog_3_method_3_code 16 = .ok (.aload_n 2, 1) := by decide +kernel
theorem d_Di_spend_17 : decode prog_3_method_3_code 17 = .ok (.iload 4, 2) := by decide +kernel
theorem d_Di_spend_19 : decode prog_3_method_3_code 19 = .ok (.iaload, 1) := by decide +kernel
theorem d_Di_spend_20 : decode prog_3_method_3_code 20 = .ok (.istore 5, 2) := by decide +kernel
theorem d_Di_spend_22 : decode prog_3_method_3_code 22 = .ok (.aload_n 0, 1) := by decide +kernel
theorem d_Di_spend_23 : decode prog_3_method_3_code 23 = .ok (.getfield 15, 3) := by decide +kernel
theorem d_Di_spend_26 : decode prog_3_method_3_code 26 = .ok (.getfield 39, 3) := by decide +kernel
theorem d_Di_spend_29 : decode prog_3_method_3_code 29 = .ok (.iload 5, 2) := by decide +kernel
theorem d_Di_spend_31 : decode prog_3_method_3_code 31 = .ok (.invokevirtual 45, 3) := by decide +kernel
theorem d_Di_spend_34 : decode prog_3_method_3_code 34 = .ok (.ifCond .eq 59, 3) := by decide +kernel
theorem d_Di_spend_37 : decode prog_3_method_3_code 37 = .ok (.aload_n 0, 1) := by decide +kernel
theorem d_Di_spend_38 : decode prog_3_method_3_code 38 = .ok (.getfield 15, 3) := by decide +kernel
theorem d_Di_spend_41 : decode prog_3_method_3_code 41 = .ok (.iload 5, 2) := by decide +kernel
theorem d_Di_spend_43 : decode prog_3_method_3_code 43 = .ok (.invokevirtual 51, 3) := by decide +kernel
theorem d_Di_spend_46 : decode prog_3_method_3_code 46 = .ok (.ifCond .ne 21, 3) := by decide +kernel
theorem d_Di_spend_49 : decode prog_3_method_3_code 49 = .ok (.aload_n 0, 1) := by decide +kernel
theorem d_Di_spend_50 : decode prog_3_method_3_code 50 = .ok (.aload_n 0, 1) := by decide +kernel
theorem d_Di_spend_51 : decode prog_3_method_3_code 51 = .ok (.getfield 19, 3) := by decide +kernel
theorem d_Di_spend_54 : decode prog_3_method_3_code 54 = .ok (.iload_n 1, 1) := by decide +kernel
theorem d_Di_spend_55 : decode prog_3_method_3_code 55 = .ok (.iload 5, 2) := by decide +kernel
theorem d_Di_spend_57 : decode prog_3_method_3_code 57 = .ok (.iload 4, 2) := by decide +kernel
theorem d_Di_spend_59 : decode prog_3_method_3_code 59 = .ok (.invokevirtual 54, 3) := by decide +kernel
theorem d_Di_spend_62 : decode prog_3_method_3_code 62 = .ok (.iload 5, 2) := by decide +kernel
theorem d_Di_spend_64 : decode prog_3_method_3_code 64 = .ok (.invokevirtual 60, 3) := by decide +kernel
theorem d_Di_spend_67 : decode prog_3_method_3_code 67 = .ok (.aload_n 0, 1) := by decide +kernel
theorem d_Di_spend_68 : decode prog_3_method_3_code 68 = .ok (.dup, 1) := by decide +kernel
theorem d_Di_spend_69 : decode prog_3_method_3_code 69 = .ok (.getfield 23, 3) := by decide +kernel
theorem d_Di_spend_72 : decode prog_3_method_3_code 72 = .ok (.aload_n 0, 1) := by decide +kernel
theorem d_Di_spend_73 : decode prog_3_method_3_code 73 = .ok (.getfield 15, 3) := by decide +kernel
theorem d_Di_spend_76 : decode prog_3_method_3_code 76 = .ok (.iload 5, 2) := by decide +kernel
theorem d_Di_spend_78 : decode prog_3_method_3_code 78 = .ok (.invokevirtual 51, 3) := by decide +kernel
theorem d_Di_spend_81 : decode prog_3_method_3_code 81 = .ok (.ifCond .eq 7, 3) := by decide +kernel
theorem d_Di_spend_84 : decode prog_3_method_3_code 84 = .ok (.iconst 1, 1) := by decide +kernel
theorem d_Di_spend_85 : decode prog_3_method_3_code 85 = .ok (.goto 4, 3) := by decide +kernel
theorem d_Di_spend_88 : decode prog_3_method_3_code 88 = .ok (.iconst 0, 1) := by decide +kernel
theorem d_Di_spend_89 : decode prog_3_method_3_code 89 = .ok (.iadd, 1) := by decide +kernel
theorem d_Di_spend_90 : decode prog_3_method_3_code 90 = .ok (.putfield 23, 3) := by decide +kernel
theorem d_Di_spend_93 : decode prog_3_method_3_code 93 = .ok (.iinc 4 1, 3) := by decide +kernel
theorem d_Di_spend_96 : decode prog_3_method_3_code 96 = .ok (.goto (-93), 3) := by decide +kernel
theorem d_Di_spend_99 : decode prog_3_method_3_code 99 = .ok (.return_, 1) := by decide +kernel
theorem d_Di_pushBy_0 : decode prog_3_method_4_code 0 = .ok (.iload_n 1, 1) := by decide +kernel
theorem d_Di_pushBy_1 : decode prog_3_method_4_code 1 = .ok (.ifCond .ne 4, 3) := by decide +kernel
theorem d_Di_pushBy_4 : decode prog_3_method_4_code 4 = .ok (.return_, 1) := by decide +kernel
theorem d_Di_pushBy_5 : decode prog_3_method_4_code 5 = .ok (.aload_n 0, 1) := by decide +kernel
theorem d_Di_pushBy_6 : decode prog_3_method_4_code 6 = .ok (.getfield 15, 3) := by decide +kernel
theorem d_Di_pushBy_9 : decode prog_3_method_4_code 9 = .ok (.iload_n 2, 1) := by decide +kernel
theorem d_Di_pushBy_10 : decode prog_3_method_4_code 10 = .ok (.iload_n 1, 1) := by decide +kernel
theorem d_Di_pushBy_11 : decode prog_3_method_4_code 11 = .ok (.invokevirtual 64, 3) := by decide +kernel
theorem d_Di_pushBy_14 : decode prog_3_method_4_code 14 = .ok (.ifCond .gt 14, 3) := by decide +kernel
theorem d_Di_pushBy_17 : decode prog_3_method_4_code 17 = .ok (.aload_n 0, 1) := by decide +kernel
theorem d_Di_pushBy_18 : decode prog_3_method_4_code 18 = .ok (.dup, 1) := by decide +kernel
theorem d_Di_pushBy_19 : decode prog_3_method_4_code 19 = .ok (.getfield 30, 3) := by decide +kernel
theorem d_Di_pushBy_22 : decode prog_3_method_4_code 22 = .ok (.iconst 1, 1) := by decide +kernel
theorem d_Di_pushBy_23 : decode prog_3_method_4_code 23 = .ok (.iadd, 1) := by decide +kernel
theorem d_Di_pushBy_24 : decode prog_3_method_4_code 24 = .ok (.putfield 30, 3) := by decide +kernel
theorem d_Di_pushBy_27 : decode prog_3_method_4_code 27 = .ok (.return_, 1) := by decide +kernel
theorem d_Di_pushBy_28 : decode prog_3_method_4_code 28 = .ok (.aload_n 0, 1) := by decide +kernel
theorem d_Di_pushBy_29 : decode prog_3_method_4_code 29 = .ok (.getfield 15, 3) := by decide +kernel
theorem d_Di_pushBy_32 : decode prog_3_method_4_code 32 = .ok (.iload_n 2, 1) := by decide +kernel
theorem d_Di_pushBy_33 : decode prog_3_method_4_code 33 = .ok (.iload_n 1, 1) := by decide +kernel
theorem d_Di_pushBy_34 : decode prog_3_method_4_code 34 = .ok (.invokevirtual 68, 3) := by decide +kernel
theorem d_Di_pushBy_37 : decode prog_3_method_4_code 37 = .ok (.aload_n 0, 1) := by decide +kernel
theorem d_Di_pushBy_38 : decode prog_3_method_4_code 38 = .ok (.dup, 1) := by decide +kernel
theorem d_Di_pushBy_39 : decode prog_3_method_4_code 39 = .ok (.getfield 27, 3) := by decide +kernel
theorem d_Di_pushBy_42 : decode prog_3_method_4_code 42 = .ok (.iconst 1, 1) := by decide +kernel
theorem d_Di_pushBy_43 : decode prog_3_method_4_code 43 = .ok (.iadd, 1) := by decide +kernel
theorem d_Di_pushBy_44 : decode prog_3_method_4_code 44 = .ok (.putfield 27, 3) := by decide +kernel
theorem d_Di_pushBy_47 : decode prog_3_method_4_code 47 = .ok (.iconst 0, 1) := by decide +kernel
theorem d_Di_pushBy_48 : decode prog_3_method_4_code 48 = .ok (.istore_n 3, 1) := by decide +kernel
theorem d_Di_pushBy_49 : decode prog_3_method_4_code 49 = .ok (.iload_n 3, 1) := by decide +kernel
theorem d_Di_pushBy_50 : decode prog_3_method_4_code 50 = .ok (.aload_n 0, 1) := by decide +kernel
theorem d_Di_pushBy_51 : decode prog_3_method_4_code 51 = .ok (.getfield 15, 3) := by decide +kernel
theorem d_Di_pushBy_54 : decode prog_3_method_4_code 54 = .ok (.getfield 39, 3) := by decide +kernel
theorem d_Di_pushBy_57 : decode prog_3_method_4_code 57 = .ok (.getfield 71, 3) := by decide +kernel
theorem d_Di_pushBy_60 : decode prog_3_method_4_code 60 = .ok (.if_icmp .ge 54, 3) := by decide +kernel
theorem d_Di_pushBy_63 : decode prog_3_method_4_code 63 = .ok (.aload_n 0, 1) := by decide +kernel
theorem d_Di_pushBy_64 : decode prog_3_method_4_code 64 = .ok (.getfield 15, 3) := by decide +kernel
theorem d_Di_pushBy_67 : decode prog_3_method_4_code 67 = .ok (.getfield 74, 3) := by decide +kernel
theorem d_Di_pushBy_70 : decode prog_3_method_4_code 70 = .ok (.iload_n 3, 1) := by decide +kernel
theorem d_Di_pushBy_71 : decode prog_3_method_4_code 71 = .ok (.iaload, 1) := by decide +kernel
theorem d_Di_pushBy_72 : decode prog_3_method_4_code 72 = .ok (.aload_n 0, 1) := by decide +kernel
theorem d_Di_pushBy_73 : decode prog_3_method_4_code 73 = .ok (.getfield 15, 3) := by decide +kernel
theorem d_Di_pushBy_76 : decode prog_3_method_4_code 76 = .ok (.getfield 74, 3) := by decide +kernel
theorem d_Di_pushBy_79 : decode prog_3_method_4_code 79 = .ok (.iload_n 2, 1) := by decide +kernel
theorem d_Di_pushBy_80 : decode prog_3_method_4_code 80 = .ok (.iaload, 1) := by decide +kernel
theorem d_Di_pushBy_81 : decode prog_3_method_4_code 81 = .ok (.if_icmp .ne 27, 3) := by decide +kernel
theorem d_Di_pushBy_84 : decode prog_3_method_4_code 84 = .ok (.aload_n 0, 1) := by decide +kernel
theorem d_Di_pushBy_85 : decode prog_3_method_4_code 85 = .ok (.getfield 9, 3) := by decide +kernel
theorem d_Di_pushBy_88 : decode prog_3_method_4_code 88 = .ok (.iload_n 3, 1) := by decide +kernel
theorem d_Di_pushBy_89 : decode prog_3_method_4_code 89 = .ok (.dup2, 1) := by decide +kernel
theorem d_Di_pushBy_90 : decode prog_3_method_4_code 90 = .ok (.laload, 1) := by decide +kernel
theorem d_Di_pushBy_91 : decode prog_3_method_4_code 91 = .ok (.iload_n 1, 1) := by decide +kernel
theorem d_Di_pushBy_92 : decode prog_3_method_4_code 92 = .ok (.i2l, 1) := by decide +kernel
theorem d_Di_pushBy_93 : decode prog_3_method_4_code 93 = .ok (.aload_n 0, 1) := by decide +kernel
theorem d_Di_pushBy_94 : decode prog_3_method_4_code 94 = .ok (.getfield 15, 3) := by decide +kernel
theorem d_Di_pushBy_97 : decode prog_3_method_4_code 97 = .ok (.iload_n 2, 1) := by decide +kernel
theorem d_Di_pushBy_98 : decode prog_3_method_4_code 98 = .ok (.iload_n 3, 1) := by decide +kernel
theorem d_Di_pushBy_99 : decode prog_3_method_4_code 99 = .ok (.invokevirtual 78, 3) := by decide +kernel
theorem d_Di_pushBy_102 : decode prog_3_method_4_code 102 = .ok (.lmul, 1) := by decide +kernel
theorem d_Di_pushBy_103 : decode prog_3_method_4_code 103 = .ok (.invokestatic 82, 3) := by decide +kernel
theorem d_Di_pushBy_106 : decode prog_3_method_4_code 106 = .ok (.ladd, 1) := by decide +kernel
theorem d_Di_pushBy_107 : decode prog_3_method_4_code 107 = .ok (.lastore, 1) := by decide +kernel
theorem d_Di_pushBy_108 : decode prog_3_method_4_code 108 = .ok (.iinc 3 1, 3) := by decide +kernel
theorem d_Di_pushBy_111 : decode prog_3_method_4_code 111 = .ok (.goto (-62), 3) := by decide +kernel
theorem d_Di_pushBy_114 : decode prog_3_method_4_code 114 = .ok (.return_, 1) := by decide +kernel
theorem d_Di_tally_0 : decode prog_3_method_5_code 0 = .ok (.iload_n 1, 1) := by decide +kernel
theorem d_Di_tally_1 : decode prog_3_method_5_code 1 = .ok (.ifCond .ne 8, 3) := by decide +kernel
theorem d_Di_tally_4 : decode prog_3_method_5_code 4 = .ok (.aload_n 0, 1) := by decide +kernel
theorem d_Di_tally_5 : decode prog_3_method_5_code 5 = .ok (.getfield 23, 3) := by decide +kernel
theorem d_Di_tally_8 : decode prog_3_method_5_code 8 = .ok (.ireturn, 1) := by decide +kernel
theorem d_Di_tally_9 : decode prog_3_method_5_code 9 = .ok (.iload_n 1, 1) := by decide +kernel
theorem d_Di_tally_10 : decode prog_3_method_5_code 10 = .ok (.iconst 1, 1) := by decide +kernel
theorem d_Di_tally_11 : decode prog_3_method_5_code 11 = .ok (.if_icmp .ne 10, 3) := by decide +kernel
theorem d_Di_tally_14 : decode prog_3_method_5_code 14 = .ok (.aload_n 0, 1) := by decide +kernel
theorem d_Di_tally_15 : decode prog_3_method_5_code 15 = .ok (.getfield 27, 3) := by decide +kernel
theorem d_Di_tally_18 : decode prog_3_method_5_code 18 = .ok (.goto 7, 3) := by decide +kernel
theorem d_Di_tally_21 : decode prog_3_method_5_code 21 = .ok (.aload_n 0, 1) := by decide +kernel
theorem d_Di_tally_22 : decode prog_3_method_5_code 22 = .ok (.getfield 30, 3) := by decide +kernel
theorem d_Di_tally_25 : decode prog_3_method_5_code 25 = .ok (.ireturn, 1) := by decide +kernel
theorem d_Ge_fit_0 : decode prog_4_method_2_code 0 = .ok (.aload_n 0, 1) := by decide +kernel
theorem d_Ge_fit_1 : decode prog_4_method_2_code 1 = .ok (.iconst 0, 1) := by decide +kernel
theorem d_Ge_fit_2 : decode prog_4_method_2_code 2 = .ok (.invokevirtual 41, 3) := by decide +kernel
theorem d_Ge_fit_5 : decode prog_4_method_2_code 5 = .ok (.aload_n 0, 1) := by decide +kernel
theorem d_Ge_fit_6 : decode prog_4_method_2_code 6 = .ok (.invokevirtual 45, 3) := by decide +kernel
theorem d_Ge_fit_9 : decode prog_4_method_2_code 9 = .ok (.return_, 1) := by decide +kernel
theorem d_Ge_hang_0 : decode prog_4_method_3_code 0 = .ok (.aload_n 0, 1) := by decide +kernel
theorem d_Ge_hang_1 : decode prog_4_method_3_code 1 = .ok (.getfield 9, 3) := by decide +kernel
theorem d_Ge_hang_4 : decode prog_4_method_3_code 4 = .ok (.iconst (-1), 1) := by decide +kernel
theorem d_Ge_hang_5 : decode prog_4_method_3_code 5 = .ok (.invokestatic 48, 3) := by decide +kernel
theorem d_Ge_hang_8 : decode prog_4_method_3_code 8 = .ok (.aload_n 0, 1) := by decide +kernel
theorem d_Ge_hang_9 : decode prog_4_method_3_code 9 = .ok (.iconst 0, 1) := by decide +kernel
theorem d_Ge_hang_10 : decode prog_4_method_3_code 10 = .ok (.putfield 51, 3) := by decide +kernel
theorem d_Ge_hang_13 : decode prog_4_method_3_code 13 = .ok (.aload_n 0, 1) := by decide +kernel
theorem d_Ge_hang_14 : decode prog_4_method_3_code 14 = .ok (.iconst 0, 1) := by decide +kernel
theorem d_Ge_hang_15 : decode prog_4_method_3_code 15 = .ok (.putfield 55, 3) := by decide +kernel
theorem d_Ge_hang_18 : decode prog_4_method_3_code 18 = .ok (.iconst 0, 1) := by decide +kernel
theorem d_Ge_hang_19 : decode prog_4_method_3_code 19 = .ok (.istore_n 2, 1) := by decide +kernel
theorem d_Ge_hang_20 : decode prog_4_method_3_code 20 = .ok (.iload_n 2, 1) := by decide +kernel
theorem d_Ge_hang_21 : decode prog_4_method_3_code 21 = .ok (.aload_n 0, 1) := by decide +kernel
theorem d_Ge_hang_22 : decode prog_4_method_3_code 22 = .ok (.getfield 31, 3) := by decide +kernel
theorem d_Ge_hang_25 : decode prog_4_method_3_code 25 = .ok (.getfield 58, 3) := by decide +kernel
theorem d_Ge_hang_28 : decode prog_4_method_3_code 28 = .ok (.if_icmp .ge 35, 3) := by decide +kernel
theorem d_Ge_hang_31 : decode prog_4_method_3_code 31 = .ok (.aload_n 0, 1) := by decide +kernel
theorem d_Ge_hang_32 : decode prog_4_method_3_code 32 = .ok (.getfield 9, 3) := by decide +kernel
theorem d_Ge_hang_35 : decode prog_4_method_3_code 35 = .ok (.iload_n 2, 1) := by decide +kernel
theorem d_Ge_hang_36 : decode prog_4_method_3_code 36 = .ok (.iaload, 1) := by decide +kernel
theorem d_Ge_hang_37 : decode prog_4_method_3_code 37 = .ok (.iconst (-1), 1) := by decide +kernel
theorem d_Ge_hang_38 : decode prog_4_method_3_code 38 = .ok (.if_icmp .ne 19, 3) := by decide +kernel
theorem d_Ge_hang_41 : decode prog_4_method_3_code 41 = .ok (.aload_n 0, 1) := by decide +kernel
theorem d_Ge_hang_42 : decode prog_4_method_3_code 42 = .ok (.iload_n 2, 1) := by decide +kernel
theorem d_Ge_hang_43 : decode prog_4_method_3_code 43 = .ok (.iload_n 1, 1) := by decide +kernel
theorem d_Ge_hang_44 : decode prog_4_method_3_code 44 = .ok (.invokevirtual 63, 3) := by decide +kernel
theorem d_Ge_hang_47 : decode prog_4_method_3_code 47 = .ok (.aload_n 0, 1) := by decide +kernel
theorem d_Ge_hang_48 : decode prog_4_method_3_code 48 = .ok (.dup, 1) := by decide +kernel
theorem d_Ge_hang_49 : decode prog_4_method_3_code 49 = .ok (.getfield 51, 3) := by decide +kernel
theorem d_Ge_hang_52 : decode prog_4_method_3_code 52 = .ok (.iconst 1, 1) := by decide +kernel
theorem d_Ge_hang_53 : decode prog_4_method_3_code 53 = .ok (.iadd, 1) := by decide +kernel
theorem d_Ge_hang_54 : decode prog_4_method_3_code 54 = .ok (.putfield 51, 3) := by decide +kernel
theorem d_Ge_hang_57 : decode prog_4_method_3_code 57 = .ok (.iinc 2 1, 3) := by decide +kernel
theorem d_Ge_hang_60 : decode prog_4_method_3_code 60 = .ok (.goto (-40), 3) := by decide +kernel
theorem d_Ge_hang_63 : decode prog_4_method_3_code 63 = .ok (.iconst 0, 1) := by decide +kernel
theorem d_Ge_hang_64 : decode prog_4_method_3_code 64 = .ok (.istore_n 2, 1) := by decide +kernel
theorem d_Ge_hang_65 : decode prog_4_method_3_code 65 = .ok (.iload_n 2, 1) := by decide +kernel
theorem d_Ge_hang_66 : decode prog_4_method_3_code 66 = .ok (.aload_n 0, 1) := by decide +kernel
theorem d_Ge_hang_67 : decode prog_4_method_3_code 67 = .ok (.getfield 31, 3) := by decide +kernel
theorem d_Ge_hang_70 : decode prog_4_method_3_code 70 = .ok (.getfield 67, 3) := by decide +kernel
theorem d_Ge_hang_73 : decode prog_4_method_3_code 73 = .ok (.if_icmp .ge 47, 3) := by decide +kernel
theorem d_Ge_hang_76 : decode prog_4_method_3_code 76 = .ok (.iload_n 1, 1) := by decide +kernel
theorem d_Ge_hang_77 : decode prog_4_method_3_code 77 = .ok (.iload_n 2, 1) := by decide +kernel
theorem d_Ge_hang_78 : decode prog_4_method_3_code 78 = .ok (.invokestatic 70, 3) := by decide +kernel
theorem d_Ge_hang_81 : decode prog_4_method_3_code 81 = .ok (.ifCond .ne 33, 3) := by decide +kernel
theorem d_Ge_hang_84 : decode prog_4_method_3_code 84 = .ok (.aload_n 0, 1) := by decide +kernel
theorem d_Ge_hang_85 : decode prog_4_method_3_code 85 = .ok (.iload_n 2, 1) := by decide +kernel
theorem d_Ge_hang_86 : decode prog_4_method_3_code 86 = .ok (.invokevirtual 74, 3) := by decide +kernel
theorem d_Ge_hang_89 : decode prog_4_method_3_code 89 = .ok (.ifCond .ne 25, 3) := by decide +kernel
theorem d_Ge_hang_92 : decode prog_4_method_3_code 92 = .ok (.aload_n 0, 1) := by decide +kernel
theorem d_Ge_hang_93 : decode prog_4_method_3_code 93 = .ok (.dup, 1) := by decide +kernel
theorem d_Ge_hang_94 : decode prog_4_method_3_code 94 = .ok (.getfield 55, 3) := by decide +kernel
theorem d_Ge_hang_97 : decode prog_4_method_3_code 97 = .ok (.aload_n 0, 1) := by decide +kernel
theorem d_Ge_hang_98 : decode prog_4_method_3_code 98 = .ok (.aload_n 0, 1) := by decide +kernel
theorem d_Ge_hang_99 : decode prog_4_method_3_code 99 = .ok (.getfield 31, 3) := by decide +kernel
theorem d_Ge_hang_102 : decode prog_4_method_3_code 102 = .ok (.getfield 78, 3) := by decide +kernel
theorem d_Ge_hang_105 : decode prog_4_method_3_code 105 = .ok (.iload_n 2, 1) := by decide +kernel
theorem d_Ge_hang_106 : decode prog_4_method_3_code 106 = .ok (.iaload, 1) := by decide +kernel
theorem d_Ge_hang_107 : decode prog_4_method_3_code 107 = .ok (.invokevirtual 81, 3) := by decide +kernel
theorem d_Ge_hang_110 : decode prog_4_method_3_code 110 = .ok (.ior, 1) := by decide +kernel
theorem d_Ge_hang_111 : decode prog_4_method_3_code 111 = .ok (.putfield 55, 3) := by decide +kernel
theorem d_Ge_hang_114 : decode prog_4_method_3_code 114 = .ok (.iinc 2 1, 3) := by decide +kernel
theorem d_Ge_hang_117 : decode prog_4_method_3_code 117 = .ok (.goto (-52), 3) := by decide +kernel
theorem d_Ge_hang_120 : decode prog_4_method_3_code 120 = .ok (.return_, 1) := by decide +kernel
theorem d_Ge_gather_0 : decode prog_4_method_4_code 0 = .ok (.aload_n 0, 1) := by decide +kernel
theorem d_Ge_gather_1 : decode prog_4_method_4_code 1 = .ok (.getfield 9, 3) := by decide +kernel
theorem d_Ge_gather_4 : decode prog_4_method_4_code 4 = .ok (.iload_n 1, 1) := by decide +kernel
theorem d_Ge_gather_5 : decode prog_4_method_4_code 5 = .ok (.iload_n 1, 1) := by decide +kernel
theorem d_Ge_gather_6 : decode prog_4_method_4_code 6 = .ok (.iastore, 1) := by decide +kernel
theorem d_Ge_gather_7 : decode prog_4_method_4_code 7 = .ok (.aload_n 0, 1) := by decide +kernel
theorem d_Ge_gather_8 : decode prog_4_method_4_code 8 = .ok (.getfield 15, 3) := by decide +kernel
theorem d_Ge_gather_11 : decode prog_4_method_4_code 11 = .ok (.iload_n 1, 1) := by decide +kernel
theorem d_Ge_gather_12 : decode prog_4_method_4_code 12 = .ok (.lconst 1, 1) := by decide +kernel
theorem d_Ge_gather_13 : decode prog_4_method_4_code 13 = .ok (.lastore, 1) := by decide +kernel
theorem d_Ge_gather_14 : decode prog_4_method_4_code 14 = .ok (.aload_n 0, 1) := by decide +kernel
theorem d_Ge_gather_15 : decode prog_4_method_4_code 15 = .ok (.getfield 19, 3) := by decide +kernel
theorem d_Ge_gather_18 : decode prog_4_method_4_code 18 = .ok (.iload_n 1, 1) := by decide +kernel
theorem d_Ge_gather_19 : decode prog_4_method_4_code 19 = .ok (.lconst 1, 1) := by decide +kernel
theorem d_Ge_gather_20 : decode prog_4_method_4_code 20 = .ok (.lastore, 1) := by decide +kernel
theorem d_Ge_gather_21 : decode prog_4_method_4_code 21 = .ok (.iconst 1, 1) := by decide +kernel
theorem d_Ge_gather_22 : decode prog_4_method_4_code 22 = .ok (.istore_n 3, 1) := by decide +kernel
theorem d_Ge_gather_23 : decode prog_4_method_4_code 23 = .ok (.iconst 0, 1) := by decide +kernel
theorem d_Ge_gather_24 : decode prog_4_method_4_code 24 = .ok (.istore 4, 2) := by decide +kernel
theorem d_Ge_gather_26 : decode prog_4_method_4_code 26 = .ok (.iload 4, 2) := by decide +kernel
theorem d_Ge_gather_28 : decode prog_4_method_4_code 28 = .ok (.bipush 12, 2) := by decide +kernel
theorem d_Ge_gather_30 : decode prog_4_method_4_code 30 = .ok (.if_icmp .ge 113, 3) := by decide +kernel
theorem d_Ge_gather_33 : decode prog_4_method_4_code 33 = .ok (.iload_n 3, 1) := by decide +kernel
theorem d_Ge_gather_34 : decode prog_4_method_4_code 34 = .ok (.ifCond .eq 109, 3) := by decide +kernel
theorem d_Ge_gather_37 : decode prog_4_method_4_code 37 = .ok (.iconst 0, 1) := by decide +kernel
theorem d_Ge_gather_38 : decode prog_4_method_4_code 38 = .ok (.istore_n 3, 1) := by decide +kernel
theorem d_Ge_gather_39 : decode prog_4_method_4_code 39 = .ok (.iconst 0, 1) := by decide +kernel
theorem d_Ge_gather_40 : decode prog_4_method_4_code 40 = .ok (.istore 5, 2) := by decide +kernel
theorem d_Ge_gather_42 : decode prog_4_method_4_code 42 = .ok (.iload 5, 2) := by decide +kernel
theorem d_Ge_gather_44 : decode prog_4_method_4_code 44 = .ok (.aload_n 0, 1) := by decide +kernel
theorem d_Ge_gather_45 : decode prog_4_method_4_code 45 = .ok (.getfield 31, 3) := by decide +kernel
theorem d_Ge_gather_48 : decode prog_4_method_4_code 48 = .ok (.getfield 67, 3) := by decide +kernel
theorem d_Ge_gather_51 : decode prog_4_method_4_code 51 = .ok (.if_icmp .ge 86, 3) := by decide +kernel
theorem d_Ge_gather_54 : decode prog_4_method_4_code 54 = .ok (.iload_n 2, 1) := by decide +kernel
theorem d_Ge_gather_55 : decode prog_4_method_4_code 55 = .ok (.iload 5, 2) := by decide +kernel
theorem d_Ge_gather_57 : decode prog_4_method_4_code 57 = .ok (.invokestatic 70, 3) := by decide +kernel
theorem d_Ge_gather_60 : decode prog_4_method_4_code 60 = .ok (.ifCond .ne 71, 3) := by decide +kernel
theorem d_Ge_gather_63 : decode prog_4_method_4_code 63 = .ok (.aload_n 0, 1) := by decide +kernel
theorem d_Ge_gather_64 : decode prog_4_method_4_code 64 = .ok (.getfield 31, 3) := by decide +kernel
theorem d_Ge_gather_67 : decode prog_4_method_4_code 67 = .ok (.getfield 78, 3) := by decide +kernel
theorem d_Ge_gather_70 : decode prog_4_method_4_code 70 = .ok (.iload 5, 2) := by decide +kernel
theorem d_Ge_gather_72 : decode prog_4_method_4_code 72 = .ok (.iaload, 1) := by decide +kernel
theorem d_Ge_gather_73 : decode prog_4_method_4_code 73 = .ok (.istore 6, 2) := by decide +kernel
theorem d_Ge_gather_75 : decode prog_4_method_4_code 75 = .ok (.aload_n 0, 1) := by decide +kernel
theorem d_Ge_gather_76 : decode prog_4_method_4_code 76 = .ok (.getfield 31, 3) := by decide +kernel
theorem d_Ge_gather_79 : decode prog_4_method_4_code 79 = .ok (.getfield 85, 3) := by decide +kernel
theorem d_Ge_gather_82 : decode prog_4_method_4_code 82 = .ok (.iload 5, 2) := by decide +kernel
theorem d_Ge_gather_84 : decode prog_4_method_4_code 84 = .ok (.iaload, 1) := by decide +kernel
theorem d_Ge_gather_85 : decode prog_4_method_4_code 85 = .ok (.istore 7, 2) := by decide +kernel
theorem d_Ge_gather_87 : decode prog_4_method_4_code 87 = .ok (.iload_n 3, 1) := by decide +kernel
theorem d_Ge_gather_88 : decode prog_4_method_4_code 88 = .ok (.aload_n 0, 1) := by decide +kernel
theorem d_Ge_gather_89 : decode prog_4_method_4_code 89 = .ok (.iload_n 1, 1) := by decide +kernel
theorem d_Ge_gather_90 : decode prog_4_method_4_code 90 = .ok (.iload 6, 2) := by decide +kernel
theorem d_Ge_gather_92 : decode prog_4_method_4_code 92 = .ok (.iload 7, 2) := by decide +kernel
theorem d_Ge_gather_94 : decode prog_4_method_4_code 94 = .ok (.aload_n 0, 1) := by decide +kernel
theorem d_Ge_gather_95 : decode prog_4_method_4_code 95 = .ok (.getfield 31, 3) := by decide +kernel
theorem d_Ge_gather_98 : decode prog_4_method_4_code 98 = .ok (.getfield 88, 3) := by decide +kernel
theorem d_Ge_gather_101 : decode prog_4_method_4_code 101 = .ok (.iload 5, 2) := by decide +kernel
theorem d_Ge_gather_103 : decode prog_4_method_4_code 103 = .ok (.iaload, 1) := by decide +kernel
theorem d_Ge_gather_104 : decode prog_4_method_4_code 104 = .ok (.invokevirtual 91, 3) := by decide +kernel
theorem d_Ge_gather_107 : decode prog_4_method_4_code 107 = .ok (.ior, 1) := by decide +kernel
theorem d_Ge_gather_108 : decode prog_4_method_4_code 108 = .ok (.istore_n 3, 1) := by decide +kernel
theorem d_Ge_gather_109 : decode prog_4_method_4_code 109 = .ok (.iload_n 3, 1) := by decide +kernel
theorem d_Ge_gather_110 : decode prog_4_method_4_code 110 = .ok (.aload_n 0, 1) := by decide +kernel
theorem d_Ge_gather_111 : decode prog_4_method_4_code 111 = .ok (.iload_n 1, 1) := by decide +kernel
theorem d_Ge_gather_112 : decode prog_4_method_4_code 112 = .ok (.iload 7, 2) := by decide +kernel
theorem d_Ge_gather_114 : decode prog_4_method_4_code 114 = .ok (.iload 6, 2) := by decide +kernel
theorem d_Ge_gather_116 : decode prog_4_method_4_code 116 = .ok (.aload_n 0, 1) := by decide +kernel
theorem d_Ge_gather_117 : decode prog_4_method_4_code 117 = .ok (.getfield 31, 3) := by decide +kernel
theorem d_Ge_gather_120 : decode prog_4_method_4_code 120 = .ok (.getfield 88, 3) := by decide +kernel
theorem d_Ge_gather_123 : decode prog_4_method_4_code 123 = .ok (.iload 5, 2) := by decide +kernel
theorem d_Ge_gather_125 : decode prog_4_method_4_code 125 = .ok (.iaload, 1) := by decide +kernel
theorem d_Ge_gather_126 : decode prog_4_method_4_code 126 = .ok (.invokevirtual 91, 3) := by decide +kernel
theorem d_Ge_gather_129 : decode prog_4_method_4_code 129 = .ok (.ior, 1) := by decide +kernel
theorem d_Ge_gather_130 : decode prog_4_method_4_code 130 = .ok (.istore_n 3, 1) := by decide +kernel
theorem d_Ge_gather_131 : decode prog_4_method_4_code 131 = .ok (.iinc 5 1, 3) := by decide +kernel
theorem d_Ge_gather_134 : decode prog_4_method_4_code 134 = .ok (.goto (-92), 3) := by decide +kernel
theorem d_Ge_gather_137 : decode prog_4_method_4_code 137 = .ok (.iinc 4 1, 3) := by decide +kernel
theorem d_Ge_gather_140 : decode prog_4_method_4_code 140 = .ok (.goto (-114), 3) := by decide +kernel
theorem d_Ge_gather_143 : decode prog_4_method_4_code 143 = .ok (.return_, 1) := by decide +kernel
theorem d_Ge_hangOn_0 : decode prog_4_method_5_code 0 = .ok (.aload_n 0, 1) := by decide +kernel
theorem d_Ge_hangOn_1 : decode prog_4_method_5_code 1 = .ok (.getfield 9, 3) := by decide +kernel
theorem d_Ge_hangOn_4 : decode prog_4_method_5_code 4 = .ok (.iload_n 2, 1) := by decide +kernel
theorem d_Ge_hangOn_5 : decode prog_4_method_5_code 5 = .ok (.iaload, 1) := by decide +kernel
theorem d_Ge_hangOn_6 : decode prog_4_method_5_code 6 = .ok (.iload_n 1, 1) := by decide +kernel
theorem d_Ge_hangOn_7 : decode prog_4_method_5_code 7 = .ok (.if_icmp .ne 13, 3) := by decide +kernel
theorem d_Ge_hangOn_10 : decode prog_4_method_5_code 10 = .ok (.aload_n 0, 1) := by decide +kernel
theorem d_Ge_hangOn_11 : decode prog_4_method_5_code 11 = .ok (.getfield 9, 3) := by decide +kernel
theorem d_Ge_hangOn_14 : decode prog_4_method_5_code 14 = .ok (.iload_n 3, 1) := by decide +kernel
theorem d_Ge_hangOn_15 : decode prog_4_method_5_code 15 = .ok (.iaload, 1) := by decide +kernel
theorem d_Ge_hangOn_16 : decode prog_4_method_5_code 16 = .ok (.iconst (-1), 1) := by decide +kernel
theorem d_Ge_hangOn_17 : decode prog_4_method_5_code 17 = .ok (.if_icmp .eq 5, 3) := by decide +kernel
theorem d_Ge_hangOn_20 : decode prog_4_method_5_code 20 = .ok (.iconst 0, 1) := by decide +kernel
theorem d_Ge_hangOn_21 : decode prog_4_method_5_code 21 = .ok (.ireturn, 1) := by decide +kernel
theorem d_Ge_hangOn_22 : decode prog_4_method_5_code 22 = .ok (.aload_n 0, 1) := by decide +kernel
theorem d_Ge_hangOn_23 : decode prog_4_method_5_code 23 = .ok (.getfield 9, 3) := by decide +kernel
theorem d_Ge_hangOn_26 : decode prog_4_method_5_code 26 = .ok (.iload_n 3, 1) := by decide +kernel
theorem d_Ge_hangOn_27 : decode prog_4_method_5_code 27 = .ok (.iload_n 1, 1) := by decide +kernel
theorem d_Ge_hangOn_28 : decode prog_4_method_5_code 28 = .ok (.iastore, 1) := by decide +kernel
theorem d_Ge_hangOn_29 : decode prog_4_method_5_code 29 = .ok (.aload_n 0, 1) := by decide +kernel
theorem d_Ge_hangOn_30 : decode prog_4_method_5_code 30 = .ok (.getfield 15, 3) := by decide +kernel
theorem d_Ge_hangOn_33 : decode prog_4_method_5_code 33 = .ok (.iload_n 2, 1) := by decide +kernel
theorem d_Ge_hangOn_34 : decode prog_4_method_5_code 34 = .ok (.laload, 1) := by decide +kernel
theorem d_Ge_hangOn_35 : decode prog_4_method_5_code 35 = .ok (.lstore 5, 2) := by decide +kernel
theorem d_Ge_hangOn_37 : decode prog_4_method_5_code 37 = .ok (.aload_n 0, 1) := by decide +kernel
theorem d_Ge_hangOn_38 : decode prog_4_method_5_code 38 = .ok (.getfield 19, 3) := by decide +kernel
theorem d_Ge_hangOn_41 : decode prog_4_method_5_code 41 = .ok (.iload_n 2, 1) := by decide +kernel
theorem d_Ge_hangOn_42 : decode prog_4_method_5_code 42 = .ok (.laload, 1) := by decide +kernel
theorem d_Ge_hangOn_43 : decode prog_4_method_5_code 43 = .ok (.lstore 7, 2) := by decide +kernel
theorem d_Ge_hangOn_45 : decode prog_4_method_5_code 45 = .ok (.iload 4, 2) := by decide +kernel
theorem d_Ge_hangOn_47 : decode prog_4_method_5_code 47 = .ok (.ifCond .ne 11, 3) := by decide +kernel
theorem d_Ge_hangOn_50 : decode prog_4_method_5_code 50 = .ok (.lload 5, 2) := by decide +kernel
theorem d_Ge_hangOn_52 : decode prog_4_method_5_code 52 = .ok (.lneg, 1) := by decide +kernel
theorem d_Ge_hangOn_53 : decode prog_4_method_5_code 53 = .ok (.lstore 5, 2) := by decide +kernel
theorem d_Ge_hangOn_55 : decode prog_4_method_5_code 55 = .ok (.goto 39, 3) := by decide +kernel
theorem d_Ge_hangOn_58 : decode prog_4_method_5_code 58 = .ok (.iload 4, 2) := by decide +kernel
theorem d_Ge_hangOn_60 : decode prog_4_method_5_code 60 = .ok (.iconst 2, 1) := by decide +kernel
theorem d_Ge_hangOn_61 : decode prog_4_method_5_code 61 = .ok (.if_icmp .ne 33, 3) := by decide +kernel
theorem d_Ge_hangOn_64 : decode prog_4_method_5_code 64 = .ok (.lload 5, 2) := by decide +kernel
theorem d_Ge_hangOn_66 : decode prog_4_method_5_code 66 = .ok (.aload_n 0, 1) := by decide +kernel
theorem d_Ge_hangOn_67 : decode prog_4_method_5_code 67 = .ok (.getfield 31, 3) := by decide +kernel
theorem d_Ge_hangOn_70 : decode prog_4_method_5_code 70 = .ok (.getfield 95, 3) := by decide +kernel
theorem d_Ge_hangOn_73 : decode prog_4_method_5_code 73 = .ok (.iload_n 3, 1) := by decide +kernel
theorem d_Ge_hangOn_74 : decode prog_4_method_5_code 74 = .ok (.iaload, 1) := by decide +kernel
theorem d_Ge_hangOn_75 : decode prog_4_method_5_code 75 = .ok (.i2l, 1) := by decide +kernel
theorem d_Ge_hangOn_76 : decode prog_4_method_5_code 76 = .ok (.lmul, 1) := by decide +kernel
theorem d_Ge_hangOn_77 : decode prog_4_method_5_code 77 = .ok (.lstore 5, 2) := by decide +kernel
theorem d_Ge_hangOn_79 : decode prog_4_method_5_code 79 = .ok (.lload 7, 2) := by decide +kernel
theorem d_Ge_hangOn_81 : decode prog_4_method_5_code 81 = .ok (.aload_n 0, 1) := by decide +kernel
theorem d_Ge_hangOn_82 : decode prog_4_method_5_code 82 = .ok (.getfield 31, 3) := by decide +kernel
theorem d_Ge_hangOn_85 : decode prog_4_method_5_code 85 = .ok (.getfield 95, 3) := by decide +kernel
theorem d_Ge_hangOn_88 : decode prog_4_method_5_code 88 = .ok (.iload_n 2, 1) := by decide +kernel
theorem d_Ge_hangOn_89 : decode prog_4_method_5_code 89 = .ok (.iaload, 1) := by decide +kernel
theorem d_Ge_hangOn_90 : decode prog_4_method_5_code 90 = .ok (.i2l, 1) := by decide +kernel
theorem d_Ge_hangOn_91 : decode prog_4_method_5_code 91 = .ok (.lmul, 1) := by decide +kernel
theorem d_Ge_hangOn_92 : decode prog_4_method_5_code 92 = .ok (.lstore 7, 2) := by decide +kernel
theorem d_Ge_hangOn_94 : decode prog_4_method_5_code 94 = .ok (.lload 5, 2) := by decide +kernel
theorem d_Ge_hangOn_96 : decode prog_4_method_5_code 96 = .ok (.lload 7, 2) := by decide +kernel
theorem d_Ge_hangOn_98 : decode prog_4_method_5_code 98 = .ok (.invokestatic 98, 3) := by decide +kernel
theorem d_Ge_hangOn_101 : decode prog_4_method_5_code 101 = .ok (.lstore 9, 2) := by decide +kernel
theorem d_Ge_hangOn_103 : decode prog_4_method_5_code 103 = .ok (.aload_n 0, 1) := by decide +kernel
theorem d_Ge_hangOn_104 : decode prog_4_method_5_code 104 = .ok (.getfield 15, 3) := by decide +kernel
theorem d_Ge_hangOn_107 : decode prog_4_method_5_code 107 = .ok (.iload_n 3, 1) := by decide +kernel
theorem d_Ge_hangOn_108 : decode prog_4_method_5_code 108 = .ok (.lload 5, 2) := by decide +kernel
theorem d_Ge_hangOn_110 : decode prog_4_method_5_code 110 = .ok (.lload 9, 2) := by decide +kernel
theorem d_Ge_hangOn_112 : decode prog_4_method_5_code 112 = .ok (.ldiv, 1) := by decide +kernel
theorem d_Ge_hangOn_113 : decode prog_4_method_5_code 113 = .ok (.lastore, 1) := by decide +kernel
theorem d_Ge_hangOn_114 : decode prog_4_method_5_code 114 = .ok (.aload_n 0, 1) := by decide +kernel
theorem d_Ge_hangOn_115 : decode prog_4_method_5_code 115 = .ok (.getfield 19, 3) := by decide +kernel
theorem d_Ge_hangOn_118 : decode prog_4_method_5_code 118 = .ok (.iload_n 3, 1) := by decide +kernel
theorem d_Ge_hangOn_119 : decode prog_4_method_5_code 119 = .ok (.lload 7, 2) := by decide +kernel
theorem d_Ge_hangOn_121 : decode prog_4_method_5_code 121 = .ok (.lload 9, 2) := by decide +kernel
theorem d_Ge_hangOn_123 : decode prog_4_method_5_code 123 = .ok (.ldiv, 1) := by decide +kernel
theorem d_Ge_hangOn_124 : decode prog_4_method_5_code 124 = .ok (.lastore, 1) := by decide +kernel
theorem d_Ge_hangOn_125 : decode prog_4_method_5_code 125 = .ok (.iconst 1, 1) := by decide +kernel
theorem d_Ge_hangOn_126 : decode prog_4_method_5_code 126 = .ok (.ireturn, 1) := by decide +kernel
theorem d_Ge_agrees_0 : decode prog_4_method_6_code 0 = .ok (.aload_n 0, 1) := by decide +kernel
theorem d_Ge_agrees_1 : decode prog_4_method_6_code 1 = .ok (.getfield 31, 3) := by decide +kernel
theorem d_Ge_agrees_4 : decode prog_4_method_6_code 4 = .ok (.getfield 78, 3) := by decide +kernel
theorem d_Ge_agrees_7 : decode prog_4_method_6_code 7 = .ok (.iload_n 1, 1) := by decide +kernel
theorem d_Ge_agrees_8 : decode prog_4_method_6_code 8 = .ok (.iaload, 1) := by decide +kernel
theorem d_Ge_agrees_9 : decode prog_4_method_6_code 9 = .ok (.istore_n 2, 1) := by decide +kernel
theorem d_Ge_agrees_10 : decode prog_4_method_6_code 10 = .ok (.aload_n 0, 1) := by decide +kernel
theorem d_Ge_agrees_11 : decode prog_4_method_6_code 11 = .ok (.getfield 31, 3) := by decide +kernel
theorem d_Ge_agrees_14 : decode prog_4_method_6_code 14 = .ok (.getfield 85, 3) := by decide +kernel
theorem d_Ge_agrees_17 : decode prog_4_method_6_code 17 = .ok (.iload_n 1, 1) := by decide +kernel
theorem d_Ge_agrees_18 : decode prog_4_method_6_code 18 = .ok (.iaload, 1) := by decide +kernel
theorem d_Ge_agrees_19 : decode prog_4_method_6_code 19 = .ok (.istore_n 3, 1) := by decide +kernel
theorem d_Ge_agrees_20 : decode prog_4_method_6_code 20 = .ok (.aload_n 0, 1) := by decide +kernel
theorem d_Ge_agrees_21 : decode prog_4_method_6_code 21 = .ok (.getfield 31, 3) := by decide +kernel
theorem d_Ge_agrees_24 : decode prog_4_method_6_code 24 = .ok (.getfield 88, 3) := by decide +kernel
theorem d_Ge_agrees_27 : decode prog_4_method_6_code 27 = .ok (.iload_n 1, 1) := by decide +kernel
theorem d_Ge_agrees_28 : decode prog_4_method_6_code 28 = .ok (.iaload, 1) := by decide +kernel
theorem d_Ge_agrees_29 : decode prog_4_method_6_code 29 = .ok (.istore 4, 2) := by decide +kernel
theorem d_Ge_agrees_31 : decode prog_4_method_6_code 31 = .ok (.aload_n 0, 1) := by decide +kernel
theorem d_Ge_agrees_32 : decode prog_4_method_6_code 32 = .ok (.getfield 15, 3) := by decide +kernel
theorem d_Ge_agrees_35 : decode prog_4_method_6_code 35 = .ok (.iload_n 2, 1) := by decide +kernel
theorem d_Ge_agrees_36 : decode prog_4_method_6_code 36 = .ok (.laload, 1) := by decide +kernel
theorem d_Ge_agrees_37 : decode prog_4_method_6_code 37 = .ok (.aload_n 0, 1) := by decide +kernel
theorem d_Ge_agrees_38 : decode prog_4_method_6_code 38 = .ok (.getfield 19, 3) := by decide +kernel
theorem d_Ge_agrees_41 : decode prog_4_method_6_code 41 = .ok (.iload_n 3, 1) := by decide +kernel
theorem d_Ge_agrees_42 : decode prog_4_method_6_code 42 = .ok (.laload, 1) := by decide +kernel
theorem d_Ge_agrees_43 : decode prog_4_method_6_code 43 = .ok (.lmul, 1) := by decide +kernel
theorem d_Ge_agrees_44 : decode prog_4_method_6_code 44 = .ok (.lstore 5, 2) := by decide +kernel
theorem d_Ge_agrees_46 : decode prog_4_method_6_code 46 = .ok (.aload_n 0, 1) := by decide +kernel
theorem d_Ge_agrees_47 : decode prog_4_method_6_code 47 = .ok (.getfield 15, 3) := by decide +kernel
theorem d_Ge_agrees_50 : decode prog_4_method_6_code 50 = .ok (.iload_n 3, 1) := by decide +kernel
theorem d_Ge_agrees_51 : decode prog_4_method_6_code 51 = .ok (.laload, 1) := by decide +kernel
theorem d_Ge_agrees_52 : decode prog_4_method_6_code 52 = .ok (.aload_n 0, 1) := by decide +kernel
theorem d_Ge_agrees_53 : decode prog_4_method_6_code 53 = .ok (.getfield 19, 3) := by decide +kernel
theorem d_Ge_agrees_56 : decode prog_4_method_6_code 56 = .ok (.iload_n 2, 1) := by decide +kernel
theorem d_Ge_agrees_57 : decode prog_4_method_6_code 57 = .ok (.laload, 1) := by decide +kernel
theorem d_Ge_agrees_58 : decode prog_4_method_6_code 58 = .ok (.lmul, 1) := by decide +kernel
theorem d_Ge_agrees_59 : decode prog_4_method_6_code 59 = .ok (.lstore 7, 2) := by decide +kernel
theorem d_Ge_agrees_61 : decode prog_4_method_6_code 61 = .ok (.iload 4, 2) := by decide +kernel
theorem d_Ge_agrees_63 : decode prog_4_method_6_code 63 = .ok (.ifCond .ne 11, 3) := by decide +kernel
theorem d_Ge_agrees_66 : decode prog_4_method_6_code 66 = .ok (.lload 5, 2) := by decide +kernel
theorem d_Ge_agrees_68 : decode prog_4_method_6_code 68 = .ok (.lneg, 1) := by decide +kernel
theorem d_Ge_agrees_69 : decode prog_4_method_6_code 69 = .ok (.lstore 5, 2) := by decide +kernel
theorem d_Ge_agrees_71 : decode prog_4_method_6_code 71 = .ok (.goto 39, 3) := by decide +kernel
theorem d_Ge_agrees_74 : decode prog_4_method_6_code 74 = .ok (.iload 4, 2) := by decide +kernel
theorem d_Ge_agrees_76 : decode prog_4_method_6_code 76 = .ok (.iconst 2, 1) := by decide +kernel
theorem d_Ge_agrees_77 : decode prog_4_method_6_code 77 = .ok (.if_icmp .ne 33, 3) := by decide +kernel
theorem d_Ge_agrees_80 : decode prog_4_method_6_code 80 = .ok (.lload 5, 2) := by decide +kernel
theorem d_Ge_agrees_82 : decode prog_4_method_6_code 82 = .ok (.aload_n 0, 1) := by decide +kernel
theorem d_Ge_agrees_83 : decode prog_4_method_6_code 83 = .ok (.getfield 31, 3) := by decide +kernel
theorem d_Ge_agrees_86 : decode prog_4_method_6_code 86 = .ok (.getfield 95, 3) := by decide +kernel
theorem d_Ge_agrees_89 : decode prog_4_method_6_code 89 = .ok (.iload_n 3, 1) := by decide +kernel
theorem d_Ge_agrees_90 : decode prog_4_method_6_code 90 = .ok (.iaload, 1) := by decide +kernel
theorem d_Ge_agrees_91 : decode prog_4_method_6_code 91 = .ok (.i2l, 1) := by decide +kernel
theorem d_Ge_agrees_92 : decode prog_4_method_6_code 92 = .ok (.lmul, 1) := by decide +kernel
theorem d_Ge_agrees_93 : decode prog_4_method_6_code 93 = .ok (.lstore 5, 2) := by decide +kernel
theorem d_Ge_agrees_95 : decode prog_4_method_6_code 95 = .ok (.lload 7, 2) := by decide +kernel
theorem d_Ge_agrees_97 : decode prog_4_method_6_code 97 = .ok (.aload_n 0, 1) := by decide +kernel
theorem d_Ge_agrees_98 : decode prog_4_method_6_code 98 = .ok (.getfield 31, 3) := by decide +kernel
theorem d_Ge_agrees_101 : decode prog_4_method_6_code 101 = .ok (.getfield 95, 3) := by decide +kernel
theorem d_Ge_agrees_104 : decode prog_4_method_6_code 104 = .ok (.iload_n 2, 1) := by decide +kernel
theorem d_Ge_agrees_105 : decode prog_4_method_6_code 105 = .ok (.iaload, 1) := by decide +kernel
theorem d_Ge_agrees_106 : decode prog_4_method_6_code 106 = .ok (.i2l, 1) := by decide +kernel
theorem d_Ge_agrees_107 : decode prog_4_method_6_code 107 = .ok (.lmul, 1) := by decide +kernel
theorem d_Ge_agrees_108 : decode prog_4_method_6_code 108 = .ok (.lstore 7, 2) := by decide +kernel
theorem d_Ge_agrees_110 : decode prog_4_method_6_code 110 = .ok (.lload 5, 2) := by decide +kernel
theorem d_Ge_agrees_112 : decode prog_4_method_6_code 112 = .ok (.lload 7, 2) := by decide +kernel
theorem d_Ge_agrees_114 : decode prog_4_method_6_code 114 = .ok (.lcmp, 1) := by decide +kernel
theorem d_Ge_agrees_115 : decode prog_4_method_6_code 115 = .ok (.ifCond .ne 7, 3) := by decide +kernel
theorem d_Ge_agrees_118 : decode prog_4_method_6_code 118 = .ok (.iconst 1, 1) := by decide +kernel
theorem d_Ge_agrees_119 : decode prog_4_method_6_code 119 = .ok (.goto 4, 3) := by decide +kernel
theorem d_Ge_agrees_122 : decode prog_4_method_6_code 122 = .ok (.iconst 0, 1) := by decide +kernel
theorem d_Ge_agrees_123 : decode prog_4_method_6_code 123 = .ok (.ireturn, 1) := by decide +kernel
theorem d_Ge_setOf_0 : decode prog_4_method_7_code 0 = .ok (.iconst 0, 1) := by decide +kernel
theorem d_Ge_setOf_1 : decode prog_4_method_7_code 1 = .ok (.istore_n 2, 1) := by decide +kernel
theorem d_Ge_setOf_2 : decode prog_4_method_7_code 2 = .ok (.iconst 0, 1) := by decide +kernel
theorem d_Ge_setOf_3 : decode prog_4_method_7_code 3 = .ok (.istore_n 3, 1) := by decide +kernel
theorem d_Ge_setOf_4 : decode prog_4_method_7_code 4 = .ok (.iload_n 3, 1) := by decide +kernel
theorem d_Ge_setOf_5 : decode prog_4_method_7_code 5 = .ok (.aload_n 0, 1) := by decide +kernel
theorem d_Ge_setOf_6 : decode prog_4_method_7_code 6 = .ok (.getfield 31, 3) := by decide +kernel
theorem d_Ge_setOf_9 : decode prog_4_method_7_code 9 = .ok (.getfield 58, 3) := by decide +kernel
theorem d_Ge_setOf_12 : decode prog_4_method_7_code 12 = .ok (.if_icmp .ge 30, 3) := by decide +kernel
theorem d_Ge_setOf_15 : decode prog_4_method_7_code 15 = .ok (.aload_n 0, 1) := by decide +kernel
theorem d_Ge_setOf_16 : decode prog_4_method_7_code 16 = .ok (.getfield 9, 3) := by decide +kernel
theorem d_Ge_setOf_19 : decode prog_4_method_7_code 19 = .ok (.iload_n 3, 1) := by decide +kernel
theorem d_Ge_setOf_20 : decode prog_4_method_7_code 20 = .ok (.iaload, 1) := by decide +kernel
theorem d_Ge_setOf_21 : decode prog_4_method_7_code 21 = .ok (.aload_n 0, 1) := by decide +kernel
theorem d_Ge_setOf_22 : decode prog_4_method_7_code 22 = .ok (.getfield 9, 3) := by decide +kernel
theorem d_Ge_setOf_25 : decode prog_4_method_7_code 25 = .ok (.iload_n 1, 1) := by decide +kernel
theorem d_Ge_setOf_26 : decode prog_4_method_7_code 26 = .ok (.iaload, 1) := by decide +kernel
theorem d_Ge_setOf_27 : decode prog_4_method_7_code 27 = .ok (.if_icmp .ne 9, 3) := by decide +kernel
theorem d_Ge_setOf_30 : decode prog_4_method_7_code 30 = .ok (.iload_n 2, 1) := by decide +kernel
theorem d_Ge_setOf_31 : decode prog_4_method_7_code 31 = .ok (.iconst 1, 1) := by decide +kernel
theorem d_Ge_setOf_32 : decode prog_4_method_7_code 32 = .ok (.iload_n 3, 1) := by decide +kernel
theorem d_Ge_setOf_33 : decode prog_4_method_7_code 33 = .ok (.ishl, 1) := by decide +kernel
theorem d_Ge_setOf_34 : decode prog_4_method_7_code 34 = .ok (.ior, 1) := by decide +kernel
theorem d_Ge_setOf_35 : decode prog_4_method_7_code 35 = .ok (.istore_n 2, 1) := by decide +kernel
theorem d_Ge_setOf_36 : decode prog_4_method_7_code 36 = .ok (.iinc 3 1, 3) := by decide +kernel
theorem d_Ge_setOf_39 : decode prog_4_method_7_code 39 = .ok (.goto (-35), 3) := by decide +kernel
theorem d_Ge_setOf_42 : decode prog_4_method_7_code 42 = .ok (.iload_n 2, 1) := by decide +kernel
theorem d_Ge_setOf_43 : decode prog_4_method_7_code 43 = .ok (.ireturn, 1) := by decide +kernel
theorem d_Ge_measure_0 : decode prog_4_method_8_code 0 = .ok (.iconst 0, 1) := by decide +kernel
theorem d_Ge_measure_1 : decode prog_4_method_8_code 1 = .ok (.istore_n 1, 1) := by decide +kernel
theorem d_Ge_measure_2 : decode prog_4_method_8_code 2 = .ok (.iload_n 1, 1) := by decide +kernel
theorem d_Ge_measure_3 : decode prog_4_method_8_code 3 = .ok (.aload_n 0, 1) := by decide +kernel
theorem d_Ge_measure_4 : decode prog_4_method_8_code 4 = .ok (.getfield 31, 3) := by decide +kernel
theorem d_Ge_measure_7 : decode prog_4_method_8_code 7 = .ok (.getfield 58, 3) := by decide +kernel
theorem d_Ge_measure_10 : decode prog_4_method_8_code 10 = .ok (.if_icmp .ge 158, 3) := by decide +kernel
theorem d_Ge_measure_13 : decode prog_4_method_8_code 13 = .ok (.aload_n 0, 1) := by decide +kernel
theorem d_Ge_measure_14 : decode prog_4_method_8_code 14 = .ok (.getfield 22, 3) := by decide +kernel
theorem d_Ge_measure_17 : decode prog_4_method_8_code 17 = .ok (.iload_n 1, 1) := by decide +kernel
theorem d_Ge_measure_18 : decode prog_4_method_8_code 18 = .ok (.lconst 1, 1) := by decide +kernel
theorem d_Ge_measure_19 : decode prog_4_method_8_code 19 = .ok (.lastore, 1) := by decide +kernel
theorem d_Ge_measure_20 : decode prog_4_method_8_code 20 = .ok (.iconst 0, 1) := by decide +kernel
theorem d_Ge_measure_21 : decode prog_4_method_8_code 21 = .ok (.istore_n 2, 1) := by decide +kernel
theorem d_Ge_measure_22 : decode prog_4_method_8_code 22 = .ok (.iload_n 2, 1) := by decide +kernel
theorem d_Ge_measure_23 : decode prog_4_method_8_code 23 = .ok (.aload_n 0, 1) := by decide +kernel
theorem d_Ge_measure_24 : decode prog_4_method_8_code 24 = .ok (.getfield 31, 3) := by decide +kernel
theorem d_Ge_measure_27 : decode prog_4_method_8_code 27 = .ok (.getfield 58, 3) := by decide +kernel
theorem d_Ge_measure_30 : decode prog_4_method_8_code 30 = .ok (.if_icmp .ge 51, 3) := by decide +kernel
theorem d_Ge_measure_33 : decode prog_4_method_8_code 33 = .ok (.aload_n 0, 1) := by decide +kernel
theorem d_Ge_measure_34 : decode prog_4_method_8_code 34 = .ok (.iload_n 2, 1) := by decide +kernel
theorem d_Ge_measure_35 : decode prog_4_method_8_code 35 = .ok (.iload_n 1, 1) := by decide +kernel
theorem d_Ge_measure_36 : decode prog_4_method_8_code 36 = .ok (.invokevirtual 102, 3) := by decide +kernel
theorem d_Ge_measure_39 : decode prog_4_method_8_code 39 = .ok (.ifCond .eq 36, 3) := by decide +kernel
theorem d_Ge_measure_42 : decode prog_4_method_8_code 42 = .ok (.aload_n 0, 1) := by decide +kernel
theorem d_Ge_measure_43 : decode prog_4_method_8_code 43 = .ok (.iload_n 2, 1) := by decide +kernel
theorem d_Ge_measure_44 : decode prog_4_method_8_code 44 = .ok (.iload_n 1, 1) := by decide +kernel
theorem d_Ge_measure_45 : decode prog_4_method_8_code 45 = .ok (.iconst 1, 1) := by decide +kernel
theorem d_Ge_measure_46 : decode prog_4_method_8_code 46 = .ok (.invokevirtual 106, 3) := by decide +kernel
theorem d_Ge_measure_49 : decode prog_4_method_8_code 49 = .ok (.lstore_n 3, 1) := by decide +kernel
theorem d_Ge_measure_50 : decode prog_4_method_8_code 50 = .ok (.aload_n 0, 1) := by decide +kernel
theorem d_Ge_measure_51 : decode prog_4_method_8_code 51 = .ok (.getfield 22, 3) := by decide +kernel
theorem d_Ge_measure_54 : decode prog_4_method_8_code 54 = .ok (.iload_n 1, 1) := by decide +kernel
theorem d_Ge_measure_55 : decode prog_4_method_8_code 55 = .ok (.aload_n 0, 1) := by decide +kernel
theorem d_Ge_measure_56 : decode prog_4_method_8_code 56 = .ok (.getfield 22, 3) := by decide +kernel
theorem d_Ge_measure_59 : decode prog_4_method_8_code 59 = .ok (.iload_n 1, 1) := by decide +kernel
theorem d_Ge_measure_60 : decode prog_4_method_8_code 60 = .ok (.laload, 1) := by decide +kernel
theorem d_Ge_measure_61 : decode prog_4_method_8_code 61 = .ok (.aload_n 0, 1) := by decide +kernel
theorem d_Ge_measure_62 : decode prog_4_method_8_code 62 = .ok (.getfield 22, 3) := by decide +kernel
theorem d_Ge_measure_65 : decode prog_4_method_8_code 65 = .ok (.iload_n 1, 1) := by decide +kernel
theorem d_Ge_measure_66 : decode prog_4_method_8_code 66 = .ok (.laload, 1) := by decide +kernel
theorem d_Ge_measure_67 : decode prog_4_method_8_code 67 = .ok (.lload_n 3, 1) := by decide +kernel
theorem d_Ge_measure_68 : decode prog_4_method_8_code 68 = .ok (.invokestatic 98, 3) := by decide +kernel
theorem d_Ge_measure_71 : decode prog_4_method_8_code 71 = .ok (.ldiv, 1) := by decide +kernel
theorem d_Ge_measure_72 : decode prog_4_method_8_code 72 = .ok (.lload_n 3, 1) := by decide +kernel
theorem d_Ge_measure_73 : decode prog_4_method_8_code 73 = .ok (.lmul, 1) := by decide +kernel
theorem d_Ge_measure_74 : decode prog_4_method_8_code 74 = .ok (.lastore, 1) := by decide +kernel
theorem d_Ge_measure_75 : decode prog_4_method_8_code 75 = .ok (.iinc 2 1, 3) := by decide +kernel
theorem d_Ge_measure_78 : decode prog_4_method_8_code 78 = .ok (.goto (-56), 3) := by decide +kernel
theorem d_Ge_measure_81 : decode prog_4_method_8_code 81 = .ok (.iconst 0, 1) := by decide +kernel
theorem d_Ge_measure_82 : decode prog_4_method_8_code 82 = .ok (.istore_n 2, 1) := by decide +kernel
theorem d_Ge_measure_83 : decode prog_4_method_8_code 83 = .ok (.iload_n 2, 1) := by decide +kernel
theorem d_Ge_measure_84 : decode prog_4_method_8_code 84 = .ok (.aload_n 0, 1) := by decide +kernel
theorem d_Ge_measure_85 : decode prog_4_method_8_code 85 = .ok (.getfield 31, 3) := by decide +kernel
theorem d_Ge_measure_88 : decode prog_4_method_8_code 88 = .ok (.getfield 58, 3) := by decide +kernel
theorem d_Ge_measure_91 : decode prog_4_method_8_code 91 = .ok (.if_icmp .ge 71, 3) := by decide +kernel
theorem d_Ge_measure_94 : decode prog_4_method_8_code 94 = .ok (.aload_n 0, 1) := by decide +kernel
theorem d_Ge_measure_95 : decode prog_4_method_8_code 95 = .ok (.iload_n 2, 1) := by decide +kernel
theorem d_Ge_measure_96 : decode prog_4_method_8_code 96 = .ok (.iload_n 1, 1) := by decide +kernel
theorem d_Ge_measure_97 : decode prog_4_method_8_code 97 = .ok (.invokevirtual 102, 3) := by decide +kernel
theorem d_Ge_measure_100 : decode prog_4_method_8_code 100 = .ok (.ifCond .eq 13, 3) := by decide +kernel
theorem d_Ge_measure_103 : decode prog_4_method_8_code 103 = .ok (.aload_n 0, 1) := by decide +kernel
theorem d_Ge_measure_104 : decode prog_4_method_8_code 104 = .ok (.iload_n 2, 1) := by decide +kernel
theorem d_Ge_measure_105 : decode prog_4_method_8_code 105 = .ok (.iload_n 1, 1) := by decide +kernel
theorem d_Ge_measure_106 : decode prog_4_method_8_code 106 = .ok (.iconst 1, 1) := by decide +kernel
theorem d_Ge_measure_107 : decode prog_4_method_8_code 107 = .ok (.invokevirtual 106, 3) := by decide +kernel
theorem d_Ge_measure_110 : decode prog_4_method_8_code 110 = .ok (.goto 4, 3) := by decide +kernel
theorem d_Ge_measure_113 : decode prog_4_method_8_code 113 = .ok (.lconst 0, 1) := by decide +kernel
theorem d_Ge_measure_114 : decode prog_4_method_8_code 114 = .ok (.lstore_n 3, 1) := by decide +kernel
theorem d_Ge_measure_115 : decode prog_4_method_8_code 115 = .ok (.lload_n 3, 1) := by decide +kernel
theorem d_Ge_measure_116 : decode prog_4_method_8_code 116 = .ok (.lconst 0, 1) := by decide +kernel
theorem d_Ge_measure_117 : decode prog_4_method_8_code 117 = .ok (.lcmp, 1) := by decide +kernel
theorem d_Ge_measure_118 : decode prog_4_method_8_code 118 = .ok (.ifCond .le 22, 3) := by decide +kernel
theorem d_Ge_measure_121 : decode prog_4_method_8_code 121 = .ok (.aload_n 0, 1) := by decide +kernel
theorem d_Ge_measure_122 : decode prog_4_method_8_code 122 = .ok (.iload_n 2, 1) := by decide +kernel
theorem d_Ge_measure_123 : decode prog_4_method_8_code 123 = .ok (.iload_n 1, 1) := by decide +kernel
theorem d_Ge_measure_124 : decode prog_4_method_8_code 124 = .ok (.iconst 0, 1) := by decide +kernel
theorem d_Ge_measure_125 : decode prog_4_method_8_code 125 = .ok (.invokevirtual 106, 3) := by decide +kernel
theorem d_Ge_measure_128 : decode prog_4_method_8_code 128 = .ok (.aload_n 0, 1) := by decide +kernel
theorem d_Ge_measure_129 : decode prog_4_method_8_code 129 = .ok (.getfield 22, 3) := by decide +kernel
theorem d_Ge_measure_132 : decode prog_4_method_8_code 132 = .ok (.iload_n 1, 1) := by decide +kernel
theorem d_Ge_measure_133 : decode prog_4_method_8_code 133 = .ok (.laload, 1) := by decide +kernel
theorem d_Ge_measure_134 : decode prog_4_method_8_code 134 = .ok (.lload_n 3, 1) := by decide +kernel
theorem d_Ge_measure_135 : decode prog_4_method_8_code 135 = .ok (.ldiv, 1) := by decide +kernel
theorem d_Ge_measure_136 : decode prog_4_method_8_code 136 = .ok (.lmul, 1) := by decide +kernel
theorem d_Ge_measure_137 : decode prog_4_method_8_code 137 = .ok (.goto 4, 3) := by decide +kernel
theorem d_Ge_measure_140 : decode prog_4_method_8_code 140 = .ok (.lconst 0, 1) := by decide +kernel
theorem d_Ge_measure_141 : decode prog_4_method_8_code 141 = .ok (.lstore 5, 2) := by decide +kernel
theorem d_Ge_measure_143 : decode prog_4_method_8_code 143 = .ok (.aload_n 0, 1) := by decide +kernel
theorem d_Ge_measure_144 : decode prog_4_method_8_code 144 = .ok (.getfield 25, 3) := by decide +kernel
theorem d_Ge_measure_147 : decode prog_4_method_8_code 147 = .ok (.iload_n 2, 1) := by decide +kernel
theorem d_Ge_measure_148 : decode prog_4_method_8_code 148 = .ok (.bipush 12, 2) := by decide +kernel
theorem d_Ge_measure_150 : decode prog_4_method_8_code 150 = .ok (.imul, 1) := by decide +kernel
theorem d_Ge_measure_151 : decode prog_4_method_8_code 151 = .ok (.iload_n 1, 1) := by decide +kernel
theorem d_Ge_measure_152 : decode prog_4_method_8_code 152 = .ok (.iadd, 1) := by decide +kernel
theorem d_Ge_measure_153 : decode prog_4_method_8_code 153 = .ok (.lload 5, 2) := by decide +kernel
theorem d_Ge_measure_155 : decode prog_4_method_8_code 155 = .ok (.lastore, 1) := by decide +kernel
theorem d_Ge_measure_156 : decode prog_4_method_8_code 156 = .ok (.iinc 2 1, 3) := by decide +kernel
theorem d_Ge_measure_159 : decode prog_4_method_8_code 159 = .ok (.goto (-76), 3) := by decide +kernel
theorem d_Ge_measure_162 : decode prog_4_method_8_code 162 = .ok (.iinc 1 1, 3) := by decide +kernel
theorem d_Ge_measure_165 : decode prog_4_method_8_code 165 = .ok (.goto (-163), 3) := by decide +kernel
theorem d_Ge_measure_168 : decode prog_4_method_8_code 168 = .ok (.return_, 1) := by decide +kernel
theorem d_Ge_canTurn_0 : decode prog_4_method_9_code 0 = .ok (.aload_n 0, 1) := by decide +kernel
theorem d_Ge_canTurn_1 : decode prog_4_method_9_code 1 = .ok (.getfield 9, 3) := by decide +kernel
theorem d_Ge_canTurn_4 : decode prog_4_method_9_code 4 = .ok (.iload_n 1, 1) := by decide +kernel
theorem d_Ge_canTurn_5 : decode prog_4_method_9_code 5 = .ok (.iaload, 1) := by decide +kernel
theorem d_Ge_canTurn_6 : decode prog_4_method_9_code 6 = .ok (.aload_n 0, 1) := by decide +kernel
theorem d_Ge_canTurn_7 : decode prog_4_method_9_code 7 = .ok (.getfield 9, 3) := by decide +kernel
theorem d_Ge_canTurn_10 : decode prog_4_method_9_code 10 = .ok (.iload_n 2, 1) := by decide +kernel
theorem d_Ge_canTurn_11 : decode prog_4_method_9_code 11 = .ok (.iaload, 1) := by decide +kernel
theorem d_Ge_canTurn_12 : decode prog_4_method_9_code 12 = .ok (.if_icmp .ne 18, 3) := by decide +kernel
theorem d_Ge_canTurn_15 : decode prog_4_method_9_code 15 = .ok (.aload_n 0, 1) := by decide +kernel
theorem d_Ge_canTurn_16 : decode prog_4_method_9_code 16 = .ok (.getfield 55, 3) := by decide +kernel
theorem d_Ge_canTurn_19 : decode prog_4_method_9_code 19 = .ok (.iload_n 2, 1) := by decide +kernel
theorem d_Ge_canTurn_20 : decode prog_4_method_9_code 20 = .ok (.invokestatic 70, 3) := by decide +kernel
theorem d_Ge_canTurn_23 : decode prog_4_method_9_code 23 = .ok (.ifCond .ne 7, 3) := by decide +kernel
theorem d_Ge_canTurn_26 : decode prog_4_method_9_code 26 = .ok (.iconst 1, 1) := by decide +kernel
theorem d_Ge_canTurn_27 : decode prog_4_method_9_code 27 = .ok (.goto 4, 3) := by decide +kernel
theorem d_Ge_canTurn_30 : decode prog_4_method_9_code 30 = .ok (.iconst 0, 1) := by decide +kernel
theorem d_Ge_canTurn_31 : decode prog_4_method_9_code 31 = .ok (.ireturn, 1) := by decide +kernel
theorem d_Ge_ratioOf_0 : decode prog_4_method_10_code 0 = .ok (.aload_n 0, 1) := by decide +kernel
theorem d_Ge_ratioOf_1 : decode prog_4_method_10_code 1 = .ok (.getfield 15, 3) := by decide +kernel
theorem d_Ge_ratioOf_4 : decode prog_4_method_10_code 4 = .ok (.iload_n 2, 1) := by decide +kernel
theorem d_Ge_ratioOf_5 : decode prog_4_method_10_code 5 = .ok (.laload, 1) := by decide +kernel
theorem d_Ge_ratioOf_6 : decode prog_4_method_10_code 6 = .ok (.aload_n 0, 1) := by decide +kernel
theorem d_Ge_ratioOf_7 : decode prog_4_method_10_code 7 = .ok (.getfield 19, 3) := by decide +kernel
theorem d_Ge_ratioOf_10 : decode prog_4_method_10_code 10 = .ok (.iload_n 1, 1) := by decide +kernel
theorem d_Ge_ratioOf_11 : decode prog_4_method_10_code 11 = .ok (.laload, 1) := by decide +kernel
theorem d_Ge_ratioOf_12 : decode prog_4_method_10_code 12 = .ok (.lmul, 1) := by decide +kernel
theorem d_Ge_ratioOf_13 : decode prog_4_method_10_code 13 = .ok (.lstore 4, 2) := by decide +kernel
theorem d_Ge_ratioOf_15 : decode prog_4_method_10_code 15 = .ok (.aload_n 0, 1) := by decide +kernel
theorem d_Ge_ratioOf_16 : decode prog_4_method_10_code 16 = .ok (.getfield 19, 3) := by decide +kernel
theorem d_Ge_ratioOf_19 : decode prog_4_method_10_code 19 = .ok (.iload_n 2, 1) := by decide +kernel
theorem d_Ge_ratioOf_20 : decode prog_4_method_10_code 20 = .ok (.laload, 1) := by decide +kernel
theorem d_Ge_ratioOf_21 : decode prog_4_method_10_code 21 = .ok (.aload_n 0, 1) := by decide +kernel
theorem d_Ge_ratioOf_22 : decode prog_4_method_10_code 22 = .ok (.getfield 15, 3) := by decide +kernel
theorem d_Ge_ratioOf_25 : decode prog_4_method_10_code 25 = .ok (.iload_n 1, 1) := by decide +kernel
theorem d_Ge_ratioOf_26 : decode prog_4_method_10_code 26 = .ok (.laload, 1) := by decide +kernel
theorem d_Ge_ratioOf_27 : decode prog_4_method_10_code 27 = .ok (.lmul, 1) := by decide +kernel
theorem d_Ge_ratioOf_28 : decode prog_4_method_10_code 28 = .ok (.lstore 6, 2) := by decide +kernel
theorem d_Ge_ratioOf_30 : decode prog_4_method_10_code 30 = .ok (.lload 6, 2) := by decide +kernel
theorem d_Ge_ratioOf_32 : decode prog_4_method_10_code 32 = .ok (.lconst 0, 1) := by decide +kernel
theorem d_Ge_ratioOf_33 : decode prog_4_method_10_code 33 = .ok (.lcmp, 1) := by decide +kernel
theorem d_Ge_ratioOf_34 : decode prog_4_method_10_code 34 = .ok (.ifCond .ge 16, 3) := by decide +kernel
theorem d_Ge_ratioOf_37 : decode prog_4_method_10_code 37 = .ok (.lload 4, 2) := by decide +kernel
theorem d_Ge_ratioOf_39 : decode prog_4_method_10_code 39 = .ok (.lneg, 1) := by decide +kernel
theorem d_Ge_ratioOf_40 : decode prog_4_method_10_code 40 = .ok (.lload 6, 2) := by decide +kernel
theorem d_Ge_ratioOf_42 : decode prog_4_method_10_code 42 = .ok (.lneg, 1) := by decide +kernel
theorem d_Ge_ratioOf_43 : decode prog_4_method_10_code 43 = .ok (.iload_n 3, 1) := by decide +kernel
theorem d_Ge_ratioOf_44 : decode prog_4_method_10_code 44 = .ok (.invokestatic 110, 3) := by decide +kernel
theorem d_Ge_ratioOf_47 : decode prog_4_method_10_code 47 = .ok (.goto 11, 3) := by decide +kernel
theorem d_Ge_ratioOf_50 : decode prog_4_method_10_code 50 = .ok (.lload 4, 2) := by decide +kernel
theorem d_Ge_ratioOf_52 : decode prog_4_method_10_code 52 = .ok (.lload 6, 2) := by decide +kernel
theorem d_Ge_ratioOf_54 : decode prog_4_method_10_code 54 = .ok (.iload_n 3, 1) := by decide +kernel
theorem d_Ge_ratioOf_55 : decode prog_4_method_10_code 55 = .ok (.invokestatic 110, 3) := by decide +kernel
theorem d_Ge_ratioOf_58 : decode prog_4_method_10_code 58 = .ok (.lreturn, 1) := by decide +kernel
theorem d_Ge_stepOf_0 : decode prog_4_method_11_code 0 = .ok (.aload_n 0, 1) := by decide +kernel
theorem d_Ge_stepOf_1 : decode prog_4_method_11_code 1 = .ok (.getfield 25, 3) := by decide +kernel
theorem d_Ge_stepOf_4 : decode prog_4_method_11_code 4 = .ok (.iload_n 1, 1) := by decide +kernel
theorem d_Ge_stepOf_5 : decode prog_4_method_11_code 5 = .ok (.bipush 12, 2) := by decide +kernel
theorem d_Ge_stepOf_7 : decode prog_4_method_11_code 7 = .ok (.imul, 1) := by decide +kernel
theorem d_Ge_stepOf_8 : decode prog_4_method_11_code 8 = .ok (.iload_n 2, 1) := by decide +kernel
theorem d_Ge_stepOf_9 : decode prog_4_method_11_code 9 = .ok (.iadd, 1) := by decide +kernel
theorem d_Ge_stepOf_10 : decode prog_4_method_11_code 10 = .ok (.laload, 1) := by decide +kernel
theorem d_Ge_stepOf_11 : decode prog_4_method_11_code 11 = .ok (.lreturn, 1) := by decide +kernel
theorem d_Ge_tryPush_0 : decode prog_4_method_12_code 0 = .ok (.aload_n 0, 1) := by decide +kernel
theorem d_Ge_tryPush_1 : decode prog_4_method_12_code 1 = .ok (.getfield 31, 3) := by decide +kernel
theorem d_Ge_tryPush_4 : decode prog_4_method_12_code 4 = .ok (.getfield 114, 3) := by decide +kernel
theorem d_Ge_tryPush_7 : decode prog_4_method_12_code 7 = .ok (.iload_n 1, 1) := by decide +kernel
theorem d_Ge_tryPush_8 : decode prog_4_method_12_code 8 = .ok (.invokestatic 70, 3) := by decide +kernel
theorem d_Ge_tryPush_11 : decode prog_4_method_12_code 11 = .ok (.iconst 1, 1) := by decide +kernel
theorem d_Ge_tryPush_12 : decode prog_4_method_12_code 12 = .ok (.if_icmp .ne 6, 3) := by decide +kernel
theorem d_Ge_tryPush_15 : decode prog_4_method_12_code 15 = .ok (.bipush (-2), 2) := by decide +kernel
theorem d_Ge_tryPush_17 : decode prog_4_method_12_code 17 = .ok (.ireturn, 1) := by decide +kernel
theorem d_Ge_tryPush_18 : decode prog_4_method_12_code 18 = .ok (.aload_n 0, 1) := by decide +kernel
theorem d_Ge_tryPush_19 : decode prog_4_method_12_code 19 = .ok (.getfield 55, 3) := by decide +kernel
theorem d_Ge_tryPush_22 : decode prog_4_method_12_code 22 = .ok (.iload_n 1, 1) := by decide +kernel
theorem d_Ge_tryPush_23 : decode prog_4_method_12_code 23 = .ok (.invokestatic 70, 3) := by decide +kernel
theorem d_Ge_tryPush_26 : decode prog_4_method_12_code 26 = .ok (.iconst 1, 1) := by decide +kernel
theorem d_Ge_tryPush_27 : decode prog_4_method_12_code 27 = .ok (.if_icmp .ne 6, 3) := by decide +kernel
theorem d_Ge_tryPush_30 : decode prog_4_method_12_code 30 = .ok (.bipush (-3), 2) := by decide +kernel
theorem d_Ge_tryPush_32 : decode prog_4_method_12_code 32 = .ok (.ireturn, 1) := by decide +kernel
theorem d_Ge_tryPush_33 : decode prog_4_method_12_code 33 = .ok (.iconst 0, 1) := by decide +kernel
theorem d_Ge_tryPush_34 : decode prog_4_method_12_code 34 = .ok (.istore_n 3, 1) := by decide +kernel
theorem d_Ge_tryPush_35 : decode prog_4_method_12_code 35 = .ok (.iconst 0, 1) := by decide +kernel
theorem d_Ge_tryPush_36 : decode prog_4_method_12_code 36 = .ok (.istore 4, 2) := by decide +kernel
theorem d_Ge_tryPush_38 : decode prog_4_method_12_code 38 = .ok (.iload 4, 2) := by decide +kernel
theorem d_Ge_tryPush_40 : decode prog_4_method_12_code 40 = .ok (.aload_n 0, 1) := by decide +kernel
theorem d_Ge_tryPush_41 : decode prog_4_method_12_code 41 = .ok (.getfield 31, 3) := by decide +kernel
theorem d_Ge_tryPush_44 : decode prog_4_method_12_code 44 = .ok (.getfield 58, 3) := by decide +kernel
theorem d_Ge_tryPush_47 : decode prog_4_method_12_code 47 = .ok (.if_icmp .ge 64, 3) := by decide +kernel
theorem d_Ge_tryPush_50 : decode prog_4_method_12_code 50 = .ok (.aload_n 0, 1) := by decide +kernel
theorem d_Ge_tryPush_51 : decode prog_4_method_12_code 51 = .ok (.getfield 9, 3) := by decide +kernel
theorem d_Ge_tryPush_54 : decode prog_4_method_12_code 54 = .ok (.iload 4, 2) := by decide +kernel
theorem d_Ge_tryPush_56 : decode prog_4_method_12_code 56 = .ok (.iaload, 1) := by decide +kernel
theorem d_Ge_tryPush_57 : decode prog_4_method_12_code 57 = .ok (.aload_n 0, 1) := by decide +kernel
theorem d_Ge_tryPush_58 : decode prog_4_method_12_code 58 = .ok (.getfield 9, 3) := by decide +kernel
theorem d_Ge_tryPush_61 : decode prog_4_method_12_code 61 = .ok (.iload_n 1, 1) := by decide +kernel
theorem d_Ge_tryPush_62 : decode prog_4_method_12_code 62 = .ok (.iaload, 1) := by decide +kernel
theorem d_Ge_tryPush_63 : decode prog_4_method_12_code 63 = .ok (.if_icmp .ne 42, 3) := by decide +kernel
theorem d_Ge_tryPush_66 : decode prog_4_method_12_code 66 = .ok (.aload_n 0, 1) := by decide +kernel
theorem d_Ge_tryPush_67 : decode prog_4_method_12_code 67 = .ok (.iload 4, 2) := by decide +kernel
theorem d_Ge_tryPush_69 : decode prog_4_method_12_code 69 = .ok (.aload_n 0, 1) := by decide +kernel
theorem d_Ge_tryPush_70 : decode prog_4_method_12_code 70 = .ok (.getfield 31, 3) := by decide +kernel
theorem d_Ge_tryPush_73 : decode prog_4_method_12_code 73 = .ok (.getfield 117, 3) := by decide +kernel
theorem d_Ge_tryPush_76 : decode prog_4_method_12_code 76 = .ok (.iload 4, 2) := by decide +kernel
theorem d_Ge_tryPush_78 : decode prog_4_method_12_code 78 = .ok (.laload, 1) := by decide +kernel
theorem d_Ge_tryPush_79 : decode prog_4_method_12_code 79 = .ok (.iload_n 2, 1) := by decide +kernel
theorem d_Ge_tryPush_80 : decode prog_4_method_12_code 80 = .ok (.i2l, 1) := by decide +kernel
theorem d_Ge_tryPush_81 : decode prog_4_method_12_code 81 = .ok (.aload_n 0, 1) := by decide +kernel
theorem d_Ge_tryPush_82 : decode prog_4_method_12_code 82 = .ok (.iload_n 1, 1) := by decide +kernel
theorem d_Ge_tryPush_83 : decode prog_4_method_12_code 83 = .ok (.iload 4, 2) := by decide +kernel
theorem d_Ge_tryPush_85 : decode prog_4_method_12_code 85 = .ok (.invokevirtual 120, 3) := by decide +kernel
theorem d_Ge_tryPush_88 : decode prog_4_method_12_code 88 = .ok (.lmul, 1) := by decide +kernel
theorem d_Ge_tryPush_89 : decode prog_4_method_12_code 89 = .ok (.ladd, 1) := by decide +kernel
theorem d_Ge_tryPush_90 : decode prog_4_method_12_code 90 = .ok (.invokevirtual 124, 3) := by decide +kernel
theorem d_Ge_tryPush_93 : decode prog_4_method_12_code 93 = .ok (.ifCond .eq 9, 3) := by decide +kernel
theorem d_Ge_tryPush_96 : decode prog_4_method_12_code 96 = .ok (.bipush (-10), 2) := by decide +kernel
theorem d_Ge_tryPush_98 : decode prog_4_method_12_code 98 = .ok (.iload 4, 2) := by decide +kernel
theorem d_Ge_tryPush_100 : decode prog_4_method_12_code 100 = .ok (.isub, 1) := by decide +kernel
theorem d_Ge_tryPush_101 : decode prog_4_method_12_code 101 = .ok (.ireturn, 1) := by decide +kernel
theorem d_Ge_tryPush_102 : decode prog_4_method_12_code 102 = .ok (.iinc 3 1, 3) := by decide +kernel
theorem d_Ge_tryPush_105 : decode prog_4_method_12_code 105 = .ok (.iinc 4 1, 3) := by decide +kernel
theorem d_Ge_tryPush_108 : decode prog_4_method_12_code 108 = .ok (.goto (-70), 3) := by decide +kernel
theorem d_Ge_tryPush_111 : decode prog_4_method_12_code 111 = .ok (.iload_n 3, 1) := by decide +kernel
theorem d_Ge_tryPush_112 : decode prog_4_method_12_code 112 = .ok (.ireturn, 1) := by decide +kernel
theorem d_Ge_turnSet_0 : decode prog_4_method_13_code 0 = .ok (.iconst 0, 1) := by decide +kernel
theorem d_Ge_turnSet_1 : decode prog_4_method_13_code 1 = .ok (.istore_n 3, 1) := by decide +kernel
theorem d_Ge_turnSet_2 : decode prog_4_method_13_code 2 = .ok (.iload_n 3, 1) := by decide +kernel
theorem d_Ge_turnSet_3 : decode prog_4_method_13_code 3 = .ok (.aload_n 0, 1) := by decide +kernel
theorem d_Ge_turnSet_4 : decode prog_4_method_13_code 4 = .ok (.getfield 31, 3) := by decide +kernel
theorem d_Ge_turnSet_7 : decode prog_4_method_13_code 7 = .ok (.getfield 58, 3) := by decide +kernel
theorem d_Ge_turnSet_10 : decode prog_4_method_13_code 10 = .ok (.if_icmp .ge 45, 3) := by decide +kernel
theorem d_Ge_turnSet_13 : decode prog_4_method_13_code 13 = .ok (.aload_n 0, 1) := by decide +kernel
theorem d_Ge_turnSet_14 : decode prog_4_method_13_code 14 = .ok (.getfield 9, 3) := by decide +kernel
theorem d_Ge_turnSet_17 : decode prog_4_method_13_code 17 = .ok (.iload_n 3, 1) := by decide +kernel
theorem d_Ge_turnSet_18 : decode prog_4_method_13_code 18 = .ok (.iaload, 1) := by decide +kernel
theorem d_Ge_turnSet_19 : decode prog_4_method_13_code 19 = .ok (.aload_n 0, 1) := by decide +kernel
theorem d_Ge_turnSet_20 : decode prog_4_method_13_code 20 = .ok (.getfield 9, 3) := by decide +kernel
theorem d_Ge_turnSet_23 : decode prog_4_method_13_code 23 = .ok (.iload_n 1, 1) := by decide +kernel
theorem d_Ge_turnSet_24 : decode prog_4_method_13_code 24 = .ok (.iaload, 1) := by decide +kernel
theorem d_Ge_turnSet_25 : decode prog_4_method_13_code 25 = .ok (.if_icmp .ne 24, 3) := by decide +kernel
theorem d_Ge_turnSet_28 : decode prog_4_method_13_code 28 = .ok (.aload_n 0, 1) := by decide +kernel
theorem d_Ge_turnSet_29 : decode prog_4_method_13_code 29 = .ok (.getfield 31, 3) := by decide +kernel
theorem d_Ge_turnSet_32 : decode prog_4_method_13_code 32 = .ok (.getfield 117, 3) := by decide +kernel
theorem d_Ge_turnSet_35 : decode prog_4_method_13_code 35 = .ok (.iload_n 3, 1) := by decide +kernel
theorem d_Ge_turnSet_36 : decode prog_4_method_13_code 36 = .ok (.dup2, 1) := by decide +kernel
theorem d_Ge_turnSet_37 : decode prog_4_method_13_code 37 = .ok (.laload, 1) := by decide +kernel
theorem d_Ge_turnSet_38 : decode prog_4_method_13_code 38 = .ok (.iload_n 2, 1) := by decide +kernel
theorem d_Ge_turnSet_39 : decode prog_4_method_13_code 39 = .ok (.i2l, 1) := by decide +kernel
theorem d_Ge_turnSet_40 : decode prog_4_method_13_code 40 = .ok (.aload_n 0, 1) := by decide +kernel
theorem d_Ge_turnSet_41 : decode prog_4_method_13_code 41 = .ok (.iload_n 1, 1) := by decide +kernel
theorem d_Ge_turnSet_42 : decode prog_4_method_13_code 42 = .ok (.iload_n 3, 1) := by decide +kernel
theorem d_Ge_turnSet_43 : decode prog_4_method_13_code 43 = .ok (.invokevirtual 120, 3) := by decide +kernel
theorem d_Ge_turnSet_46 : decode prog_4_method_13_code 46 = .ok (.lmul, 1) := by decide +kernel
theorem d_Ge_turnSet_47 : decode prog_4_method_13_code 47 = .ok (.ladd, 1) := by decide +kernel
theorem d_Ge_turnSet_48 : decode prog_4_method_13_code 48 = .ok (.lastore, 1) := by decide +kernel
theorem d_Ge_turnSet_49 : decode prog_4_method_13_code 49 = .ok (.iinc 3 1, 3) := by decide +kernel
theorem d_Ge_turnSet_52 : decode prog_4_method_13_code 52 = .ok (.goto (-50), 3) := by decide +kernel
theorem d_Ge_turnSet_55 : decode prog_4_method_13_code 55 = .ok (.return_, 1) := by decide +kernel
theorem d_Ge_isBeyond_0 : decode prog_4_method_14_code 0 = .ok (.aload_n 0, 1) := by decide +kernel
theorem d_Ge_isBeyond_1 : decode prog_4_method_14_code 1 = .ok (.getfield 31, 3) := by decide +kernel
theorem d_Ge_isBeyond_4 : decode prog_4_method_14_code 4 = .ok (.getfield 128, 3) := by decide +kernel
theorem d_Ge_isBeyond_7 : decode prog_4_method_14_code 7 = .ok (.iload_n 1, 1) := by decide +kernel
theorem d_Ge_isBeyond_8 : decode prog_4_method_14_code 8 = .ok (.iaload, 1) := by decide +kernel
theorem d_Ge_isBeyond_9 : decode prog_4_method_14_code 9 = .ok (.ifCond .ne 5, 3) := by decide +kernel
theorem d_Ge_isBeyond_12 : decode prog_4_method_14_code 12 = .ok (.iconst 0, 1) := by decide +kernel
theorem d_Ge_isBeyond_13 : decode prog_4_method_14_code 13 = .ok (.ireturn, 1) := by decide +kernel
theorem d_Ge_isBeyond_14 : decode prog_4_method_14_code 14 = .ok (.lload_n 2, 1) := by decide +kernel
theorem d_Ge_isBeyond_15 : decode prog_4_method_14_code 15 = .ok (.lconst 0, 1) := by decide +kernel
theorem d_Ge_isBeyond_16 : decode prog_4_method_14_code 16 = .ok (.lcmp, 1) := by decide +kernel
theorem d_Ge_isBeyond_17 : decode prog_4_method_14_code 17 = .ok (.ifCond .lt 25, 3) := by decide +kernel
theorem d_Ge_isBeyond_20 : decode prog_4_method_14_code 20 = .ok (.lload_n 2, 1) := by decide +kernel
theorem d_Ge_isBeyond_21 : decode prog_4_method_14_code 21 = .ok (.aload_n 0, 1) := by decide +kernel
theorem d_Ge_isBeyond_22 : decode prog_4_method_14_code 22 = .ok (.getfield 31, 3) := by decide +kernel
theorem d_Ge_isBeyond_25 : decode prog_4_method_14_code 25 = .ok (.getfield 128, 3) := by decide +kernel
theorem d_Ge_isBeyond_28 : decode prog_4_method_14_code 28 = .ok (.iload_n 1, 1) := by decide +kernel
theorem d_Ge_isBeyond_29 : decode prog_4_method_14_code 29 = .ok (.iaload, 1) := by decide +kernel
theorem d_Ge_isBeyond_30 : decode prog_4_method_14_code 30 = .ok (.i2l, 1) := by decide +kernel
theorem d_Ge_isBeyond_31 : decode prog_4_method_14_code 31 = .ok (.aload_n 0, 1) := by decide +kernel
theorem d_Ge_isBeyond_32 : decode prog_4_method_14_code 32 = .ok (.getfield 22, 3) := by decide +kernel
theorem d_Ge_isBeyond_35 : decode prog_4_method_14_code 35 = .ok (.iload_n 1, 1) := by decide +kernel
theorem d_Ge_isBeyond_36 : decode prog_4_method_14_code 36 = .ok (.laload, 1) := by decide +kernel
theorem d_Ge_isBeyond_37 : decode prog_4_method_14_code 37 = .ok (.lmul, 1) := by decide +kernel
theorem d_Ge_isBeyond_38 : decode prog_4_method_14_code 38 = .ok (.lcmp, 1) := by decide +kernel
theorem d_Ge_isBeyond_39 : decode prog_4_method_14_code 39 = .ok (.ifCond .le 7, 3) := by decide +kernel
theorem d_Ge_isBeyond_42 : decode prog_4_method_14_code 42 = .ok (.iconst 1, 1) := by decide +kernel
theorem d_Ge_isBeyond_43 : decode prog_4_method_14_code 43 = .ok (.goto 4, 3) := by decide +kernel
theorem d_Ge_isBeyond_46 : decode prog_4_method_14_code 46 = .ok (.iconst 0, 1) := by decide +kernel
theorem d_Ge_isBeyond_47 : decode prog_4_method_14_code 47 = .ok (.ireturn, 1) := by decide +kernel
theorem d_Ge_isOpen_0 : decode prog_4_method_15_code 0 = .ok (.aload_n 0, 1) := by decide +kernel
theorem d_Ge_isOpen_1 : decode prog_4_method_15_code 1 = .ok (.iload_n 1, 1) := by decide +kernel
theorem d_Ge_isOpen_2 : decode prog_4_method_15_code 2 = .ok (.aload_n 0, 1) := by decide +kernel
theorem d_Ge_isOpen_3 : decode prog_4_method_15_code 3 = .ok (.getfield 31, 3) := by decide +kernel
theorem d_Ge_isOpen_6 : decode prog_4_method_15_code 6 = .ok (.getfield 117, 3) := by decide +kernel
theorem d_Ge_isOpen_9 : decode prog_4_method_15_code 9 = .ok (.iload_n 1, 1) := by decide +kernel
theorem d_Ge_isOpen_10 : decode prog_4_method_15_code 10 = .ok (.laload, 1) := by decide +kernel
theorem d_Ge_isOpen_11 : decode prog_4_method_15_code 11 = .ok (.invokevirtual 131, 3) := by decide +kernel
theorem d_Ge_isOpen_14 : decode prog_4_method_15_code 14 = .ok (.ireturn, 1) := by decide +kernel
theorem d_Ge_isOpenAt_0 : decode prog_4_method_16_code 0 = .ok (.aload_n 0, 1) := by decide +kernel
theorem d_Ge_isOpenAt_1 : decode prog_4_method_16_code 1 = .ok (.getfield 31, 3) := by decide +kernel
theorem d_Ge_isOpenAt_4 : decode prog_4_method_16_code 4 = .ok (.getfield 128, 3) := by decide +kernel
theorem d_Ge_isOpenAt_7 : decode prog_4_method_16_code 7 = .ok (.iload_n 1, 1) := by decide +kernel
theorem d_Ge_isOpenAt_8 : decode prog_4_method_16_code 8 = .ok (.iaload, 1) := by decide +kernel
theorem d_Ge_isOpenAt_9 : decode prog_4_method_16_code 9 = .ok (.ifCond .le 35, 3) := by decide +kernel
theorem d_Ge_isOpenAt_12 : decode prog_4_method_16_code 12 = .ok (.ldc2_w 134, 3) := by decide +kernel
theorem d_Ge_isOpenAt_15 : decode prog_4_method_16_code 15 = .ok (.lload_n 2, 1) := by decide +kernel
theorem d_Ge_isOpenAt_16 : decode prog_4_method_16_code 16 = .ok (.lmul, 1) := by decide +kernel
theorem d_Ge_isOpenAt_17 : decode prog_4_method_16_code 17 = .ok (.aload_n 0, 1) := by decide +kernel
theorem d_Ge_isOpenAt_18 : decode prog_4_method_16_code 18 = .ok (.getfield 31, 3) := by decide +kernel
theorem d_Ge_isOpenAt_21 : decode prog_4_method_16_code 21 = .ok (.getfield 128, 3) := by decide +kernel
theorem d_Ge_isOpenAt_24 : decode prog_4_method_16_code 24 = .ok (.iload_n 1, 1) := by decide +kernel
theorem d_Ge_isOpenAt_25 : decode prog_4_method_16_code 25 = .ok (.iaload, 1) := by decide +kernel
theorem d_Ge_isOpenAt_26 : decode prog_4_method_16_code 26 = .ok (.i2l, 1) := by decide +kernel
theorem d_Ge_isOpenAt_27 : decode prog_4_method_16_code 27 = .ok (.aload_n 0, 1) := by decide +kernel
theorem d_Ge_isOpenAt_28 : decode prog_4_method_16_code 28 = .ok (.getfield 22, 3) := by decide +kernel
theorem d_Ge_isOpenAt_31 : decode prog_4_method_16_code 31 = .ok (.iload_n 1, 1) := by decide +kernel
theorem d_Ge_isOpenAt_32 : decode prog_4_method_16_code 32 = .ok (.laload, 1) := by decide +kernel
theorem d_Ge_isOpenAt_33 : decode prog_4_method_16_code 33 = .ok (.lmul, 1) := by decide +kernel
theorem d_Ge_isOpenAt_34 : decode prog_4_method_16_code 34 = .ok (.lcmp, 1) := by decide +kernel
theorem d_Ge_isOpenAt_35 : decode prog_4_method_16_code 35 = .ok (.ifCond .lt 7, 3) := by decide +kernel
theorem d_Ge_isOpenAt_38 : decode prog_4_method_16_code 38 = .ok (.iconst 1, 1) := by decide +kernel
theorem d_Ge_isOpenAt_39 : decode prog_4_method_16_code 39 = .ok (.goto 4, 3) := by decide +kernel
theorem d_Ge_isOpenAt_42 : decode prog_4_method_16_code 42 = .ok (.iconst 0, 1) := by decide +kernel
theorem d_Ge_isOpenAt_43 : decode prog_4_method_16_code 43 = .ok (.ireturn, 1) := by decide +kernel
theorem d_Ge_isOpenAt_44 : decode prog_4_method_16_code 44 = .ok (.aload_n 0, 1) := by decide +kernel
theorem d_Ge_isOpenAt_45 : decode prog_4_method_16_code 45 = .ok (.getfield 31, 3) := by decide +kernel
theorem d_Ge_isOpenAt_48 : decode prog_4_method_16_code 48 = .ok (.getfield 95, 3) := by decide +kernel
theorem d_Ge_isOpenAt_51 : decode prog_4_method_16_code 51 = .ok (.iload_n 1, 1) := by decide +kernel
theorem d_Ge_isOpenAt_52 : decode prog_4_method_16_code 52 = .ok (.iaload, 1) := by decide +kernel
theorem d_Ge_isOpenAt_53 : decode prog_4_method_16_code 53 = .ok (.i2l, 1) := by decide +kernel
theorem d_Ge_isOpenAt_54 : decode prog_4_method_16_code 54 = .ok (.aload_n 0, 1) := by decide +kernel
theorem d_Ge_isOpenAt_55 : decode prog_4_method_16_code 55 = .ok (.getfield 22, 3) := by decide +kernel
theorem d_Ge_isOpenAt_58 : decode prog_4_method_16_code 58 = .ok (.iload_n 1, 1) := by decide +kernel
theorem d_Ge_isOpenAt_59 : decode prog_4_method_16_code 59 = .ok (.laload, 1) := by decide +kernel
theorem d_Ge_isOpenAt_60 : decode prog_4_method_16_code 60 = .ok (.lmul, 1) := by decide +kernel
theorem d_Ge_isOpenAt_61 : decode prog_4_method_16_code 61 = .ok (.lstore 4, 2) := by decide +kernel
theorem d_Ge_isOpenAt_63 : decode prog_4_method_16_code 63 = .ok (.lload 4, 2) := by decide +kernel
theorem d_Ge_isOpenAt_65 : decode prog_4_method_16_code 65 = .ok (.lconst 0, 1) := by decide +kernel
theorem d_Ge_isOpenAt_66 : decode prog_4_method_16_code 66 = .ok (.lcmp, 1) := by decide +kernel
theorem d_Ge_isOpenAt_67 : decode prog_4_method_16_code 67 = .ok (.ifCond .le 23, 3) := by decide +kernel
theorem d_Ge_isOpenAt_70 : decode prog_4_method_16_code 70 = .ok (.ldc2_w 134, 3) := by decide +kernel
theorem d_Ge_isOpenAt_73 : decode prog_4_method_16_code 73 = .ok (.lload_n 2, 1) := by decide +kernel
theorem d_Ge_isOpenAt_74 : decode prog_4_method_16_code 74 = .ok (.lload 4, 2) := by decide +kernel
theorem d_Ge_isOpenAt_76 : decode prog_4_method_16_code 76 = .ok (.invokestatic 136, 3) := by decide +kernel
theorem d_Ge_isOpenAt_79 : decode prog_4_method_16_code 79 = .ok (.lmul, 1) := by decide +kernel
theorem d_Ge_isOpenAt_80 : decode prog_4_method_16_code 80 = .ok (.lload 4, 2) := by decide +kernel
theorem d_Ge_isOpenAt_82 : decode prog_4_method_16_code 82 = .ok (.lcmp, 1) := by decide +kernel
theorem d_Ge_isOpenAt_83 : decode prog_4_method_16_code 83 = .ok (.ifCond .ge 7, 3) := by decide +kernel
theorem d_Ge_isOpenAt_86 : decode prog_4_method_16_code 86 = .ok (.iconst 1, 1) := by decide +kernel
theorem d_Ge_isOpenAt_87 : decode prog_4_method_16_code 87 = .ok (.goto 4, 3) := by decide +kernel
theorem d_Ge_isOpenAt_90 : decode prog_4_method_16_code 90 = .ok (.iconst 0, 1) := by decide +kernel
theorem d_Ge_isOpenAt_91 : decode prog_4_method_16_code 91 = .ok (.ireturn, 1) := by decide +kernel
theorem d_Ge_openSet_0 : decode prog_4_method_17_code 0 = .ok (.iconst 0, 1) := by decide +kernel
theorem d_Ge_openSet_1 : decode prog_4_method_17_code 1 = .ok (.istore_n 1, 1) := by decide +kernel
theorem d_Ge_openSet_2 : decode prog_4_method_17_code 2 = .ok (.iconst 0, 1) := by decide +kernel
theorem d_Ge_openSet_3 : decode prog_4_method_17_code 3 = .ok (.istore_n 2, 1) := by decide +kernel
theorem d_Ge_openSet_4 : decode prog_4_method_17_code 4 = .ok (.iload_n 2, 1) := by decide +kernel
theorem d_Ge_openSet_5 : decode prog_4_method_17_code 5 = .ok (.aload_n 0, 1) := by decide +kernel
theorem d_Ge_openSet_6 : decode prog_4_method_17_code 6 = .ok (.getfield 31, 3) := by decide +kernel
theorem d_Ge_openSet_9 : decode prog_4_method_17_code 9 = .ok (.getfield 58, 3) := by decide +kernel
theorem d_Ge_openSet_12 : decode prog_4_method_17_code 12 = .ok (.if_icmp .ge 36, 3) := by decide +kernel
theorem d_Ge_openSet_15 : decode prog_4_method_17_code 15 = .ok (.iload_n 1, 1) := by decide +kernel
theorem d_Ge_openSet_16 : decode prog_4_method_17_code 16 = .ok (.aload_n 0, 1) := by decide +kernel
theorem d_Ge_openSet_17 : decode prog_4_method_17_code 17 = .ok (.iload_n 2, 1) := by decide +kernel
theorem d_Ge_openSet_18 : decode prog_4_method_17_code 18 = .ok (.aload_n 0, 1) := by decide +kernel
theorem d_Ge_openSet_19 : decode prog_4_method_17_code 19 = .ok (.getfield 31, 3) := by decide +kernel
theorem d_Ge_openSet_22 : decode prog_4_method_17_code 22 = .ok (.getfield 117, 3) := by decide +kernel
theorem d_Ge_openSet_25 : decode prog_4_method_17_code 25 = .ok (.iload_n 2, 1) := by decide +kernel
theorem d_Ge_openSet_26 : decode prog_4_method_17_code 26 = .ok (.laload, 1) := by decide +kernel
theorem d_Ge_openSet_27 : decode prog_4_method_17_code 27 = .ok (.invokevirtual 131, 3) := by decide +kernel
theorem d_Ge_openSet_30 : decode prog_4_method_17_code 30 = .ok (.ifCond .eq 9, 3) := by decide +kernel
theorem d_Ge_openSet_33 : decode prog_4_method_17_code 33 = .ok (.iconst 1, 1) := by decide +kernel
theorem d_Ge_openSet_34 : decode prog_4_method_17_code 34 = .ok (.iload_n 2, 1) := by decide +kernel
theorem d_Ge_openSet_35 : decode prog_4_method_17_code 35 = .ok (.ishl, 1) := by decide +kernel
theorem d_Ge_openSet_36 : decode prog_4_method_17_code 36 = .ok (.goto 4, 3) := by decide +kernel
theorem d_Ge_openSet_39 : decode prog_4_method_17_code 39 = .ok (.iconst 0, 1) := by decide +kernel
theorem d_Ge_openSet_40 : decode prog_4_method_17_code 40 = .ok (.ior, 1) := by decide +kernel
theorem d_Ge_openSet_41 : decode prog_4_method_17_code 41 = .ok (.istore_n 1, 1) := by decide +kernel
theorem d_Ge_openSet_42 : decode prog_4_method_17_code 42 = .ok (.iinc 2 1, 3) := by decide +kernel
theorem d_Ge_openSet_45 : decode prog_4_method_17_code 45 = .ok (.goto (-41), 3) := by decide +kernel
theorem d_Ge_openSet_48 : decode prog_4_method_17_code 48 = .ok (.iload_n 1, 1) := by decide +kernel
theorem d_Ge_openSet_49 : decode prog_4_method_17_code 49 = .ok (.ireturn, 1) := by decide +kernel
theorem d_Ge_wholeTeeth_0 : decode prog_4_method_18_code 0 = .ok (.aload_n 0, 1) := by decide +kernel
theorem d_Ge_wholeTeeth_1 : decode prog_4_method_18_code 1 = .ok (.getfield 22, 3) := by decide +kernel
theorem d_Ge_wholeTeeth_4 : decode prog_4_method_18_code 4 = .ok (.iload_n 1, 1) := by decide +kernel
theorem d_Ge_wholeTeeth_5 : decode prog_4_method_18_code 5 = .ok (.laload, 1) := by decide +kernel
theorem d_Ge_wholeTeeth_6 : decode prog_4_method_18_code 6 = .ok (.lconst 0, 1) := by decide +kernel
theorem d_Ge_wholeTeeth_7 : decode prog_4_method_18_code 7 = .ok (.lcmp, 1) := by decide +kernel
theorem d_Ge_wholeTeeth_8 : decode prog_4_method_18_code 8 = .ok (.ifCond .le 24, 3) := by decide +kernel
theorem d_Ge_wholeTeeth_11 : decode prog_4_method_18_code 11 = .ok (.aload_n 0, 1) := by decide +kernel
theorem d_Ge_wholeTeeth_12 : decode prog_4_method_18_code 12 = .ok (.getfield 31, 3) := by decide +kernel
theorem d_Ge_wholeTeeth_15 : decode prog_4_method_18_code 15 = .ok (.getfield 117, 3) := by decide +kernel
theorem d_Ge_wholeTeeth_18 : decode prog_4_method_18_code 18 = .ok (.iload_n 1, 1) := by decide +kernel
theorem d_Ge_wholeTeeth_19 : decode prog_4_method_18_code 19 = .ok (.laload, 1) := by decide +kernel
theorem d_Ge_wholeTeeth_20 : decode prog_4_method_18_code 20 = .ok (.aload_n 0, 1) := by decide +kernel
theorem d_Ge_wholeTeeth_21 : decode prog_4_method_18_code 21 = .ok (.getfield 22, 3) := by decide +kernel
theorem d_Ge_wholeTeeth_24 : decode prog_4_method_18_code 24 = .ok (.iload_n 1, 1) := by decide +kernel
theorem d_Ge_wholeTeeth_25 : decode prog_4_method_18_code 25 = .ok (.laload, 1) := by decide +kernel
theorem d_Ge_wholeTeeth_26 : decode prog_4_method_18_code 26 = .ok (.invokestatic 141, 3) := by decide +kernel
theorem d_Ge_wholeTeeth_29 : decode prog_4_method_18_code 29 = .ok (.goto 4, 3) := by decide +kernel
theorem d_Ge_wholeTeeth_32 : decode prog_4_method_18_code 32 = .ok (.lconst 0, 1) := by decide +kernel
theorem d_Ge_wholeTeeth_33 : decode prog_4_method_18_code 33 = .ok (.lreturn, 1) := by decide +kernel
theorem d_Ge_keepSpots_0 : decode prog_4_method_19_code 0 = .ok (.aload_n 0, 1) := by decide +kernel
theorem d_Ge_keepSpots_1 : decode prog_4_method_19_code 1 = .ok (.getfield 31, 3) := by decide +kernel
theorem d_Ge_keepSpots_4 : decode prog_4_method_19_code 4 = .ok (.getfield 117, 3) := by decide +kernel
theorem d_Ge_keepSpots_7 : decode prog_4_method_19_code 7 = .ok (.iconst 0, 1) := by decide +kernel
theorem d_Ge_keepSpots_8 : decode prog_4_method_19_code 8 = .ok (.aload_n 0, 1) := by decide +kernel
theorem d_Ge_keepSpots_9 : decode prog_4_method_19_code 9 = .ok (.getfield 28, 3) := by decide +kernel
theorem d_Ge_keepSpots_12 : decode prog_4_method_19_code 12 = .ok (.iconst 0, 1) := by decide +kernel
theorem d_Ge_keepSpots_13 : decode prog_4_method_19_code 13 = .ok (.bipush 12, 2) := by decide +kernel
theorem d_Ge_keepSpots_15 : decode prog_4_method_19_code 15 = .ok (.invokestatic 144, 3) := by decide +kernel
theorem d_Ge_keepSpots_18 : decode prog_4_method_19_code 18 = .ok (.return_, 1) := by decide +kernel
theorem d_Ge_takeSpotsBack_0 : decode prog_4_method_20_code 0 = .ok (.aload_n 0, 1) := by decide +kernel
theorem d_Ge_takeSpotsBack_1 : decode prog_4_method_20_code 1 = .ok (.getfield 28, 3) := by decide +kernel
theorem d_Ge_takeSpotsBack_4 : decode prog_4_method_20_code 4 = .ok (.iconst 0, 1) := by decide +kernel
theorem d_Ge_takeSpotsBack_5 : decode prog_4_method_20_code 5 = .ok (.aload_n 0, 1) := by decide +kernel
theorem d_Ge_takeSpotsBack_6 : decode prog_4_method_20_code 6 = .ok (.getfield 31, 3) := by decide +kernel
theorem d_Ge_takeSpotsBack_9 : decode prog_4_method_20_code 9 = .ok (.getfield 117, 3) := by decide +kernel
theorem d_Ge_takeSpotsBack_12 : decode prog_4_method_20_code 12 = .ok (.iconst 0, 1) := by decide +kernel
theorem d_Ge_takeSpotsBack_13 : decode prog_4_method_20_code 13 = .ok (.bipush 12, 2) := by decide +kernel
theorem d_Ge_takeSpotsBack_15 : decode prog_4_method_20_code 15 = .ok (.invokestatic 144, 3) := by decide +kernel
theorem d_Ge_takeSpotsBack_18 : decode prog_4_method_20_code 18 = .ok (.return_, 1) := by decide +kernel
theorem d_Pl_solve_0 : decode prog_5_method_2_code 0 = .ok (.iconst 0, 1) := by decide +kernel
theorem d_Pl_solve_1 : decode prog_5_method_2_code 1 = .ok (.istore 4, 2) := by decide +kernel
theorem d_Pl_solve_3 : decode prog_5_method_2_code 3 = .ok (.iconst 0, 1) := by decide +kernel
theorem d_Pl_solve_4 : decode prog_5_method_2_code 4 = .ok (.istore 5, 2) := by decide +kernel
theorem d_Pl_solve_6 : decode prog_5_method_2_code 6 = .ok (.aload_n 0, 1) := by decide +kernel
theorem d_Pl_solve_7 : decode prog_5_method_2_code 7 = .ok (.bipush (-2), 2) := by decide +kernel
theorem d_Pl_solve_9 : decode prog_5_method_2_code 9 = .ok (.putfield 33, 3) := by decide +kernel
theorem d_Pl_solve_12 : decode prog_5_method_2_code 12 = .ok (.iconst 0, 1) := by decide +kernel
theorem d_Pl_solve_13 : decode prog_5_method_2_code 13 = .ok (.istore 6, 2) := by decide +kernel
theorem d_Pl_solve_15 : decode prog_5_method_2_code 15 = .ok (.iload 6, 2) := by decide +kernel
theorem d_Pl_solve_17 : decode prog_5_method_2_code 17 = .ok (.aload_n 0, 1) := by decide +kernel
theorem d_Pl_solve_18 : decode prog_5_method_2_code 18 = .ok (.getfield 25, 3) := by decide +kernel
theorem d_Pl_solve_21 : decode prog_5_method_2_code 21 = .ok (.getfield 37, 3) := by decide +kernel
theorem d_Pl_solve_24 : decode prog_5_method_2_code 24 = .ok (.if_icmp .ge 97, 3) := by decide +kernel
theorem d_Pl_solve_27 : decode prog_5_method_2_code 27 = .ok (.aload_n 0, 1) := by decide +kernel
theorem d_Pl_solve_28 : decode prog_5_method_2_code 28 = .ok (.getfield 29, 3) := by decide +kernel
theorem d_Pl_solve_31 : decode prog_5_method_2_code 31 = .ok (.getfield 42, 3) := by decide +kernel
theorem d_Pl_solve_34 : decode prog_5_method_2_code 34 = .ok (.iload 6, 2) := by decide +kernel
theorem d_Pl_solve_36 : decode prog_5_method_2_code 36 = .ok (.iaload, 1) := by decide +kernel
theorem d_Pl_solve_37 : decode prog_5_method_2_code 37 = .ok (.iload 6, 2) := by decide +kernel
theorem d_Pl_solve_39 : decode prog_5_method_2_code 39 = .ok (.if_icmp .ne 76, 3) := by decide +kernel
theorem d_Pl_solve_42 : decode prog_5_method_2_code 42 = .ok (.aload_n 0, 1) := by decide +kernel
theorem d_Pl_solve_43 : decode prog_5_method_2_code 43 = .ok (.iload 6, 2) := by decide +kernel
theorem d_Pl_solve_45 : decode prog_5_method_2_code 45 = .ok (.iload_n 1, 1) := by decide +kernel
theorem d_Pl_solve_46 : decode prog_5_method_2_code 46 = .ok (.iload_n 2, 1) := by decide +kernel
theorem d_Pl_solve_47 : decode prog_5_method_2_code 47 = .ok (.invokevirtual 47, 3) := by decide +kernel
theorem d_Pl_solve_50 : decode prog_5_method_2_code 50 = .ok (.aload_n 0, 1) := by decide +kernel
theorem d_Pl_solve_51 : decode prog_5_method_2_code 51 = .ok (.lconst 0, 1) := by decide +kernel
theorem d_Pl_solve_52 : decode prog_5_method_2_code 52 = .ok (.invokevirtual 51, 3) := by decide +kernel
theorem d_Pl_solve_55 : decode prog_5_method_2_code 55 = .ok (.ifCond .eq 7, 3) := by decide +kernel
theorem d_Pl_solve_58 : decode prog_5_method_2_code 58 = .ok (.iconst 0, 1) := by decide +kernel
theorem d_Pl_solve_59 : decode prog_5_method_2_code 59 = .ok (.goto 7, 3) := by decide +kernel
theorem d_Pl_solve_62 : decode prog_5_method_2_code 62 = .ok (.aload_n 0, 1) := by decide +kernel
theorem d_Pl_solve_63 : decode prog_5_method_2_code 63 = .ok (.invokevirtual 55, 3) := by decide +kernel
theorem d_Pl_solve_66 : decode prog_5_method_2_code 66 = .ok (.istore 7, 2) := by decide +kernel
theorem d_Pl_solve_68 : decode prog_5_method_2_code 68 = .ok (.iload 7, 2) := by decide +kernel
theorem d_Pl_solve_70 : decode prog_5_method_2_code 70 = .ok (.bipush (-2), 2) := by decide +kernel
theorem d_Pl_solve_72 : decode prog_5_method_2_code 72 = .ok (.if_icmp .ne 6, 3) := by decide +kernel
theorem d_Pl_solve_75 : decode prog_5_method_2_code 75 = .ok (.bipush (-2), 2) := by decide +kernel
theorem d_Pl_solve_77 : decode prog_5_method_2_code 77 = .ok (.ireturn, 1) := by decide +kernel
theorem d_Pl_solve_78 : decode prog_5_method_2_code 78 = .ok (.iload 5, 2) := by decide +kernel
theorem d_Pl_solve_80 : decode prog_5_method_2_code 80 = .ok (.iload 7, 2) := by decide +kernel
theorem d_Pl_solve_82 : decode prog_5_method_2_code 82 = .ok (.bipush (-3), 2) := by decide +kernel
theorem d_Pl_solve_84 : decode prog_5_method_2_code 84 = .ok (.if_icmp .ne 7, 3) := by decide +kernel
theorem d_Pl_solve_87 : decode prog_5_method_2_code 87 = .ok (.iconst 1, 1) := by decide +kernel
theorem d_Pl_solve_88 : decode prog_5_method_2_code 88 = .ok (.goto 4, 3) := by decide +kernel
theorem d_Pl_solve_91 : decode prog_5_method_2_code 91 = .ok (.iconst 0, 1) := by decide +kernel
theorem d_Pl_solve_92 : decode prog_5_method_2_code 92 = .ok (.ior, 1) := by decide +kernel
theorem d_Pl_solve_93 : decode prog_5_method_2_code 93 = .ok (.istore 5, 2) := by decide +kernel
theorem d_Pl_solve_95 : decode prog_5_method_2_code 95 = .ok (.iload 7, 2) := by decide +kernel
theorem d_Pl_solve_97 : decode prog_5_method_2_code 97 = .ok (.ifCond .le 18, 3) := by decide +kernel
theorem d_Pl_solve_100 : decode prog_5_method_2_code 100 = .ok (.iload 4, 2) := by decide +kernel
theorem d_Pl_solve_102 : decode prog_5_method_2_code 102 = .ok (.aload_n 0, 1) := by decide +kernel
theorem d_Pl_solve_103 : decode prog_5_method_2_code 103 = .ok (.iload 7, 2) := by decide +kernel
theorem d_Pl_solve_105 : decode prog_5_method_2_code 105 = .ok (.iload_n 3, 1) := by decide +kernel
theorem d_Pl_solve_106 : decode prog_5_method_2_code 106 = .ok (.iload 4, 2) := by decide +kernel
theorem d_Pl_solve_108 : decode prog_5_method_2_code 108 = .ok (.isub, 1) := by decide +kernel
theorem d_Pl_solve_109 : decode prog_5_method_2_code 109 = .ok (.invokevirtual 59, 3) := by decide +kernel
theorem d_Pl_solve_112 : decode prog_5_method_2_code 112 = .ok (.iadd, 1) := by decide +kernel
theorem d_Pl_solve_113 : decode prog_5_method_2_code 113 = .ok (.istore 4, 2) := by decide +kernel
theorem d_Pl_solve_115 : decode prog_5_method_2_code 115 = .ok (.iinc 6 1, 3) := by decide +kernel
theorem d_Pl_solve_118 : decode prog_5_method_2_code 118 = .ok (.goto (-103), 3) := by decide +kernel
theorem d_Pl_solve_121 : decode prog_5_method_2_code 121 = .ok (.iload 5, 2) := by decide +kernel
theorem d_Pl_solve_123 : decode prog_5_method_2_code 123 = .ok (.ifCond .eq 8, 3) := by decide +kernel
theorem d_Pl_solve_126 : decode prog_5_method_2_code 126 = .ok (.bipush (-3), 2) := by decide +kernel
theorem d_Pl_solve_128 : decode prog_5_method_2_code 128 = .ok (.goto 5, 3) := by decide +kernel
theorem d_Pl_solve_131 : decode prog_5_method_2_code 131 = .ok (.iload 4, 2) := by decide +kernel
theorem d_Pl_solve_133 : decode prog_5_method_2_code 133 = .ok (.ireturn, 1) := by decide +kernel
theorem d_Pl_choose_0 : decode prog_5_method_3_code 0 = .ok (.aload_n 0, 1) := by decide +kernel
theorem d_Pl_choose_1 : decode prog_5_method_3_code 1 = .ok (.getfield 29, 3) := by decide +kernel
theorem d_Pl_choose_4 : decode prog_5_method_3_code 4 = .ok (.iload_n 1, 1) := by decide +kernel
theorem d_Pl_choose_5 : decode prog_5_method_3_code 5 = .ok (.invokevirtual 63, 3) := by decide +kernel
theorem d_Pl_choose_8 : decode prog_5_method_3_code 8 = .ok (.istore 4, 2) := by decide +kernel
theorem d_Pl_choose_10 : decode prog_5_method_3_code 10 = .ok (.aload_n 0, 1) := by decide +kernel
theorem d_Pl_choose_11 : decode prog_5_method_3_code 11 = .ok (.iload_n 1, 1) := by decide +kernel
theorem d_Pl_choose_12 : decode prog_5_method_3_code 12 = .ok (.putfield 67, 3) := by decide +kernel
theorem d_Pl_choose_15 : decode prog_5_method_3_code 15 = .ok (.aload_n 0, 1) := by decide +kernel
theorem d_Pl_choose_16 : decode prog_5_method_3_code 16 = .ok (.aload_n 0, 1) := by decide +kernel
theorem d_Pl_choose_17 : decode prog_5_method_3_code 17 = .ok (.getfield 25, 3) := by decide +kernel
theorem d_Pl_choose_20 : decode prog_5_method_3_code 20 = .ok (.getfield 70, 3) := by decide +kernel
theorem d_Pl_choose_23 : decode prog_5_method_3_code 23 = .ok (.iload 4, 2) := by decide +kernel
theorem d_Pl_choose_25 : decode prog_5_method_3_code 25 = .ok (.iand, 1) := by decide +kernel
theorem d_Pl_choose_26 : decode prog_5_method_3_code 26 = .ok (.putfield 73, 3) := by decide +kernel
theorem d_Pl_choose_29 : decode prog_5_method_3_code 29 = .ok (.aload_n 0, 1) := by decide +kernel
theorem d_Pl_choose_30 : decode prog_5_method_3_code 30 = .ok (.aload_n 0, 1) := by decide +kernel
theorem d_Pl_choose_31 : decode prog_5_method_3_code 31 = .ok (.getfield 25, 3) := by decide +kernel
theorem d_Pl_choose_34 : decode prog_5_method_3_code 34 = .ok (.getfield 74, 3) := by decide +kernel
theorem d_Pl_choose_37 : decode prog_5_method_3_code 37 = .ok (.iload 4, 2) := by decide +kernel
theorem d_Pl_choose_39 : decode prog_5_method_3_code 39 = .ok (.iand, 1) := by decide +kernel
theorem d_Pl_choose_40 : decode prog_5_method_3_code 40 = .ok (.putfield 77, 3) := by decide +kernel
theorem d_Pl_choose_43 : decode prog_5_method_3_code 43 = .ok (.aload_n 0, 1) := by decide +kernel
theorem d_Pl_choose_44 : decode prog_5_method_3_code 44 = .ok (.iload_n 3, 1) := by decide +kernel
theorem d_Pl_choose_45 : decode prog_5_method_3_code 45 = .ok (.iload 4, 2) := by decide +kernel
theorem d_Pl_choose_47 : decode prog_5_method_3_code 47 = .ok (.iand, 1) := by decide +kernel
theorem d_Pl_choose_48 : decode prog_5_method_3_code 48 = .ok (.putfield 78, 3) := by decide +kernel
theorem d_Pl_choose_51 : decode prog_5_method_3_code 51 = .ok (.aload_n 0, 1) := by decide +kernel
theorem d_Pl_choose_52 : decode prog_5_method_3_code 52 = .ok (.iconst 0, 1) := by decide +kernel
theorem d_Pl_choose_53 : decode prog_5_method_3_code 53 = .ok (.putfield 81, 3) := by decide +kernel
theorem d_Pl_choose_56 : decode prog_5_method_3_code 56 = .ok (.iconst 0, 1) := by decide +kernel
theorem d_Pl_choose_57 : decode prog_5_method_3_code 57 = .ok (.istore 5, 2) := by decide +kernel
theorem d_Pl_choose_59 : decode prog_5_method_3_code 59 = .ok (.iload 5, 2) := by decide +kernel
theorem d_Pl_choose_61 : decode prog_5_method_3_code 61 = .ok (.aload_n 0, 1) := by decide +kernel
theorem d_Pl_choose_62 : decode prog_5_method_3_code 62 = .ok (.getfield 25, 3) := by decide +kernel
theorem d_Pl_choose_65 : decode prog_5_method_3_code 65 = .ok (.getfield 37, 3) := by decide +kernel
theorem d_Pl_choose_68 : decode prog_5_method_3_code 68 = .ok (.if_icmp .ge 79, 3) := by decide +kernel
theorem d_Pl_choose_71 : decode prog_5_method_3_code 71 = .ok (.iload_n 2, 1) := by decide +kernel
theorem d_Pl_choose_72 : decode prog_5_method_3_code 72 = .ok (.iload 4, 2) := by decide +kernel
theorem d_Pl_choose_74 : decode prog_5_method_3_code 74 = .ok (.iand, 1) := by decide +kernel
theorem d_Pl_choose_75 : decode prog_5_method_3_code 75 = .ok (.iload 5, 2) := by decide +kernel
theorem d_Pl_choose_77 : decode prog_5_method_3_code 77 = .ok (.invokestatic 84, 3) := by decide +kernel
theorem d_Pl_choose_80 : decode prog_5_method_3_code 80 = .ok (.iconst 1, 1) := by decide +kernel
theorem d_Pl_choose_81 : decode prog_5_method_3_code 81 = .ok (.if_icmp .ne 30, 3) := by decide +kernel
theorem d_Pl_choose_84 : decode prog_5_method_3_code 84 = .ok (.aload_n 0, 1) := by decide +kernel
theorem d_Pl_choose_85 : decode prog_5_method_3_code 85 = .ok (.getfield 25, 3) := by decide +kernel
theorem d_Pl_choose_88 : decode prog_5_method_3_code 88 = .ok (.getfield 87, 3) := by decide +kernel
theorem d_Pl_choose_91 : decode prog_5_method_3_code 91 = .ok (.aload_n 0, 1) := by decide +kernel
theorem d_Pl_choose_92 : decode prog_5_method_3_code 92 = .ok (.getfield 29, 3) := by decide +kernel
theorem d_Pl_choose_95 : decode prog_5_method_3_code 95 = .ok (.getfield 90, 3) := by decide +kernel
theorem d_Pl_choose_98 : decode prog_5_method_3_code 98 = .ok (.ior, 1) := by decide +kernel
theorem d_Pl_choose_99 : decode prog_5_method_3_code 99 = .ok (.iload 5, 2) := by decide +kernel
theorem d_Pl_choose_101 : decode prog_5_method_3_code 101 = .ok (.invokestatic 84, 3) := by decide +kernel
theorem d_Pl_choose_104 : decode prog_5_method_3_code 104 = .ok (.ifCond .ne 7, 3) := by decide +kernel
theorem d_Pl_choose_107 : decode prog_5_method_3_code 107 = .ok (.iconst 1, 1) := by decide +kernel
theorem d_Pl_choose_108 : decode prog_5_method_3_code 108 = .ok (.goto 4, 3) := by decide +kernel
theorem d_Pl_choose_111 : decode prog_5_method_3_code 111 = .ok (.iconst 0, 1) := by decide +kernel
theorem d_Pl_choose_112 : decode prog_5_method_3_code 112 = .ok (.istore 6, 2) := by decide +kernel
theorem d_Pl_choose_114 : decode prog_5_method_3_code 114 = .ok (.iload 6, 2) := by decide +kernel
theorem d_Pl_choose_116 : decode prog_5_method_3_code 116 = .ok (.ifCond .eq 25, 3) := by decide +kernel
theorem d_Pl_choose_119 : decode prog_5_method_3_code 119 = .ok (.aload_n 0, 1) := by decide +kernel
theorem d_Pl_choose_120 : decode prog_5_method_3_code 120 = .ok (.iload 5, 2) := by decide +kernel
theorem d_Pl_choose_122 : decode prog_5_method_3_code 122 = .ok (.invokevirtual 93, 3) := by decide +kernel
theorem d_Pl_choose_125 : decode prog_5_method_3_code 125 = .ok (.ifCond .ne 16, 3) := by decide +kernel
theorem d_Pl_choose_128 : decode prog_5_method_3_code 128 = .ok (.aload_n 0, 1) := by decide +kernel
theorem d_Pl_choose_129 : decode prog_5_method_3_code 129 = .ok (.dup, 1) := by decide +kernel
theorem d_Pl_choose_130 : decode prog_5_method_3_code 130 = .ok (.getfield 81, 3) := by decide +kernel
theorem d_Pl_choose_133 : decode prog_5_method_3_code 133 = .ok (.iconst 1, 1) := by decide +kernel
theorem d_Pl_choose_134 : decode prog_5_method_3_code 134 = .ok (.iload 5, 2) := by decide +kernel
theorem d_Pl_choose_136 : decode prog_5_method_3_code 136 = .ok (.ishl, 1) := by decide +kernel
theorem d_Pl_choose_137 : decode prog_5_method_3_code 137 = .ok (.ior, 1) := by decide +kernel
theorem d_Pl_choose_138 : decode prog_5_method_3_code 138 = .ok (.putfield 81, 3) := by decide +kernel
theorem d_Pl_choose_141 : decode prog_5_method_3_code 141 = .ok (.iinc 5 1, 3) := by decide +kernel
theorem d_Pl_choose_144 : decode prog_5_method_3_code 144 = .ok (.goto (-85), 3) := by decide +kernel
theorem d_Pl_choose_147 : decode prog_5_method_3_code 147 = .ok (.aload_n 0, 1) := by decide +kernel
theorem d_Pl_choose_148 : decode prog_5_method_3_code 148 = .ok (.iload 4, 2) := by decide +kernel
theorem d_Pl_choose_150 : decode prog_5_method_3_code 150 = .ok (.invokevirtual 97, 3) := by decide +kernel
theorem d_Pl_choose_153 : decode prog_5_method_3_code 153 = .ok (.return_, 1) := by decide +kernel
theorem d_Pl_isPushedAlike_0 : decode prog_5_method_4_code 0 = .ok (.aload_n 0, 1) := by decide +kernel
theorem d_Pl_isPushedAlike_1 : decode prog_5_method_4_code 1 = .ok (.getfield 29, 3) := by decide +kernel
theorem d_Pl_isPushedAlike_4 : decode prog_5_method_4_code 4 = .ok (.iload_n 1, 1) := by decide +kernel
theorem d_Pl_isPushedAlike_5 : decode prog_5_method_4_code 5 = .ok (.aload_n 0, 1) := by decide +kernel
theorem d_Pl_isPushedAlike_6 : decode prog_5_method_4_code 6 = .ok (.getfield 67, 3) := by decide +kernel
theorem d_Pl_isPushedAlike_9 : decode prog_5_method_4_code 9 = .ok (.invokevirtual 101, 3) := by decide +kernel
theorem d_Pl_isPushedAlike_12 : decode prog_5_method_4_code 12 = .ok (.invokestatic 105, 3) := by decide +kernel
theorem d_Pl_isPushedAlike_15 : decode prog_5_method_4_code 15 = .ok (.lstore_n 2, 1) := by decide +kernel
theorem d_Pl_isPushedAlike_16 : decode prog_5_method_4_code 16 = .ok (.iconst 0, 1) := by decide +kernel
theorem d_Pl_isPushedAlike_17 : decode prog_5_method_4_code 17 = .ok (.istore 4, 2) := by decide +kernel
theorem d_Pl_isPushedAlike_19 : decode prog_5_method_4_code 19 = .ok (.iload 4, 2) := by decide +kernel
theorem d_Pl_isPushedAlike_21 : decode prog_5_method_4_code 21 = .ok (.iload_n 1, 1) := by decide +kernel
theorem d_Pl_isPushedAlike_22 : decode prog_5_method_4_code 22 = .ok (.if_icmp .ge 45, 3) := by decide +kernel
theorem d_Pl_isPushedAlike_25 : decode prog_5_method_4_code 25 = .ok (.aload_n 0, 1) := by decide +kernel
theorem d_Pl_isPushedAlike_26 : decode prog_5_method_4_code 26 = .ok (.getfield 81, 3) := by decide +kernel
theorem d_Pl_isPushedAlike_29 : decode prog_5_method_4_code 29 = .ok (.iload 4, 2) := by decide +kernel
theorem d_Pl_isPushedAlike_31 : decode prog_5_method_4_code 31 = .ok (.invokestatic 84, 3) := by decide +kernel
theorem d_Pl_isPushedAlike_34 : decode prog_5_method_4_code 34 = .ok (.iconst 1, 1) := by decide +kernel
theorem d_Pl_isPushedAlike_35 : decode prog_5_method_4_code 35 = .ok (.if_icmp .ne 26, 3) := by decide +kernel
theorem d_Pl_isPushedAlike_38 : decode prog_5_method_4_code 38 = .ok (.aload_n 0, 1) := by decide +kernel
theorem d_Pl_isPushedAlike_39 : decode prog_5_method_4_code 39 = .ok (.getfield 29, 3) := by decide +kernel
theorem d_Pl_isPushedAlike_42 : decode prog_5_method_4_code 42 = .ok (.iload 4, 2) := by decide +kernel
theorem d_Pl_isPushedAlike_44 : decode prog_5_method_4_code 44 = .ok (.aload_n 0, 1) := by decide +kernel
theorem d_Pl_isPushedAlike_45 : decode prog_5_method_4_code 45 = .ok (.getfield 67, 3) := by decide +kernel
theorem d_Pl_isPushedAlike_48 : decode prog_5_method_4_code 48 = .ok (.invokevirtual 101, 3) := by decide +kernel
theorem d_Pl_isPushedAlike_51 : decode prog_5_method_4_code 51 = .ok (.invokestatic 105, 3) := by decide +kernel
theorem d_Pl_isPushedAlike_54 : decode prog_5_method_4_code 54 = .ok (.lload_n 2, 1) := by decide +kernel
theorem d_Pl_isPushedAlike_55 : decode prog_5_method_4_code 55 = .ok (.lcmp, 1) := by decide +kernel
theorem d_Pl_isPushedAlike_56 : decode prog_5_method_4_code 56 = .ok (.ifCond .ne 5, 3) := by decide +kernel
theorem d_Pl_isPushedAlike_59 : decode prog_5_method_4_code 59 = .ok (.iconst 1, 1) := by decide +kernel
theorem d_Pl_isPushedAlike_60 : decode prog_5_method_4_code 60 = .ok (.ireturn, 1) := by decide +kernel
theorem d_Pl_isPushedAlike_61 : decode prog_5_method_4_code 61 = .ok (.iinc 4 1, 3) := by decide +kernel
theorem d_Pl_isPushedAlike_64 : decode prog_5_method_4_code 64 = .ok (.goto (-45), 3) := by decide +kernel
theorem d_Pl_isPushedAlike_67 : decode prog_5_method_4_code 67 = .ok (.iconst 0, 1) := by decide +kernel
theorem d_Pl_isPushedAlike_68 : decode prog_5_method_4_code 68 = .ok (.ireturn, 1) := by decide +kernel
theorem d_Pl_bound_0 : decode prog_5_method_5_code 0 = .ok (.aload_n 0, 1) := by decide +kernel
theorem d_Pl_bound_1 : decode prog_5_method_5_code 1 = .ok (.ldc2_w 111, 3) := by decide +kernel
theorem d_Pl_bound_4 : decode prog_5_method_5_code 4 = .ok (.putfield 113, 3) := by decide +kernel
theorem d_Pl_bound_7 : decode prog_5_method_5_code 7 = .ok (.aload_n 0, 1) := by decide +kernel
theorem d_Pl_bound_8 : decode prog_5_method_5_code 8 = .ok (.ldc2_w 117, 3) := by decide +kernel
theorem d_Pl_bound_11 : decode prog_5_method_5_code 11 = .ok (.putfield 119, 3) := by decide +kernel
theorem d_Pl_bound_14 : decode prog_5_method_5_code 14 = .ok (.iconst 0, 1) := by decide +kernel
theorem d_Pl_bound_15 : decode prog_5_method_5_code 15 = .ok (.istore_n 2, 1) := by decide +kernel
theorem d_Pl_bound_16 : decode prog_5_method_5_code 16 = .ok (.iload_n 2, 1) := by decide +kernel
theorem d_Pl_bound_17 : decode prog_5_method_5_code 17 = .ok (.aload_n 0, 1) := by decide +kernel
theorem d_Pl_bound_18 : decode prog_5_method_5_code 18 = .ok (.getfield 25, 3) := by decide +kernel
theorem d_Pl_bound_21 : decode prog_5_method_5_code 21 = .ok (.getfield 37, 3) := by decide +kernel
theorem d_Pl_bound_24 : decode prog_5_method_5_code 24 = .ok (.if_icmp .ge 180, 3) := by decide +kernel
theorem d_Pl_bound_27 : decode prog_5_method_5_code 27 = .ok (.aload_n 0, 1) := by decide +kernel
theorem d_Pl_bound_28 : decode prog_5_method_5_code 28 = .ok (.getfield 29, 3) := by decide +kernel
theorem d_Pl_bound_31 : decode prog_5_method_5_code 31 = .ok (.aload_n 0, 1) := by decide +kernel
theorem d_Pl_bound_32 : decode prog_5_method_5_code 32 = .ok (.getfield 67, 3) := by decide +kernel
theorem d_Pl_bound_35 : decode prog_5_method_5_code 35 = .ok (.iload_n 2, 1) := by decide +kernel
theorem d_Pl_bound_36 : decode prog_5_method_5_code 36 = .ok (.invokevirtual 101, 3) := by decide +kernel
theorem d_Pl_bound_39 : decode prog_5_method_5_code 39 = .ok (.lstore_n 3, 1) := by decide +kernel
theorem d_Pl_bound_40 : decode prog_5_method_5_code 40 = .ok (.iload_n 1, 1) := by decide +kernel
theorem d_Pl_bound_41 : decode prog_5_method_5_code 41 = .ok (.iload_n 2, 1) := by decide +kernel
theorem d_Pl_bound_42 : decode prog_5_method_5_code 42 = .ok (.invokestatic 84, 3) := by decide +kernel
theorem d_Pl_bound_45 : decode prog_5_method_5_code 45 = .ok (.iconst 1, 1) := by decide +kernel
theorem d_Pl_bound_46 : decode prog_5_method_5_code 46 = .ok (.if_icmp .ne 152, 3) := by decide +kernel
theorem d_Pl_bound_49 : decode prog_5_method_5_code 49 = .ok (.aload_n 0, 1) := by decide +kernel
theorem d_Pl_bound_50 : decode prog_5_method_5_code 50 = .ok (.getfield 25, 3) := by decide +kernel
theorem d_Pl_bound_53 : decode prog_5_method_5_code 53 = .ok (.getfield 122, 3) := by decide +kernel
theorem d_Pl_bound_56 : decode prog_5_method_5_code 56 = .ok (.iload_n 2, 1) := by decide +kernel
theorem d_Pl_bound_57 : decode prog_5_method_5_code 57 = .ok (.iaload, 1) := by decide +kernel
theorem d_Pl_bound_58 : decode prog_5_method_5_code 58 = .ok (.ifCond .le 140, 3) := by decide +kernel
theorem d_Pl_bound_61 : decode prog_5_method_5_code 61 = .ok (.lload_n 3, 1) := by decide +kernel
theorem d_Pl_bound_62 : decode prog_5_method_5_code 62 = .ok (.lconst 0, 1) := by decide +kernel
theorem d_Pl_bound_63 : decode prog_5_method_5_code 63 = .ok (.lcmp, 1) := by decide +kernel
theorem d_Pl_bound_64 : decode prog_5_method_5_code 64 = .ok (.ifCond .eq 134, 3) := by decide +kernel
theorem d_Pl_bound_67 : decode prog_5_method_5_code 67 = .ok (.aload_n 0, 1) := by decide +kernel
theorem d_Pl_bound_68 : decode prog_5_method_5_code 68 = .ok (.getfield 25, 3) := by decide +kernel
theorem d_Pl_bound_71 : decode prog_5_method_5_code 71 = .ok (.getfield 125, 3) := by decide +kernel
theorem d_Pl_bound_74 : decode prog_5_method_5_code 74 = .ok (.iload_n 2, 1) := by decide +kernel
theorem d_Pl_bound_75 : decode prog_5_method_5_code 75 = .ok (.laload, 1) := by decide +kernel
theorem d_Pl_bound_76 : decode prog_5_method_5_code 76 = .ok (.aload_n 0, 1) := by decide +kernel
theorem d_Pl_bound_77 : decode prog_5_method_5_code 77 = .ok (.getfield 29, 3) := by decide +kernel
theorem d_Pl_bound_80 : decode prog_5_method_5_code 80 = .ok (.getfield 128, 3) := by decide +kernel
theorem d_Pl_bound_83 : decode prog_5_method_5_code 83 = .ok (.aload_n 0, 1) := by decide +kernel
theorem d_Pl_bound_84 : decode prog_5_method_5_code 84 = .ok (.getfield 67, 3) := by decide +kernel
theorem d_Pl_bound_87 : decode prog_5_method_5_code 87 = .ok (.laload, 1) := by decide +kernel
theorem d_Pl_bound_88 : decode prog_5_method_5_code 88 = .ok (.lmul, 1) := by decide +kernel
theorem d_Pl_bound_89 : decode prog_5_method_5_code 89 = .ok (.lstore 5, 2) := by decide +kernel
theorem d_Pl_bound_91 : decode prog_5_method_5_code 91 = .ok (.aload_n 0, 1) := by decide +kernel
theorem d_Pl_bound_92 : decode prog_5_method_5_code 92 = .ok (.getfield 25, 3) := by decide +kernel
theorem d_Pl_bound_95 : decode prog_5_method_5_code 95 = .ok (.getfield 122, 3) := by decide +kernel
theorem d_Pl_bound_98 : decode prog_5_method_5_code 98 = .ok (.iload_n 2, 1) := by decide +kernel
theorem d_Pl_bound_99 : decode prog_5_method_5_code 99 = .ok (.iaload, 1) := by decide +kernel
theorem d_Pl_bound_100 : decode prog_5_method_5_code 100 = .ok (.i2l, 1) := by decide +kernel
theorem d_Pl_bound_101 : decode prog_5_method_5_code 101 = .ok (.aload_n 0, 1) := by decide +kernel
theorem d_Pl_bound_102 : decode prog_5_method_5_code 102 = .ok (.getfield 29, 3) := by decide +kernel
theorem d_Pl_bound_105 : decode prog_5_method_5_code 105 = .ok (.getfield 128, 3) := by decide +kernel
theorem d_Pl_bound_108 : decode prog_5_method_5_code 108 = .ok (.iload_n 2, 1) := by decide +kernel
theorem d_Pl_bound_109 : decode prog_5_method_5_code 109 = .ok (.laload, 1) := by decide +kernel
theorem d_Pl_bound_110 : decode prog_5_method_5_code 110 = .ok (.lmul, 1) := by decide +kernel
theorem d_Pl_bound_111 : decode prog_5_method_5_code 111 = .ok (.aload_n 0, 1) := by decide +kernel
theorem d_Pl_bound_112 : decode prog_5_method_5_code 112 = .ok (.getfield 29, 3) := by decide +kernel
theorem d_Pl_bound_115 : decode prog_5_method_5_code 115 = .ok (.getfield 128, 3) := by decide +kernel
theorem d_Pl_bound_118 : decode prog_5_method_5_code 118 = .ok (.aload_n 0, 1) := by decide +kernel
theorem d_Pl_bound_119 : decode prog_5_method_5_code 119 = .ok (.getfield 67, 3) := by decide +kernel
theorem d_Pl_bound_122 : decode prog_5_method_5_code 122 = .ok (.laload, 1) := by decide +kernel
theorem d_Pl_bound_123 : decode prog_5_method_5_code 123 = .ok (.lmul, 1) := by decide +kernel
theorem d_Pl_bound_124 : decode prog_5_method_5_code 124 = .ok (.lload 5, 2) := by decide +kernel
theorem d_Pl_bound_126 : decode prog_5_method_5_code 126 = .ok (.lsub, 1) := by decide +kernel
theorem d_Pl_bound_127 : decode prog_5_method_5_code 127 = .ok (.lstore 7, 2) := by decide +kernel
theorem d_Pl_bound_129 : decode prog_5_method_5_code 129 = .ok (.lload_n 3, 1) := by decide +kernel
theorem d_Pl_bound_130 : decode prog_5_method_5_code 130 = .ok (.invokestatic 105, 3) := by decide +kernel
theorem d_Pl_bound_133 : decode prog_5_method_5_code 133 = .ok (.lstore 9, 2) := by decide +kernel
theorem d_Pl_bound_135 : decode prog_5_method_5_code 135 = .ok (.lload_n 3, 1) := by decide +kernel
theorem d_Pl_bound_136 : decode prog_5_method_5_code 136 = .ok (.lconst 0, 1) := by decide +kernel
theorem d_Pl_bound_137 : decode prog_5_method_5_code 137 = .ok (.lcmp, 1) := by decide +kernel
theorem d_Pl_bound_138 : decode prog_5_method_5_code 138 = .ok (.ifCond .le 8, 3) := by decide +kernel
theorem d_Pl_bound_141 : decode prog_5_method_5_code 141 = .ok (.lload 7, 2) := by decide +kernel
theorem d_Pl_bound_143 : decode prog_5_method_5_code 143 = .ok (.goto 5, 3) := by decide +kernel
theorem d_Pl_bound_146 : decode prog_5_method_5_code 146 = .ok (.lload 5, 2) := by decide +kernel
theorem d_Pl_bound_148 : decode prog_5_method_5_code 148 = .ok (.lload 9, 2) := by decide +kernel
theorem d_Pl_bound_150 : decode prog_5_method_5_code 150 = .ok (.ldiv, 1) := by decide +kernel
theorem d_Pl_bound_151 : decode prog_5_method_5_code 151 = .ok (.lstore 11, 2) := by decide +kernel
theorem d_Pl_bound_153 : decode prog_5_method_5_code 153 = .ok (.lload_n 3, 1) := by decide +kernel
theorem d_Pl_bound_154 : decode prog_5_method_5_code 154 = .ok (.lconst 0, 1) := by decide +kernel
theorem d_Pl_bound_155 : decode prog_5_method_5_code 155 = .ok (.lcmp, 1) := by decide +kernel
theorem d_Pl_bound_156 : decode prog_5_method_5_code 156 = .ok (.ifCond .le 8, 3) := by decide +kernel
theorem d_Pl_bound_159 : decode prog_5_method_5_code 159 = .ok (.lload 5, 2) := by decide +kernel
theorem d_Pl_bound_161 : decode prog_5_method_5_code 161 = .ok (.goto 5, 3) := by decide +kernel
theorem d_Pl_bound_164 : decode prog_5_method_5_code 164 = .ok (.lload 7, 2) := by decide +kernel
theorem d_Pl_bound_166 : decode prog_5_method_5_code 166 = .ok (.lload 9, 2) := by decide +kernel
theorem d_Pl_bound_168 : decode prog_5_method_5_code 168 = .ok (.ldiv, 1) := by decide +kernel
theorem d_Pl_bound_169 : decode prog_5_method_5_code 169 = .ok (.lstore 13, 2) := by decide +kernel
theorem d_Pl_bound_171 : decode prog_5_method_5_code 171 = .ok (.aload_n 0, 1) := by decide +kernel
theorem d_Pl_bound_172 : decode prog_5_method_5_code 172 = .ok (.aload_n 0, 1) := by decide +kernel
theorem d_Pl_bound_173 : decode prog_5_method_5_code 173 = .ok (.getfield 119, 3) := by decide +kernel
theorem d_Pl_bound_176 : decode prog_5_method_5_code 176 = .ok (.lload 11, 2) := by decide +kernel
theorem d_Pl_bound_178 : decode prog_5_method_5_code 178 = .ok (.invokestatic 131, 3) := by decide +kernel
theorem d_Pl_bound_181 : decode prog_5_method_5_code 181 = .ok (.putfield 119, 3) := by decide +kernel
theorem d_Pl_bound_184 : decode prog_5_method_5_code 184 = .ok (.aload_n 0, 1) := by decide +kernel
theorem d_Pl_bound_185 : decode prog_5_method_5_code 185 = .ok (.aload_n 0, 1) := by decide +kernel
theorem d_Pl_bound_186 : decode prog_5_method_5_code 186 = .ok (.getfield 113, 3) := by decide +kernel
theorem d_Pl_bound_189 : decode prog_5_method_5_code 189 = .ok (.lload 13, 2) := by decide +kernel
theorem d_Pl_bound_191 : decode prog_5_method_5_code 191 = .ok (.lneg, 1) := by decide +kernel
theorem d_Pl_bound_192 : decode prog_5_method_5_code 192 = .ok (.invokestatic 135, 3) := by decide +kernel
theorem d_Pl_bound_195 : decode prog_5_method_5_code 195 = .ok (.putfield 113, 3) := by decide +kernel
theorem d_Pl_bound_198 : decode prog_5_method_5_code 198 = .ok (.iinc 2 1, 3) := by decide +kernel
theorem d_Pl_bound_201 : decode prog_5_method_5_code 201 = .ok (.goto (-185), 3) := by decide +kernel
theorem d_Pl_bound_204 : decode prog_5_method_5_code 204 = .ok (.return_, 1) := by decide +kernel
theorem d_Pl_search_0 : decode prog_5_method_6_code 0 = .ok (.aload_n 0, 1) := by decide +kernel
theorem d_Pl_search_1 : decode prog_5_method_6_code 1 = .ok (.getfield 22, 3) := by decide +kernel
theorem d_Pl_search_4 : decode prog_5_method_6_code 4 = .ok (.iconst 0, 1) := by decide +kernel
theorem d_Pl_search_5 : decode prog_5_method_6_code 5 = .ok (.invokestatic 138, 3) := by decide +kernel
theorem d_Pl_search_8 : decode prog_5_method_6_code 8 = .ok (.aload_n 0, 1) := by decide +kernel
theorem d_Pl_search_9 : decode prog_5_method_6_code 9 = .ok (.iconst 0, 1) := by decide +kernel
theorem d_Pl_search_10 : decode prog_5_method_6_code 10 = .ok (.putfield 144, 3) := by decide +kernel
theorem d_Pl_search_13 : decode prog_5_method_6_code 13 = .ok (.aload_n 0, 1) := by decide +kernel
theorem d_Pl_search_14 : decode prog_5_method_6_code 14 = .ok (.lconst 0, 1) := by decide +kernel
theorem d_Pl_search_15 : decode prog_5_method_6_code 15 = .ok (.invokevirtual 147, 3) := by decide +kernel
theorem d_Pl_search_18 : decode prog_5_method_6_code 18 = .ok (.pop, 1) := by decide +kernel
theorem d_Pl_search_19 : decode prog_5_method_6_code 19 = .ok (.aload_n 0, 1) := by decide +kernel
theorem d_Pl_search_20 : decode prog_5_method_6_code 20 = .ok (.lconst 0, 1) := by decide +kernel
theorem d_Pl_search_21 : decode prog_5_method_6_code 21 = .ok (.iconst (-1), 1) := by decide +kernel
theorem d_Pl_search_22 : decode prog_5_method_6_code 22 = .ok (.iconst 0, 1) := by decide +kernel
theorem d_Pl_search_23 : decode prog_5_method_6_code 23 = .ok (.invokevirtual 150, 3) := by decide +kernel
theorem d_Pl_search_26 : decode prog_5_method_6_code 26 = .ok (.iconst 0, 1) := by decide +kernel
theorem d_Pl_search_27 : decode prog_5_method_6_code 27 = .ok (.istore_n 1, 1) := by decide +kernel
theorem d_Pl_search_28 : decode prog_5_method_6_code 28 = .ok (.iload_n 1, 1) := by decide +kernel
theorem d_Pl_search_29 : decode prog_5_method_6_code 29 = .ok (.aload_n 0, 1) := by decide +kernel
theorem d_Pl_search_30 : decode prog_5_method_6_code 30 = .ok (.getfield 144, 3) := by decide +kernel
theorem d_Pl_search_33 : decode prog_5_method_6_code 33 = .ok (.if_icmp .ge 67, 3) := by decide +kernel
theorem d_Pl_search_36 : decode prog_5_method_6_code 36 = .ok (.iload_n 1, 1) := by decide +kernel
theorem d_Pl_search_37 : decode prog_5_method_6_code 37 = .ok (.sipush 2000, 3) := by decide +kernel
theorem d_Pl_search_40 : decode prog_5_method_6_code 40 = .ok (.if_icmp .ge 60, 3) := by decide +kernel
theorem d_Pl_search_43 : decode prog_5_method_6_code 43 = .ok (.iconst 0, 1) := by decide +kernel
theorem d_Pl_search_44 : decode prog_5_method_6_code 44 = .ok (.istore_n 2, 1) := by decide +kernel
theorem d_Pl_search_45 : decode prog_5_method_6_code 45 = .ok (.iload_n 2, 1) := by decide +kernel
theorem d_Pl_search_46 : decode prog_5_method_6_code 46 = .ok (.aload_n 0, 1) := by decide +kernel
theorem d_Pl_search_47 : decode prog_5_method_6_code 47 = .ok (.getfield 25, 3) := by decide +kernel
theorem d_Pl_search_50 : decode prog_5_method_6_code 50 = .ok (.getfield 37, 3) := by decide +kernel
theorem d_Pl_search_53 : decode prog_5_method_6_code 53 = .ok (.if_icmp .ge 41, 3) := by decide +kernel
theorem d_Pl_search_56 : decode prog_5_method_6_code 56 = .ok (.aload_n 0, 1) := by decide +kernel
theorem d_Pl_search_57 : decode prog_5_method_6_code 57 = .ok (.getfield 81, 3) := by decide +kernel
theorem d_Pl_search_60 : decode prog_5_method_6_code 60 = .ok (.iload_n 2, 1) := by decide +kernel
theorem d_Pl_search_61 : decode prog_5_method_6_code 61 = .ok (.invokestatic 84, 3) := by decide +kernel
theorem d_Pl_search_64 : decode prog_5_method_6_code 64 = .ok (.iconst 1, 1) := by decide +kernel
theorem d_Pl_search_65 : decode prog_5_method_6_code 65 = .ok (.if_icmp .ne 12, 3) := by decide +kernel
theorem d_Pl_search_68 : decode prog_5_method_6_code 68 = .ok (.aload_n 0, 1) := by decide +kernel
theorem d_Pl_search_69 : decode prog_5_method_6_code 69 = .ok (.iload_n 1, 1) := by decide +kernel
theorem d_Pl_search_70 : decode prog_5_method_6_code 70 = .ok (.iload_n 2, 1) := by decide +kernel
theorem d_Pl_search_71 : decode prog_5_method_6_code 71 = .ok (.invokevirtual 154, 3) := by decide +kernel
theorem d_Pl_search_74 : decode prog_5_method_6_code 74 = .ok (.goto 5, 3) := by decide +kernel
theorem d_Pl_search_77 : decode prog_5_method_6_code 77 = .ok (.bipush (-4), 2) := by decide +kernel
theorem d_Pl_search_79 : decode prog_5_method_6_code 79 = .ok (.istore_n 3, 1) := by decide +kernel
theorem d_Pl_search_80 : decode prog_5_method_6_code 80 = .ok (.iload_n 3, 1) := by decide +kernel
theorem d_Pl_search_81 : decode prog_5_method_6_code 81 = .ok (.bipush (-4), 2) := by decide +kernel
theorem d_Pl_search_83 : decode prog_5_method_6_code 83 = .ok (.if_icmp .eq 5, 3) := by decide +kernel
theorem d_Pl_search_86 : decode prog_5_method_6_code 86 = .ok (.iload_n 3, 1) := by decide +kernel
theorem d_Pl_search_87 : decode prog_5_method_6_code 87 = .ok (.ireturn, 1) := by decide +kernel
theorem d_Pl_search_88 : decode prog_5_method_6_code 88 = .ok (.iinc 2 1, 3) := by decide +kernel
theorem d_Pl_search_91 : decode prog_5_method_6_code 91 = .ok (.goto (-46), 3) := by decide +kernel
theorem d_Pl_search_94 : decode prog_5_method_6_code 94 = .ok (.iinc 1 1, 3) := by decide +kernel
theorem d_Pl_search_97 : decode prog_5_method_6_code 97 = .ok (.goto (-69), 3) := by decide +kernel
theorem d_Pl_search_100 : decode prog_5_method_6_code 100 = .ok (.bipush (-2), 2) := by decide +kernel
theorem d_Pl_search_102 : decode prog_5_method_6_code 102 = .ok (.ireturn, 1) := by decide +kernel
theorem d_Pl_spread_0 : decode prog_5_method_7_code 0 = .ok (.aload_n 0, 1) := by decide +kernel
theorem d_Pl_spread_1 : decode prog_5_method_7_code 1 = .ok (.getfield 29, 3) := by decide +kernel
theorem d_Pl_spread_4 : decode prog_5_method_7_code 4 = .ok (.iload_n 2, 1) := by decide +kernel
theorem d_Pl_spread_5 : decode prog_5_method_7_code 5 = .ok (.aload_n 0, 1) := by decide +kernel
theorem d_Pl_spread_6 : decode prog_5_method_7_code 6 = .ok (.getfield 67, 3) := by decide +kernel
theorem d_Pl_spread_9 : decode prog_5_method_7_code 9 = .ok (.invokevirtual 101, 3) := by decide +kernel
theorem d_Pl_spread_12 : decode prog_5_method_7_code 12 = .ok (.lstore_n 3, 1) := by decide +kernel
theorem d_Pl_spread_13 : decode prog_5_method_7_code 13 = .ok (.bipush (-60), 2) := by decide +kernel
theorem d_Pl_spread_15 : decode prog_5_method_7_code 15 = .ok (.istore 5, 2) := by decide +kernel
theorem d_Pl_spread_17 : decode prog_5_method_7_code 17 = .ok (.iload 5, 2) := by decide +kernel
theorem d_Pl_spread_19 : decode prog_5_method_7_code 19 = .ok (.bipush 60, 2) := by decide +kernel
theorem d_Pl_spread_21 : decode prog_5_method_7_code 21 = .ok (.if_icmp .gt 111, 3) := by decide +kernel
theorem d_Pl_spread_24 : decode prog_5_method_7_code 24 = .ok (.aload_n 0, 1) := by decide +kernel
theorem d_Pl_spread_25 : decode prog_5_method_7_code 25 = .ok (.getfield 11, 3) := by decide +kernel
theorem d_Pl_spread_28 : decode prog_5_method_7_code 28 = .ok (.iload_n 1, 1) := by decide +kernel
theorem d_Pl_spread_29 : decode prog_5_method_7_code 29 = .ok (.laload, 1) := by decide +kernel
theorem d_Pl_spread_30 : decode prog_5_method_7_code 30 = .ok (.iload 5, 2) := by decide +kernel
theorem d_Pl_spread_32 : decode prog_5_method_7_code 32 = .ok (.i2l, 1) := by decide +kernel
theorem d_Pl_spread_33 : decode prog_5_method_7_code 33 = .ok (.lload_n 3, 1) := by decide +kernel
theorem d_Pl_spread_34 : decode prog_5_method_7_code 34 = .ok (.lmul, 1) := by decide +kernel
theorem d_Pl_spread_35 : decode prog_5_method_7_code 35 = .ok (.ladd, 1) := by decide +kernel
theorem d_Pl_spread_36 : decode prog_5_method_7_code 36 = .ok (.lstore 6, 2) := by decide +kernel
theorem d_Pl_spread_38 : decode prog_5_method_7_code 38 = .ok (.lload 6, 2) := by decide +kernel
theorem d_Pl_spread_40 : decode prog_5_method_7_code 40 = .ok (.aload_n 0, 1) := by decide +kernel
theorem d_Pl_spread_41 : decode prog_5_method_7_code 41 = .ok (.getfield 113, 3) := by decide +kernel
theorem d_Pl_spread_44 : decode prog_5_method_7_code 44 = .ok (.lcmp, 1) := by decide +kernel
theorem d_Pl_spread_45 : decode prog_5_method_7_code 45 = .ok (.ifCond .lt 81, 3) := by decide +kernel
theorem d_Pl_spread_48 : decode prog_5_method_7_code 48 = .ok (.lload 6, 2) := by decide +kernel
theorem d_Pl_spread_50 : decode prog_5_method_7_code 50 = .ok (.aload_n 0, 1) := by decide +kernel
theorem d_Pl_spread_51 : decode prog_5_method_7_code 51 = .ok (.getfield 119, 3) := by decide +kernel
theorem d_Pl_spread_54 : decode prog_5_method_7_code 54 = .ok (.lcmp, 1) := by decide +kernel
theorem d_Pl_spread_55 : decode prog_5_method_7_code 55 = .ok (.ifCond .gt 71, 3) := by decide +kernel
theorem d_Pl_spread_58 : decode prog_5_method_7_code 58 = .ok (.aload_n 0, 1) := by decide +kernel
theorem d_Pl_spread_59 : decode prog_5_method_7_code 59 = .ok (.lload 6, 2) := by decide +kernel
theorem d_Pl_spread_61 : decode prog_5_method_7_code 61 = .ok (.invokevirtual 147, 3) := by decide +kernel
theorem d_Pl_spread_64 : decode prog_5_method_7_code 64 = .ok (.ifCond .ne 62, 3) := by decide +kernel
theorem d_Pl_spread_67 : decode prog_5_method_7_code 67 = .ok (.aload_n 0, 1) := by decide +kernel
theorem d_Pl_spread_68 : decode prog_5_method_7_code 68 = .ok (.lload 6, 2) := by decide +kernel
theorem d_Pl_spread_70 : decode prog_5_method_7_code 70 = .ok (.invokevirtual 157, 3) := by decide +kernel
theorem d_Pl_spread_73 : decode prog_5_method_7_code 73 = .ok (.ifCond .eq 6, 3) := by decide +kernel
theorem d_Pl_spread_76 : decode prog_5_method_7_code 76 = .ok (.goto 50, 3) := by decide +kernel
theorem d_Pl_spread_79 : decode prog_5_method_7_code 79 = .ok (.aload_n 0, 1) := by decide +kernel
theorem d_Pl_spread_80 : decode prog_5_method_7_code 80 = .ok (.getfield 144, 3) := by decide +kernel
theorem d_Pl_spread_83 : decode prog_5_method_7_code 83 = .ok (.sipush 2000, 3) := by decide +kernel
theorem d_Pl_spread_86 : decode prog_5_method_7_code 86 = .ok (.if_icmp .lt 6, 3) := by decide +kernel
theorem d_Pl_spread_89 : decode prog_5_method_7_code 89 = .ok (.bipush (-3), 2) := by decide +kernel
theorem d_Pl_spread_91 : decode prog_5_method_7_code 91 = .ok (.ireturn, 1) := by decide +kernel
theorem d_Pl_spread_92 : decode prog_5_method_7_code 92 = .ok (.aload_n 0, 1) := by decide +kernel
theorem d_Pl_spread_93 : decode prog_5_method_7_code 93 = .ok (.lload 6, 2) := by decide +kernel
theorem d_Pl_spread_95 : decode prog_5_method_7_code 95 = .ok (.iload_n 1, 1) := by decide +kernel
theorem d_Pl_spread_96 : decode prog_5_method_7_code 96 = .ok (.sipush 1000, 3) := by decide +kernel
theorem d_Pl_spread_99 : decode prog_5_method_7_code 99 = .ok (.iload_n 2, 1) := by decide +kernel
theorem d_Pl_spread_100 : decode prog_5_method_7_code 100 = .ok (.imul, 1) := by decide +kernel
theorem d_Pl_spread_101 : decode prog_5_method_7_code 101 = .ok (.bipush 100, 2) := by decide +kernel
theorem d_Pl_spread_103 : decode prog_5_method_7_code 103 = .ok (.iadd, 1) := by decide +kernel
theorem d_Pl_spread_104 : decode prog_5_method_7_code 104 = .ok (.iload 5, 2) := by decide +kernel
theorem d_Pl_spread_106 : decode prog_5_method_7_code 106 = .ok (.iadd, 1) := by decide +kernel
theorem d_Pl_spread_107 : decode prog_5_method_7_code 107 = .ok (.invokevirtual 150, 3) := by decide +kernel
theorem d_Pl_spread_110 : decode prog_5_method_7_code 110 = .ok (.aload_n 0, 1) := by decide +kernel
theorem d_Pl_spread_111 : decode prog_5_method_7_code 111 = .ok (.lload 6, 2) := by decide +kernel
theorem d_Pl_spread_113 : decode prog_5_method_7_code 113 = .ok (.invokevirtual 51, 3) := by decide +kernel
theorem d_Pl_spread_116 : decode prog_5_method_7_code 116 = .ok (.ifCond .eq 10, 3) := by decide +kernel
theorem d_Pl_spread_119 : decode prog_5_method_7_code 119 = .ok (.aload_n 0, 1) := by decide +kernel
theorem d_Pl_spread_120 : decode prog_5_method_7_code 120 = .ok (.getfield 144, 3) := by decide +kernel
theorem d_Pl_spread_123 : decode prog_5_method_7_code 123 = .ok (.iconst 1, 1) := by decide +kernel
theorem d_Pl_spread_124 : decode prog_5_method_7_code 124 = .ok (.isub, 1) := by decide +kernel
theorem d_Pl_spread_125 : decode prog_5_method_7_code 125 = .ok (.ireturn, 1) := by decide +kernel
theorem d_Pl_spread_126 : decode prog_5_method_7_code 126 = .ok (.iinc 5 1, 3) := by decide +kernel
theorem d_Pl_spread_129 : decode prog_5_method_7_code 129 = .ok (.goto (-112), 3) := by decide +kernel
theorem d_Pl_spread_132 : decode prog_5_method_7_code 132 = .ok (.bipush (-4), 2) := by decide +kernel
theorem d_Pl_spread_134 : decode prog_5_method_7_code 134 = .ok (.ireturn, 1) := by decide +kernel
theorem d_Pl_isKnown_0 : decode prog_5_method_8_code 0 = .ok (.lload_n 1, 1) := by decide +kernel
theorem d_Pl_isKnown_1 : decode prog_5_method_8_code 1 = .ok (.ldc2_w 160, 3) := by decide +kernel
theorem d_Pl_isKnown_4 : decode prog_5_method_8_code 4 = .ok (.lmul, 1) := by decide +kernel
theorem d_Pl_isKnown_5 : decode prog_5_method_8_code 5 = .ok (.bipush 52, 2) := by decide +kernel
theorem d_Pl_isKnown_7 : decode prog_5_method_8_code 7 = .ok (.lushr, 1) := by decide +kernel
theorem d_Pl_isKnown_8 : decode prog_5_method_8_code 8 = .ok (.l2i, 1) := by decide +kernel
theorem d_Pl_isKnown_9 : decode prog_5_method_8_code 9 = .ok (.istore_n 3, 1) := by decide +kernel
theorem d_Pl_isKnown_10 : decode prog_5_method_8_code 10 = .ok (.iconst 0, 1) := by decide +kernel
theorem d_Pl_isKnown_11 : decode prog_5_method_8_code 11 = .ok (.istore 4, 2) := by decide +kernel
theorem d_Pl_isKnown_13 : decode prog_5_method_8_code 13 = .ok (.iload 4, 2) := by decide +kernel
theorem d_Pl_isKnown_15 : decode prog_5_method_8_code 15 = .ok (.sipush 4096, 3) := by decide +kernel
theorem d_Pl_isKnown_18 : decode prog_5_method_8_code 18 = .ok (.if_icmp .ge 53, 3) := by decide +kernel
theorem d_Pl_isKnown_21 : decode prog_5_method_8_code 21 = .ok (.aload_n 0, 1) := by decide +kernel
theorem d_Pl_isKnown_22 : decode prog_5_method_8_code 22 = .ok (.getfield 22, 3) := by decide +kernel
theorem d_Pl_isKnown_25 : decode prog_5_method_8_code 25 = .ok (.iload_n 3, 1) := by decide +kernel
theorem d_Pl_isKnown_26 : decode prog_5_method_8_code 26 = .ok (.iaload, 1) := by decide +kernel
theorem d_Pl_isKnown_27 : decode prog_5_method_8_code 27 = .ok (.istore 5, 2) := by decide +kernel
theorem d_Pl_isKnown_29 : decode prog_5_method_8_code 29 = .ok (.iload 5, 2) := by decide +kernel
theorem d_Pl_isKnown_31 : decode prog_5_method_8_code 31 = .ok (.ifCond .ne 10, 3) := by decide +kernel
theorem d_Pl_isKnown_34 : decode prog_5_method_8_code 34 = .ok (.aload_n 0, 1) := by decide +kernel
theorem d_Pl_isKnown_35 : decode prog_5_method_8_code 35 = .ok (.iload_n 3, 1) := by decide +kernel
theorem d_Pl_isKnown_36 : decode prog_5_method_8_code 36 = .ok (.putfield 162, 3) := by decide +kernel
theorem d_Pl_isKnown_39 : decode prog_5_method_8_code 39 = .ok (.iconst 0, 1) := by decide +kernel
theorem d_Pl_isKnown_40 : decode prog_5_method_8_code 40 = .ok (.ireturn, 1) := by decide +kernel
theorem d_Pl_isKnown_41 : decode prog_5_method_8_code 41 = .ok (.aload_n 0, 1) := by decide +kernel
theorem d_Pl_isKnown_42 : decode prog_5_method_8_code 42 = .ok (.getfield 11, 3) := by decide +kernel
theorem d_Pl_isKnown_45 : decode prog_5_method_8_code 45 = .ok (.iload 5, 2) := by decide +kernel
theorem d_Pl_isKnown_47 : decode prog_5_method_8_code 47 = .ok (.iconst 1, 1) := by decide +kernel
theorem d_Pl_isKnown_48 : decode prog_5_method_8_code 48 = .ok (.isub, 1) := by decide +kernel
theorem d_Pl_isKnown_49 : decode prog_5_method_8_code 49 = .ok (.laload, 1) := by decide +kernel
theorem d_Pl_isKnown_50 : decode prog_5_method_8_code 50 = .ok (.lload_n 1, 1) := by decide +kernel
theorem d_Pl_isKnown_51 : decode prog_5_method_8_code 51 = .ok (.lcmp, 1) := by decide +kernel
theorem d_Pl_isKnown_52 : decode prog_5_method_8_code 52 = .ok (.ifCond .ne 5, 3) := by decide +kernel
theorem d_Pl_isKnown_55 : decode prog_5_method_8_code 55 = .ok (.iconst 1, 1) := by decide +kernel
theorem d_Pl_isKnown_56 : decode prog_5_method_8_code 56 = .ok (.ireturn, 1) := by decide +kernel
theorem d_Pl_isKnown_57 : decode prog_5_method_8_code 57 = .ok (.iload_n 3, 1) := by decide +kernel
theorem d_Pl_isKnown_58 : decode prog_5_method_8_code 58 = .ok (.iconst 1, 1) := by decide +kernel
theorem d_Pl_isKnown_59 : decode prog_5_method_8_code 59 = .ok (.iadd, 1) := by decide +kernel
theorem d_Pl_isKnown_60 : decode prog_5_method_8_code 60 = .ok (.sipush 4095, 3) := by decide +kernel
theorem d_Pl_isKnown_63 : decode prog_5_method_8_code 63 = .ok (.iand, 1) := by decide +kernel
theorem d_Pl_isKnown_64 : decode prog_5_method_8_code 64 = .ok (.istore_n 3, 1) := by decide +kernel
theorem d_Pl_isKnown_65 : decode prog_5_method_8_code 65 = .ok (.iinc 4 1, 3) := by decide +kernel
theorem d_Pl_isKnown_68 : decode prog_5_method_8_code 68 = .ok (.goto (-55), 3) := by decide +kernel
theorem d_Pl_isKnown_71 : decode prog_5_method_8_code 71 = .ok (.iconst 1, 1) := by decide +kernel
theorem d_Pl_isKnown_72 : decode prog_5_method_8_code 72 = .ok (.ireturn, 1) := by decide +kernel
theorem d_Pl_addState_0 : decode prog_5_method_9_code 0 = .ok (.aload_n 0, 1) := by decide +kernel
theorem d_Pl_addState_1 : decode prog_5_method_9_code 1 = .ok (.getfield 11, 3) := by decide +kernel
theorem d_Pl_addState_4 : decode prog_5_method_9_code 4 = .ok (.aload_n 0, 1) := by decide +kernel
theorem d_Pl_addState_5 : decode prog_5_method_9_code 5 = .ok (.getfield 144, 3) := by decide +kernel
theorem d_Pl_addState_8 : decode prog_5_method_9_code 8 = .ok (.lload_n 1, 1) := by decide +kernel
theorem d_Pl_addState_9 : decode prog_5_method_9_code 9 = .ok (.lastore, 1) := by decide +kernel
theorem d_Pl_addState_10 : decode prog_5_method_9_code 10 = .ok (.aload_n 0, 1) := by decide +kernel
theorem d_Pl_addState_11 : decode prog_5_method_9_code 11 = .ok (.getfield 15, 3) := by decide +kernel
theorem d_Pl_addState_14 : decode prog_5_method_9_code 14 = .ok (.aload_n 0, 1) := by decide +kernel
theorem d_Pl_addState_15 : decode prog_5_method_9_code 15 = .ok (.getfield 144, 3) := by decide +kernel
theorem d_Pl_addState_18 : decode prog_5_method_9_code 18 = .ok (.iload_n 3, 1) := by decide +kernel
theorem d_Pl_addState_19 : decode prog_5_method_9_code 19 = .ok (.iastore, 1) := by decide +kernel
theorem d_Pl_addState_20 : decode prog_5_method_9_code 20 = .ok (.aload_n 0, 1) := by decide +kernel
theorem d_Pl_addState_21 : decode prog_5_method_9_code 21 = .ok (.getfield 19, 3) := by decide +kernel
theorem d_Pl_addState_24 : decode prog_5_method_9_code 24 = .ok (.aload_n 0, 1) := by decide +kernel
theorem d_Pl_addState_25 : decode prog_5_method_9_code 25 = .ok (.getfield 144, 3) := by decide +kernel
theorem d_Pl_addState_28 : decode prog_5_method_9_code 28 = .ok (.iload 4, 2) := by decide +kernel
theorem d_Pl_addState_30 : decode prog_5_method_9_code 30 = .ok (.iastore, 1) := by decide +kernel
theorem d_Pl_addState_31 : decode prog_5_method_9_code 31 = .ok (.aload_n 0, 1) := by decide +kernel
theorem d_Pl_addState_32 : decode prog_5_method_9_code 32 = .ok (.dup, 1) := by decide +kernel
theorem d_Pl_addState_33 : decode prog_5_method_9_code 33 = .ok (.getfield 144, 3) := by decide +kernel
theorem d_Pl_addState_36 : decode prog_5_method_9_code 36 = .ok (.iconst 1, 1) := by decide +kernel
theorem d_Pl_addState_37 : decode prog_5_method_9_code 37 = .ok (.iadd, 1) := by decide +kernel
theorem d_Pl_addState_38 : decode prog_5_method_9_code 38 = .ok (.putfield 144, 3) := by decide +kernel
theorem d_Pl_addState_41 : decode prog_5_method_9_code 41 = .ok (.aload_n 0, 1) := by decide +kernel
theorem d_Pl_addState_42 : decode prog_5_method_9_code 42 = .ok (.getfield 22, 3) := by decide +kernel
theorem d_Pl_addState_45 : decode prog_5_method_9_code 45 = .ok (.aload_n 0, 1) := by decide +kernel
theorem d_Pl_addState_46 : decode prog_5_method_9_code 46 = .ok (.getfield 162, 3) := by decide +kernel
theorem d_Pl_addState_49 : decode prog_5_method_9_code 49 = .ok (.aload_n 0, 1) := by decide +kernel
theorem d_Pl_addState_50 : decode prog_5_method_9_code 50 = .ok (.getfield 144, 3) := by decide +kernel
theorem d_Pl_addState_53 : decode prog_5_method_9_code 53 = .ok (.iastore, 1) := by decide +kernel
theorem d_Pl_addState_54 : decode prog_5_method_9_code 54 = .ok (.return_, 1) := by decide +kernel
theorem d_Pl_isWatchedOpen_0 : decode prog_5_method_10_code 0 = .ok (.aload_n 0, 1) := by decide +kernel
theorem d_Pl_isWatchedOpen_1 : decode prog_5_method_10_code 1 = .ok (.getfield 67, 3) := by decide +kernel
theorem d_Pl_isWatchedOpen_4 : decode prog_5_method_10_code 4 = .ok (.istore_n 3, 1) := by decide +kernel
theorem d_Pl_isWatchedOpen_5 : decode prog_5_method_10_code 5 = .ok (.iload_n 3, 1) := by decide +kernel
theorem d_Pl_isWatchedOpen_6 : decode prog_5_method_10_code 6 = .ok (.aload_n 0, 1) := by decide +kernel
theorem d_Pl_isWatchedOpen_7 : decode prog_5_method_10_code 7 = .ok (.getfield 25, 3) := by decide +kernel
theorem d_Pl_isWatchedOpen_10 : decode prog_5_method_10_code 10 = .ok (.getfield 37, 3) := by decide +kernel
theorem d_Pl_isWatchedOpen_13 : decode prog_5_method_10_code 13 = .ok (.if_icmp .ge 32, 3) := by decide +kernel
theorem d_Pl_isWatchedOpen_16 : decode prog_5_method_10_code 16 = .ok (.aload_n 0, 1) := by decide +kernel
theorem d_Pl_isWatchedOpen_17 : decode prog_5_method_10_code 17 = .ok (.getfield 78, 3) := by decide +kernel
theorem d_Pl_isWatchedOpen_20 : decode prog_5_method_10_code 20 = .ok (.iload_n 3, 1) := by decide +kernel
theorem d_Pl_isWatchedOpen_21 : decode prog_5_method_10_code 21 = .ok (.invokestatic 84, 3) := by decide +kernel
theorem d_Pl_isWatchedOpen_24 : decode prog_5_method_10_code 24 = .ok (.iconst 1, 1) := by decide +kernel
theorem d_Pl_isWatchedOpen_25 : decode prog_5_method_10_code 25 = .ok (.if_icmp .ne 14, 3) := by decide +kernel
theorem d_Pl_isWatchedOpen_28 : decode prog_5_method_10_code 28 = .ok (.aload_n 0, 1) := by decide +kernel
theorem d_Pl_isWatchedOpen_29 : decode prog_5_method_10_code 29 = .ok (.iload_n 3, 1) := by decide +kernel
theorem d_Pl_isWatchedOpen_30 : decode prog_5_method_10_code 30 = .ok (.lload_n 1, 1) := by decide +kernel
theorem d_Pl_isWatchedOpen_31 : decode prog_5_method_10_code 31 = .ok (.invokevirtual 165, 3) := by decide +kernel
theorem d_Pl_isWatchedOpen_34 : decode prog_5_method_10_code 34 = .ok (.ifCond .eq 5, 3) := by decide +kernel
theorem d_Pl_isWatchedOpen_37 : decode prog_5_method_10_code 37 = .ok (.iconst 1, 1) := by decide +kernel
theorem d_Pl_isWatchedOpen_38 : decode prog_5_method_10_code 38 = .ok (.ireturn, 1) := by decide +kernel
theorem d_Pl_isWatchedOpen_39 : decode prog_5_method_10_code 39 = .ok (.iinc 3 1, 3) := by decide +kernel
theorem d_Pl_isWatchedOpen_42 : decode prog_5_method_10_code 42 = .ok (.goto (-37), 3) := by decide +kernel
theorem d_Pl_isWatchedOpen_45 : decode prog_5_method_10_code 45 = .ok (.iconst 0, 1) := by decide +kernel
theorem d_Pl_isWatchedOpen_46 : decode prog_5_method_10_code 46 = .ok (.ireturn, 1) := by decide +kernel
theorem d_Pl_isAsWanted_0 : decode prog_5_method_11_code 0 = .ok (.aload_n 0, 1) := by decide +kernel
theorem d_Pl_isAsWanted_1 : decode prog_5_method_11_code 1 = .ok (.getfield 67, 3) := by decide +kernel
theorem d_Pl_isAsWanted_4 : decode prog_5_method_11_code 4 = .ok (.istore_n 3, 1) := by decide +kernel
theorem d_Pl_isAsWanted_5 : decode prog_5_method_11_code 5 = .ok (.iload_n 3, 1) := by decide +kernel
theorem d_Pl_isAsWanted_6 : decode prog_5_method_11_code 6 = .ok (.aload_n 0, 1) := by decide +kernel
theorem d_Pl_isAsWanted_7 : decode prog_5_method_11_code 7 = .ok (.getfield 25, 3) := by decide +kernel
theorem d_Pl_isAsWanted_10 : decode prog_5_method_11_code 10 = .ok (.getfield 37, 3) := by decide +kernel
theorem d_Pl_isAsWanted_13 : decode prog_5_method_11_code 13 = .ok (.if_icmp .ge 78, 3) := by decide +kernel
theorem d_Pl_isAsWanted_16 : decode prog_5_method_11_code 16 = .ok (.aload_n 0, 1) := by decide +kernel
theorem d_Pl_isAsWanted_17 : decode prog_5_method_11_code 17 = .ok (.getfield 73, 3) := by decide +kernel
theorem d_Pl_isAsWanted_20 : decode prog_5_method_11_code 20 = .ok (.aload_n 0, 1) := by decide +kernel
theorem d_Pl_isAsWanted_21 : decode prog_5_method_11_code 21 = .ok (.getfield 77, 3) := by decide +kernel
theorem d_Pl_isAsWanted_24 : decode prog_5_method_11_code 24 = .ok (.ior, 1) := by decide +kernel
theorem d_Pl_isAsWanted_25 : decode prog_5_method_11_code 25 = .ok (.iload_n 3, 1) := by decide +kernel
theorem d_Pl_isAsWanted_26 : decode prog_5_method_11_code 26 = .ok (.invokestatic 84, 3) := by decide +kernel
theorem d_Pl_isAsWanted_29 : decode prog_5_method_11_code 29 = .ok (.iconst 1, 1) := by decide +kernel
theorem d_Pl_isAsWanted_30 : decode prog_5_method_11_code 30 = .ok (.if_icmp .ne 16, 3) := by decide +kernel
theorem d_Pl_isAsWanted_33 : decode prog_5_method_11_code 33 = .ok (.aload_n 0, 1) := by decide +kernel
theorem d_Pl_isAsWanted_34 : decode prog_5_method_11_code 34 = .ok (.iload_n 3, 1) := by decide +kernel
theorem d_Pl_isAsWanted_35 : decode prog_5_method_11_code 35 = .ok (.lload_n 1, 1) := by decide +kernel
theorem d_Pl_isAsWanted_36 : decode prog_5_method_11_code 36 = .ok (.invokevirtual 165, 3) := by decide +kernel
theorem d_Pl_isAsWanted_39 : decode prog_5_method_11_code 39 = .ok (.ifCond .eq 7, 3) := by decide +kernel
theorem d_Pl_isAsWanted_42 : decode prog_5_method_11_code 42 = .ok (.iconst 1, 1) := by decide +kernel
theorem d_Pl_isAsWanted_43 : decode prog_5_method_11_code 43 = .ok (.goto 4, 3) := by decide +kernel
theorem d_Pl_isAsWanted_46 : decode prog_5_method_11_code 46 = .ok (.iconst 0, 1) := by decide +kernel
theorem d_Pl_isAsWanted_47 : decode prog_5_method_11_code 47 = .ok (.istore 4, 2) := by decide +kernel
theorem d_Pl_isAsWanted_49 : decode prog_5_method_11_code 49 = .ok (.aload_n 0, 1) := by decide +kernel
theorem d_Pl_isAsWanted_50 : decode prog_5_method_11_code 50 = .ok (.getfield 73, 3) := by decide +kernel
theorem d_Pl_isAsWanted_53 : decode prog_5_method_11_code 53 = .ok (.iload_n 3, 1) := by decide +kernel
theorem d_Pl_isAsWanted_54 : decode prog_5_method_11_code 54 = .ok (.invokestatic 84, 3) := by decide +kernel
theorem d_Pl_isAsWanted_57 : decode prog_5_method_11_code 57 = .ok (.iconst 1, 1) := by decide +kernel
theorem d_Pl_isAsWanted_58 : decode prog_5_method_11_code 58 = .ok (.if_icmp .ne 8, 3) := by decide +kernel
theorem d_Pl_isAsWanted_61 : decode prog_5_method_11_code 61 = .ok (.iload 4, 2) := by decide +kernel
theorem d_Pl_isAsWanted_63 : decode prog_5_method_11_code 63 = .ok (.ifCond .eq 20, 3) := by decide +kernel
theorem d_Pl_isAsWanted_66 : decode prog_5_method_11_code 66 = .ok (.aload_n 0, 1) := by decide +kernel
theorem d_Pl_isAsWanted_67 : decode prog_5_method_11_code 67 = .ok (.getfield 77, 3) := by decide +kernel
theorem d_Pl_isAsWanted_70 : decode prog_5_method_11_code 70 = .ok (.iload_n 3, 1) := by decide +kernel
theorem d_Pl_isAsWanted_71 : decode prog_5_method_11_code 71 = .ok (.invokestatic 84, 3) := by decide +kernel
theorem d_Pl_isAsWanted_74 : decode prog_5_method_11_code 74 = .ok (.iconst 1, 1) := by decide +kernel
theorem d_Pl_isAsWanted_75 : decode prog_5_method_11_code 75 = .ok (.if_icmp .ne 10, 3) := by decide +kernel
theorem d_Pl_isAsWanted_78 : decode prog_5_method_11_code 78 = .ok (.iload 4, 2) := by decide +kernel
theorem d_Pl_isAsWanted_80 : decode prog_5_method_11_code 80 = .ok (.ifCond .eq 5, 3) := by decide +kernel
theorem d_Pl_isAsWanted_83 : decode prog_5_method_11_code 83 = .ok (.iconst 0, 1) := by decide +kernel
theorem d_Pl_isAsWanted_84 : decode prog_5_method_11_code 84 = .ok (.ireturn, 1) := by decide +kernel
theorem d_Pl_isAsWanted_85 : decode prog_5_method_11_code 85 = .ok (.iinc 3 1, 3) := by decide +kernel
theorem d_Pl_isAsWanted_88 : decode prog_5_method_11_code 88 = .ok (.goto (-83), 3) := by decide +kernel
theorem d_Pl_isAsWanted_91 : decode prog_5_method_11_code 91 = .ok (.iconst 1, 1) := by decide +kernel
theorem d_Pl_isAsWanted_92 : decode prog_5_method_11_code 92 = .ok (.ireturn, 1) := by decide +kernel
theorem d_Pl_isOpenBehind_0 : decode prog_5_method_12_code 0 = .ok (.aload_n 0, 1) := by decide +kernel
theorem d_Pl_isOpenBehind_1 : decode prog_5_method_12_code 1 = .ok (.getfield 29, 3) := by decide +kernel
theorem d_Pl_isOpenBehind_4 : decode prog_5_method_12_code 4 = .ok (.getfield 128, 3) := by decide +kernel
theorem d_Pl_isOpenBehind_7 : decode prog_5_method_12_code 7 = .ok (.aload_n 0, 1) := by decide +kernel
theorem d_Pl_isOpenBehind_8 : decode prog_5_method_12_code 8 = .ok (.getfield 67, 3) := by decide +kernel
theorem d_Pl_isOpenBehind_11 : decode prog_5_method_12_code 11 = .ok (.laload, 1) := by decide +kernel
theorem d_Pl_isOpenBehind_12 : decode prog_5_method_12_code 12 = .ok (.lstore 4, 2) := by decide +kernel
theorem d_Pl_isOpenBehind_14 : decode prog_5_method_12_code 14 = .ok (.lload 4, 2) := by decide +kernel
theorem d_Pl_isOpenBehind_16 : decode prog_5_method_12_code 16 = .ok (.lconst 0, 1) := by decide +kernel
theorem d_Pl_isOpenBehind_17 : decode prog_5_method_12_code 17 = .ok (.lcmp, 1) := by decide +kernel
theorem d_Pl_isOpenBehind_18 : decode prog_5_method_12_code 18 = .ok (.ifCond .le 23, 3) := by decide +kernel
theorem d_Pl_isOpenBehind_21 : decode prog_5_method_12_code 21 = .ok (.lload_n 2, 1) := by decide +kernel
theorem d_Pl_isOpenBehind_22 : decode prog_5_method_12_code 22 = .ok (.aload_n 0, 1) := by decide +kernel
theorem d_Pl_isOpenBehind_23 : decode prog_5_method_12_code 23 = .ok (.getfield 29, 3) := by decide +kernel
theorem d_Pl_isOpenBehind_26 : decode prog_5_method_12_code 26 = .ok (.aload_n 0, 1) := by decide +kernel
theorem d_Pl_isOpenBehind_27 : decode prog_5_method_12_code 27 = .ok (.getfield 67, 3) := by decide +kernel
theorem d_Pl_isOpenBehind_30 : decode prog_5_method_12_code 30 = .ok (.iload_n 1, 1) := by decide +kernel
theorem d_Pl_isOpenBehind_31 : decode prog_5_method_12_code 31 = .ok (.invokevirtual 101, 3) := by decide +kernel
theorem d_Pl_isOpenBehind_34 : decode prog_5_method_12_code 34 = .ok (.lmul, 1) := by decide +kernel
theorem d_Pl_isOpenBehind_35 : decode prog_5_method_12_code 35 = .ok (.lload 4, 2) := by decide +kernel
theorem d_Pl_isOpenBehind_37 : decode prog_5_method_12_code 37 = .ok (.ldiv, 1) := by decide +kernel
theorem d_Pl_isOpenBehind_38 : decode prog_5_method_12_code 38 = .ok (.goto 4, 3) := by decide +kernel
theorem d_Pl_isOpenBehind_41 : decode prog_5_method_12_code 41 = .ok (.lconst 0, 1) := by decide +kernel
theorem d_Pl_isOpenBehind_42 : decode prog_5_method_12_code 42 = .ok (.lstore 6, 2) := by decide +kernel
theorem d_Pl_isOpenBehind_44 : decode prog_5_method_12_code 44 = .ok (.aload_n 0, 1) := by decide +kernel
theorem d_Pl_isOpenBehind_45 : decode prog_5_method_12_code 45 = .ok (.getfield 29, 3) := by decide +kernel
theorem d_Pl_isOpenBehind_48 : decode prog_5_method_12_code 48 = .ok (.iload_n 1, 1) := by decide +kernel
theorem d_Pl_isOpenBehind_49 : decode prog_5_method_12_code 49 = .ok (.aload_n 0, 1) := by decide +kernel
theorem d_Pl_isOpenBehind_50 : decode prog_5_method_12_code 50 = .ok (.getfield 25, 3) := by decide +kernel
theorem d_Pl_isOpenBehind_53 : decode prog_5_method_12_code 53 = .ok (.getfield 125, 3) := by decide +kernel
theorem d_Pl_isOpenBehind_56 : decode prog_5_method_12_code 56 = .ok (.iload_n 1, 1) := by decide +kernel
theorem d_Pl_isOpenBehind_57 : decode prog_5_method_12_code 57 = .ok (.laload, 1) := by decide +kernel
theorem d_Pl_isOpenBehind_58 : decode prog_5_method_12_code 58 = .ok (.lload 6, 2) := by decide +kernel
theorem d_Pl_isOpenBehind_60 : decode prog_5_method_12_code 60 = .ok (.ladd, 1) := by decide +kernel
theorem d_Pl_isOpenBehind_61 : decode prog_5_method_12_code 61 = .ok (.invokevirtual 169, 3) := by decide +kernel
theorem d_Pl_isOpenBehind_64 : decode prog_5_method_12_code 64 = .ok (.ireturn, 1) := by decide +kernel
theorem d_Pl_followBack_0 : decode prog_5_method_13_code 0 = .ok (.iconst 0, 1) := by decide +kernel
theorem d_Pl_followBack_1 : decode prog_5_method_13_code 1 = .ok (.istore_n 3, 1) := by decide +kernel
theorem d_Pl_followBack_2 : decode prog_5_method_13_code 2 = .ok (.iload_n 1, 1) := by decide +kernel
theorem d_Pl_followBack_3 : decode prog_5_method_13_code 3 = .ok (.istore 4, 2) := by decide +kernel
theorem d_Pl_followBack_5 : decode prog_5_method_13_code 5 = .ok (.iload 4, 2) := by decide +kernel
theorem d_Pl_followBack_7 : decode prog_5_method_13_code 7 = .ok (.ifCond .le 25, 3) := by decide +kernel
theorem d_Pl_followBack_10 : decode prog_5_method_13_code 10 = .ok (.iload_n 3, 1) := by decide +kernel
theorem d_Pl_followBack_11 : decode prog_5_method_13_code 11 = .ok (.sipush 2000, 3) := by decide +kernel
theorem d_Pl_followBack_14 : decode prog_5_method_13_code 14 = .ok (.if_icmp .ge 18, 3) := by decide +kernel
theorem d_Pl_followBack_17 : decode prog_5_method_13_code 17 = .ok (.iinc 3 1, 3) := by decide +kernel
theorem d_Pl_followBack_20 : decode prog_5_method_13_code 20 = .ok (.aload_n 0, 1) := by decide +kernel
theorem d_Pl_followBack_21 : decode prog_5_method_13_code 21 = .ok (.getfield 15, 3) := by decide +kernel
theorem d_Pl_followBack_24 : decode prog_5_method_13_code 24 = .ok (.iload 4, 2) := by decide +kernel
theorem d_Pl_followBack_26 : decode prog_5_method_13_code 26 = .ok (.iaload, 1) := by decide +kernel
theorem d_Pl_followBack_27 : decode prog_5_method_13_code 27 = .ok (.istore 4, 2) := by decide +kernel
theorem d_Pl_followBack_29 : decode prog_5_method_13_code 29 = .ok (.goto (-24), 3) := by decide +kernel
theorem d_Pl_followBack_32 : decode prog_5_method_13_code 32 = .ok (.iload_n 1, 1) := by decide +kernel
theorem d_Pl_followBack_33 : decode prog_5_method_13_code 33 = .ok (.istore 4, 2) := by decide +kernel
theorem d_Pl_followBack_35 : decode prog_5_method_13_code 35 = .ok (.iload_n 3, 1) := by decide +kernel
theorem d_Pl_followBack_36 : decode prog_5_method_13_code 36 = .ok (.iconst 1, 1) := by decide +kernel
theorem d_Pl_followBack_37 : decode prog_5_method_13_code 37 = .ok (.isub, 1) := by decide +kernel
theorem d_Pl_followBack_38 : decode prog_5_method_13_code 38 = .ok (.istore 5, 2) := by decide +kernel
theorem d_Pl_followBack_40 : decode prog_5_method_13_code 40 = .ok (.iload 5, 2) := by decide +kernel
theorem d_Pl_followBack_42 : decode prog_5_method_13_code 42 = .ok (.ifCond .lt 40, 3) := by decide +kernel
theorem d_Pl_followBack_45 : decode prog_5_method_13_code 45 = .ok (.iload 4, 2) := by decide +kernel
theorem d_Pl_followBack_47 : decode prog_5_method_13_code 47 = .ok (.ifCond .le 35, 3) := by decide +kernel
theorem d_Pl_followBack_50 : decode prog_5_method_13_code 50 = .ok (.iload 5, 2) := by decide +kernel
theorem d_Pl_followBack_52 : decode prog_5_method_13_code 52 = .ok (.iload_n 2, 1) := by decide +kernel
theorem d_Pl_followBack_53 : decode prog_5_method_13_code 53 = .ok (.if_icmp .ne 14, 3) := by decide +kernel
theorem d_Pl_followBack_56 : decode prog_5_method_13_code 56 = .ok (.aload_n 0, 1) := by decide +kernel
theorem d_Pl_followBack_57 : decode prog_5_method_13_code 57 = .ok (.aload_n 0, 1) := by decide +kernel
theorem d_Pl_followBack_58 : decode prog_5_method_13_code 58 = .ok (.getfield 19, 3) := by decide +kernel
theorem d_Pl_followBack_61 : decode prog_5_method_13_code 61 = .ok (.iload 4, 2) := by decide +kernel
theorem d_Pl_followBack_63 : decode prog_5_method_13_code 63 = .ok (.iaload, 1) := by decide +kernel
theorem d_Pl_followBack_64 : decode prog_5_method_13_code 64 = .ok (.putfield 33, 3) := by decide +kernel
theorem d_Pl_followBack_67 : decode prog_5_method_13_code 67 = .ok (.aload_n 0, 1) := by decide +kernel
theorem d_Pl_followBack_68 : decode prog_5_method_13_code 68 = .ok (.getfield 15, 3) := by decide +kernel
theorem d_Pl_followBack_71 : decode prog_5_method_13_code 71 = .ok (.iload 4, 2) := by decide +kernel
theorem d_Pl_followBack_73 : decode prog_5_method_13_code 73 = .ok (.iaload, 1) := by decide +kernel
theorem d_Pl_followBack_74 : decode prog_5_method_13_code 74 = .ok (.istore 4, 2) := by decide +kernel
theorem d_Pl_followBack_76 : decode prog_5_method_13_code 76 = .ok (.iinc 5 (-1), 3) := by decide +kernel
theorem d_Pl_followBack_79 : decode prog_5_method_13_code 79 = .ok (.goto (-39), 3) := by decide +kernel
theorem d_Pl_followBack_82 : decode prog_5_method_13_code 82 = .ok (.iload_n 3, 1) := by decide +kernel
theorem d_Pl_followBack_83 : decode prog_5_method_13_code 83 = .ok (.ireturn, 1) := by decide +kernel
theorem d_Bo_startDraft_0 : decode prog_6_method_2_code 0 = .ok (.aload_n 0, 1) := by decide +kernel
theorem d_Bo_startDraft_1 : decode prog_6_method_2_code 1 = .ok (.getfield 26, 3) := by decide +kernel
theorem d_Bo_startDraft_4 : decode prog_6_method_2_code 4 = .ok (.bipush 6, 2) := by decide +kernel
theorem d_Bo_startDraft_6 : decode prog_6_method_2_code 6 = .ok (.if_icmp .ge 13, 3) := by decide +kernel
theorem d_Bo_startDraft_9 : decode prog_6_method_2_code 9 = .ok (.aload_n 0, 1) := by decide +kernel
theorem d_Bo_startDraft_10 : decode prog_6_method_2_code 10 = .ok (.getfield 15, 3) := by decide +kernel
theorem d_Bo_startDraft_13 : decode prog_6_method_2_code 13 = .ok (.aload_n 0, 1) := by decide +kernel
theorem d_Bo_startDraft_14 : decode prog_6_method_2_code 14 = .ok (.getfield 26, 3) := by decide +kernel
theorem d_Bo_startDraft_17 : decode prog_6_method_2_code 17 = .ok (.iconst 0, 1) := by decide +kernel
theorem d_Bo_startDraft_18 : decode prog_6_method_2_code 18 = .ok (.iastore, 1) := by decide +kernel
theorem d_Bo_startDraft_19 : decode prog_6_method_2_code 19 = .ok (.return_, 1) := by decide +kernel
theorem d_Bo_emit_0 : decode prog_6_method_3_code 0 = .ok (.aload_n 0, 1) := by decide +kernel
theorem d_Bo_emit_1 : decode prog_6_method_3_code 1 = .ok (.getfield 26, 3) := by decide +kernel
theorem d_Bo_emit_4 : decode prog_6_method_3_code 4 = .ok (.bipush 6, 2) := by decide +kernel
theorem d_Bo_emit_6 : decode prog_6_method_3_code 6 = .ok (.if_icmp .ge 55, 3) := by decide +kernel
theorem d_Bo_emit_9 : decode prog_6_method_3_code 9 = .ok (.aload_n 0, 1) := by decide +kernel
theorem d_Bo_emit_10 : decode prog_6_method_3_code 10 = .ok (.getfield 15, 3) := by decide +kernel
theorem d_Bo_emit_13 : decode prog_6_method_3_code 13 = .ok (.aload_n 0, 1) := by decide +kernel
theorem d_Bo_emit_14 : decode prog_6_method_3_code 14 = .ok (.getfield 26, 3) := by decide +kernel
theorem d_Bo_emit_17 : decode prog_6_method_3_code 17 = .ok (.iaload, 1) := by decide +kernel
theorem d_Bo_emit_18 : decode prog_6_method_3_code 18 = .ok (.sipush 401, 3) := by decide +kernel
theorem d_Bo_emit_21 : decode prog_6_method_3_code 21 = .ok (.if_icmp .ge 40, 3) := by decide +kernel
theorem d_Bo_emit_24 : decode prog_6_method_3_code 24 = .ok (.aload_n 0, 1) := by decide +kernel
theorem d_Bo_emit_25 : decode prog_6_method_3_code 25 = .ok (.getfield 11, 3) := by decide +kernel
theorem d_Bo_emit_28 : decode prog_6_method_3_code 28 = .ok (.aload_n 0, 1) := by decide +kernel
theorem d_Bo_emit_29 : decode prog_6_method_3_code 29 = .ok (.getfield 26, 3) := by decide +kernel
theorem d_Bo_emit_32 : decode prog_6_method_3_code 32 = .ok (.sipush 401, 3) := by decide +kernel
theorem d_Bo_emit_35 : decode prog_6_method_3_code 35 = .ok (.imul, 1) := by decide +kernel
theorem d_Bo_emit_36 : decode prog_6_method_3_code 36 = .ok (.aload_n 0, 1) := by decide +kernel
theorem d_Bo_emit_37 : decode prog_6_method_3_code 37 = .ok (.getfield 15, 3) := by decide +kernel
theorem d_Bo_emit_40 : decode prog_6_method_3_code 40 = .ok (.aload_n 0, 1) := by decide +kernel
theorem d_Bo_emit_41 : decode prog_6_method_3_code 41 = .ok (.getfield 26, 3) := by decide +kernel
theorem d_Bo_emit_44 : decode prog_6_method_3_code 44 = .ok (.iaload, 1) := by decide +kernel
theorem d_Bo_emit_45 : decode prog_6_method_3_code 45 = .ok (.iadd, 1) := by decide +kernel
theorem d_Bo_emit_46 : decode prog_6_method_3_code 46 = .ok (.iload_n 1, 1) := by decide +kernel
theorem d_Bo_emit_47 : decode prog_6_method_3_code 47 = .ok (.iastore, 1) := by decide +kernel
theorem d_Bo_emit_48 : decode prog_6_method_3_code 48 = .ok (.aload_n 0, 1) := by decide +kernel
theorem d_Bo_emit_49 : decode prog_6_method_3_code 49 = .ok (.getfield 15, 3) := by decide +kernel
theorem d_Bo_emit_52 : decode prog_6_method_3_code 52 = .ok (.aload_n 0, 1) := by decide +kernel
theorem d_Bo_emit_53 : decode prog_6_method_3_code 53 = .ok (.getfield 26, 3) := by decide +kernel
theorem d_Bo_emit_56 : decode prog_6_method_3_code 56 = .ok (.dup2, 1) := by decide +kernel
theorem d_Bo_emit_57 : decode prog_6_method_3_code 57 = .ok (.iaload, 1) := by decide +kernel
theorem d_Bo_emit_58 : decode prog_6_method_3_code 58 = .ok (.iconst 1, 1) := by decide +kernel
theorem d_Bo_emit_59 : decode prog_6_method_3_code 59 = .ok (.iadd, 1) := by decide +kernel
theorem d_Bo_emit_60 : decode prog_6_method_3_code 60 = .ok (.iastore, 1) := by decide +kernel
theorem d_Bo_emit_61 : decode prog_6_method_3_code 61 = .ok (.return_, 1) := by decide +kernel
theorem d_Bo_keepDraft_0 : decode prog_6_method_4_code 0 = .ok (.aload_n 0, 1) := by decide +kernel
theorem d_Bo_keepDraft_1 : decode prog_6_method_4_code 1 = .ok (.dup, 1) := by decide +kernel
theorem d_Bo_keepDraft_2 : decode prog_6_method_4_code 2 = .ok (.getfield 26, 3) := by decide +kernel
theorem d_Bo_keepDraft_5 : decode prog_6_method_4_code 5 = .ok (.iconst 1, 1) := by decide +kernel
theorem d_Bo_keepDraft_6 : decode prog_6_method_4_code 6 = .ok (.iadd, 1) := by decide +kernel
theorem d_Bo_keepDraft_7 : decode prog_6_method_4_code 7 = .ok (.putfield 26, 3) := by decide +kernel
theorem d_Bo_keepDraft_10 : decode prog_6_method_4_code 10 = .ok (.aload_n 0, 1) := by decide +kernel
theorem d_Bo_keepDraft_11 : decode prog_6_method_4_code 11 = .ok (.getfield 26, 3) := by decide +kernel
theorem d_Bo_keepDraft_14 : decode prog_6_method_4_code 14 = .ok (.iconst 1, 1) := by decide +kernel
theorem d_Bo_keepDraft_15 : decode prog_6_method_4_code 15 = .ok (.isub, 1) := by decide +kernel
theorem d_Bo_keepDraft_16 : decode prog_6_method_4_code 16 = .ok (.ireturn, 1) := by decide +kernel
theorem d_Bo_teethFor_0 : decode prog_6_method_5_code 0 = .ok (.iload_n 1, 1) := by decide +kernel
theorem d_Bo_teethFor_1 : decode prog_6_method_5_code 1 = .ok (.ifCond .lt 11, 3) := by decide +kernel
theorem d_Bo_teethFor_4 : decode prog_6_method_5_code 4 = .ok (.iload_n 1, 1) := by decide +kernel
theorem d_Bo_teethFor_5 : decode prog_6_method_5_code 5 = .ok (.aload_n 0, 1) := by decide +kernel
theorem d_Bo_teethFor_6 : decode prog_6_method_5_code 6 = .ok (.getfield 26, 3) := by decide +kernel
theorem d_Bo_teethFor_9 : decode prog_6_method_5_code 9 = .ok (.if_icmp .lt 5, 3) := by decide +kernel
theorem d_Bo_teethFor_12 : decode prog_6_method_5_code 12 = .ok (.iconst 0, 1) := by decide +kernel
theorem d_Bo_teethFor_13 : decode prog_6_method_5_code 13 = .ok (.ireturn, 1) := by decide +kernel
theorem d_Bo_teethFor_14 : decode prog_6_method_5_code 14 = .ok (.aload_n 0, 1) := by decide +kernel
theorem d_Bo_teethFor_15 : decode prog_6_method_5_code 15 = .ok (.iconst 0, 1) := by decide +kernel
theorem d_Bo_teethFor_16 : decode prog_6_method_5_code 16 = .ok (.putfield 30, 3) := by decide +kernel
theorem d_Bo_teethFor_19 : decode prog_6_method_5_code 19 = .ok (.iload_n 1, 1) := by decide +kernel
theorem d_Bo_teethFor_20 : decode prog_6_method_5_code 20 = .ok (.sipush 401, 3) := by decide +kernel
theorem d_Bo_teethFor_23 : decode prog_6_method_5_code 23 = .ok (.imul, 1) := by decide +kernel
theorem d_Bo_teethFor_24 : decode prog_6_method_5_code 24 = .ok (.istore 4, 2) := by decide +kernel
theorem d_Bo_teethFor_26 : decode prog_6_method_5_code 26 = .ok (.iconst 0, 1) := by decide +kernel
theorem d_Bo_teethFor_27 : decode prog_6_method_5_code 27 = .ok (.istore 5, 2) := by decide +kernel
theorem d_Bo_teethFor_29 : decode prog_6_method_5_code 29 = .ok (.iload 5, 2) := by decide +kernel
theorem d_Bo_teethFor_31 : decode prog_6_method_5_code 31 = .ok (.aload_n 0, 1) := by decide +kernel
theorem d_Bo_teethFor_32 : decode prog_6_method_5_code 32 = .ok (.getfield 15, 3) := by decide +kernel
theorem d_Bo_teethFor_35 : decode prog_6_method_5_code 35 = .ok (.iload_n 1, 1) := by decide +kernel
theorem d_Bo_teethFor_36 : decode prog_6_method_5_code 36 = .ok (.iaload, 1) := by decide +kernel
theorem d_Bo_teethFor_37 : decode prog_6_method_5_code 37 = .ok (.if_icmp .ge 143, 3) := by decide +kernel
theorem d_Bo_teethFor_40 : decode prog_6_method_5_code 40 = .ok (.aload_n 0, 1) := by decide +kernel
theorem d_Bo_teethFor_41 : decode prog_6_method_5_code 41 = .ok (.getfield 11, 3) := by decide +kernel
theorem d_Bo_teethFor_44 : decode prog_6_method_5_code 44 = .ok (.iload 4, 2) := by decide +kernel
theorem d_Bo_teethFor_46 : decode prog_6_method_5_code 46 = .ok (.iload 5, 2) := by decide +kernel
theorem d_Bo_teethFor_48 : decode prog_6_method_5_code 48 = .ok (.iadd, 1) := by decide +kernel
theorem d_Bo_teethFor_49 : decode prog_6_method_5_code 49 = .ok (.iaload, 1) := by decide +kernel
theorem d_Bo_teethFor_50 : decode prog_6_method_5_code 50 = .ok (.istore 6, 2) := by decide +kernel
theorem d_Bo_teethFor_52 : decode prog_6_method_5_code 52 = .ok (.iload 6, 2) := by decide +kernel
theorem d_Bo_teethFor_54 : decode prog_6_method_5_code 54 = .ok (.bipush 32, 2) := by decide +kernel
theorem d_Bo_teethFor_56 : decode prog_6_method_5_code 56 = .ok (.if_icmp .lt 16, 3) := by decide +kernel
theorem d_Bo_teethFor_59 : decode prog_6_method_5_code 59 = .ok (.aload_n 0, 1) := by decide +kernel
theorem d_Bo_teethFor_60 : decode prog_6_method_5_code 60 = .ok (.iload 6, 2) := by decide +kernel
theorem d_Bo_teethFor_62 : decode prog_6_method_5_code 62 = .ok (.bipush 32, 2) := by decide +kernel
theorem d_Bo_teethFor_64 : decode prog_6_method_5_code 64 = .ok (.isub, 1) := by decide +kernel
theorem d_Bo_teethFor_65 : decode prog_6_method_5_code 65 = .ok (.i2l, 1) := by decide +kernel
theorem d_Bo_teethFor_66 : decode prog_6_method_5_code 66 = .ok (.invokevirtual 33, 3) := by decide +kernel
theorem d_Bo_teethFor_69 : decode prog_6_method_5_code 69 = .ok (.goto 105, 3) := by decide +kernel
theorem d_Bo_teethFor_72 : decode prog_6_method_5_code 72 = .ok (.iload 6, 2) := by decide +kernel
theorem d_Bo_teethFor_74 : decode prog_6_method_5_code 74 = .ok (.bipush 7, 2) := by decide +kernel
theorem d_Bo_teethFor_76 : decode prog_6_method_5_code 76 = .ok (.if_icmp .gt 18, 3) := by decide +kernel
theorem d_Bo_teethFor_79 : decode prog_6_method_5_code 79 = .ok (.aload_n 0, 1) := by decide +kernel
theorem d_Bo_teethFor_80 : decode prog_6_method_5_code 80 = .ok (.aload_n 0, 1) := by decide +kernel
theorem d_Bo_teethFor_81 : decode prog_6_method_5_code 81 = .ok (.iload 6, 2) := by decide +kernel
theorem d_Bo_teethFor_83 : decode prog_6_method_5_code 83 = .ok (.iload_n 2, 1) := by decide +kernel
theorem d_Bo_teethFor_84 : decode prog_6_method_5_code 84 = .ok (.iload_n 3, 1) := by decide +kernel
theorem d_Bo_teethFor_85 : decode prog_6_method_5_code 85 = .ok (.invokevirtual 37, 3) := by decide +kernel
theorem d_Bo_teethFor_88 : decode prog_6_method_5_code 88 = .ok (.invokevirtual 33, 3) := by decide +kernel
theorem d_Bo_teethFor_91 : decode prog_6_method_5_code 91 = .ok (.goto 83, 3) := by decide +kernel
theorem d_Bo_teethFor_94 : decode prog_6_method_5_code 94 = .ok (.iload 6, 2) := by decide +kernel
theorem d_Bo_teethFor_96 : decode prog_6_method_5_code 96 = .ok (.bipush 19, 2) := by decide +kernel
theorem d_Bo_teethFor_98 : decode prog_6_method_5_code 98 = .ok (.if_icmp .ne 16, 3) := by decide +kernel
theorem d_Bo_teethFor_101 : decode prog_6_method_5_code 101 = .ok (.aload_n 0, 1) := by decide +kernel
theorem d_Bo_teethFor_102 : decode prog_6_method_5_code 102 = .ok (.lconst 1, 1) := by decide +kernel
theorem d_Bo_teethFor_103 : decode prog_6_method_5_code 103 = .ok (.aload_n 0, 1) := by decide +kernel
theorem d_Bo_teethFor_104 : decode prog_6_method_5_code 104 = .ok (.invokevirtual 41, 3) := by decide +kernel
theorem d_Bo_teethFor_107 : decode prog_6_method_5_code 107 = .ok (.lsub, 1) := by decide +kernel
theorem d_Bo_teethFor_108 : decode prog_6_method_5_code 108 = .ok (.invokevirtual 33, 3) := by decide +kernel
theorem d_Bo_teethFor_111 : decode prog_6_method_5_code 111 = .ok (.goto 63, 3) := by decide +kernel
theorem d_Bo_teethFor_114 : decode prog_6_method_5_code 114 = .ok (.iload 6, 2) := by decide +kernel
theorem d_Bo_teethFor_116 : decode prog_6_method_5_code 116 = .ok (.bipush 19, 2) := by decide +kernel
theorem d_Bo_teethFor_118 : decode prog_6_method_5_code 118 = .ok (.if_icmp .ge 27, 3) := by decide +kernel
theorem d_Bo_teethFor_121 : decode prog_6_method_5_code 121 = .ok (.aload_n 0, 1) := by decide +kernel
theorem d_Bo_teethFor_122 : decode prog_6_method_5_code 122 = .ok (.invokevirtual 41, 3) := by decide +kernel
theorem d_Bo_teethFor_125 : decode prog_6_method_5_code 125 = .ok (.lstore 7, 2) := by decide +kernel
theorem d_Bo_teethFor_127 : decode prog_6_method_5_code 127 = .ok (.aload_n 0, 1) := by decide +kernel
theorem d_Bo_teethFor_128 : decode prog_6_method_5_code 128 = .ok (.iload 6, 2) := by decide +kernel
theorem d_Bo_teethFor_130 : decode prog_6_method_5_code 130 = .ok (.aload_n 0, 1) := by decide +kernel
theorem d_Bo_teethFor_131 : decode prog_6_method_5_code 131 = .ok (.invokevirtual 41, 3) := by decide +kernel
theorem d_Bo_teethFor_134 : decode prog_6_method_5_code 134 = .ok (.lload 7, 2) := by decide +kernel
theorem d_Bo_teethFor_136 : decode prog_6_method_5_code 136 = .ok (.invokestatic 45, 3) := by decide +kernel
theorem d_Bo_teethFor_139 : decode prog_6_method_5_code 139 = .ok (.invokevirtual 33, 3) := by decide +kernel
theorem d_Bo_teethFor_142 : decode prog_6_method_5_code 142 = .ok (.goto 32, 3) := by decide +kernel
theorem d_Bo_teethFor_145 : decode prog_6_method_5_code 145 = .ok (.iload 6, 2) := by decide +kernel
theorem d_Bo_teethFor_147 : decode prog_6_method_5_code 147 = .ok (.bipush 20, 2) := by decide +kernel
theorem d_Bo_teethFor_149 : decode prog_6_method_5_code 149 = .ok (.if_icmp .eq 12, 3) := by decide +kernel
theorem d_Bo_teethFor_152 : decode prog_6_method_5_code 152 = .ok (.aload_n 0, 1) := by decide +kernel
theorem d_Bo_teethFor_153 : decode prog_6_method_5_code 153 = .ok (.invokevirtual 41, 3) := by decide +kernel
theorem d_Bo_teethFor_156 : decode prog_6_method_5_code 156 = .ok (.lconst 0, 1) := by decide +kernel
theorem d_Bo_teethFor_157 : decode prog_6_method_5_code 157 = .ok (.lcmp, 1) := by decide +kernel
theorem d_Bo_teethFor_158 : decode prog_6_method_5_code 158 = .ok (.ifCond .eq 11, 3) := by decide +kernel
theorem d_Bo_teethFor_161 : decode prog_6_method_5_code 161 = .ok (.aload_n 0, 1) := by decide +kernel
theorem d_Bo_teethFor_162 : decode prog_6_method_5_code 162 = .ok (.invokevirtual 41, 3) := by decide +kernel
theorem d_Bo_teethFor_165 : decode prog_6_method_5_code 165 = .ok (.invokestatic 49, 3) := by decide +kernel
theorem d_Bo_teethFor_168 : decode prog_6_method_5_code 168 = .ok (.ireturn, 1) := by decide +kernel
theorem d_Bo_teethFor_169 : decode prog_6_method_5_code 169 = .ok (.aload_n 0, 1) := by decide +kernel
theorem d_Bo_teethFor_170 : decode prog_6_method_5_code 170 = .ok (.invokevirtual 41, 3) := by decide +kernel
theorem d_Bo_teethFor_173 : decode prog_6_method_5_code 173 = .ok (.pop2, 1) := by decide +kernel
theorem d_Bo_teethFor_174 : decode prog_6_method_5_code 174 = .ok (.iinc 5 1, 3) := by decide +kernel
theorem d_Bo_teethFor_177 : decode prog_6_method_5_code 177 = .ok (.goto (-148), 3) := by decide +kernel
theorem d_Bo_teethFor_180 : decode prog_6_method_5_code 180 = .ok (.iconst 0, 1) := by decide +kernel
theorem d_Bo_teethFor_181 : decode prog_6_method_5_code 181 = .ok (.ireturn, 1) := by decide +kernel
theorem d_Bo_put_0 : decode prog_6_method_6_code 0 = .ok (.aload_n 0, 1) := by decide +kernel
theorem d_Bo_put_1 : decode prog_6_method_6_code 1 = .ok (.getfield 30, 3) := by decide +kernel
theorem d_Bo_put_4 : decode prog_6_method_6_code 4 = .ok (.aload_n 0, 1) := by decide +kernel
theorem d_Bo_put_5 : decode prog_6_method_6_code 5 = .ok (.getfield 18, 3) := by decide +kernel
theorem d_Bo_put_8 : decode prog_6_method_6_code 8 = .ok (.arraylength, 1) := by decide +kernel
theorem d_Bo_put_9 : decode prog_6_method_6_code 9 = .ok (.if_icmp .ge 23, 3) := by decide +kernel
theorem d_Bo_put_12 : decode prog_6_method_6_code 12 = .ok (.aload_n 0, 1) := by decide +kernel
theorem d_Bo_put_13 : decode prog_6_method_6_code 13 = .ok (.getfield 18, 3) := by decide +kernel
theorem d_Bo_put_16 : decode prog_6_method_6_code 16 = .ok (.aload_n 0, 1) := by decide +kernel
theorem d_Bo_put_17 : decode prog_6_method_6_code 17 = .ok (.getfield 30, 3) := by decide +kernel
theorem d_Bo_put_20 : decode prog_6_method_6_code 20 = .ok (.lload_n 1, 1) := by decide +kernel
theorem d_Bo_put_21 : decode prog_6_method_6_code 21 = .ok (.lastore, 1) := by decide +kernel
theorem d_Bo_put_22 : decode prog_6_method_6_code 22 = .ok (.aload_n 0, 1) := by decide +kernel
theorem d_Bo_put_23 : decode prog_6_method_6_code 23 = .ok (.dup, 1) := by decide +kernel
theorem d_Bo_put_24 : decode prog_6_method_6_code 24 = .ok (.getfield 30, 3) := by decide +kernel
theorem d_Bo_put_27 : decode prog_6_method_6_code 27 = .ok (.iconst 1, 1) := by decide +kernel
theorem d_Bo_put_28 : decode prog_6_method_6_code 28 = .ok (.iadd, 1) := by decide +kernel
theorem d_Bo_put_29 : decode prog_6_method_6_code 29 = .ok (.putfield 30, 3) := by decide +kernel
theorem d_Bo_put_32 : decode prog_6_method_6_code 32 = .ok (.return_, 1) := by decide +kernel
theorem d_Bo_take_0 : decode prog_6_method_7_code 0 = .ok (.aload_n 0, 1) := by decide +kernel
theorem d_Bo_take_1 : decode prog_6_method_7_code 1 = .ok (.getfield 30, 3) := by decide +kernel
theorem d_Bo_take_4 : decode prog_6_method_7_code 4 = .ok (.ifCond .gt 5, 3) := by decide +kernel
theorem d_Bo_take_7 : decode prog_6_method_7_code 7 = .ok (.lconst 0, 1) := by decide +kernel
theorem d_Bo_take_8 : decode prog_6_method_7_code 8 = .ok (.lreturn, 1) := by decide +kernel
theorem d_Bo_take_9 : decode prog_6_method_7_code 9 = .ok (.aload_n 0, 1) := by decide +kernel
theorem d_Bo_take_10 : decode prog_6_method_7_code 10 = .ok (.dup, 1) := by decide +kernel
theorem d_Bo_take_11 : decode prog_6_method_7_code 11 = .ok (.getfield 30, 3) := by decide +kernel
theorem d_Bo_take_14 : decode prog_6_method_7_code 14 = .ok (.iconst 1, 1) := by decide +kernel
theorem d_Bo_take_15 : decode prog_6_method_7_code 15 = .ok (.isub, 1) := by decide +kernel
theorem d_Bo_take_16 : decode prog_6_method_7_code 16 = .ok (.putfield 30, 3) := by decide +kernel
theorem d_Bo_take_19 : decode prog_6_method_7_code 19 = .ok (.aload_n 0, 1) := by decide +kernel
theorem d_Bo_take_20 : decode prog_6_method_7_code 20 = .ok (.getfield 18, 3) := by decide +kernel
theorem d_Bo_take_23 : decode prog_6_method_7_code 23 = .ok (.aload_n 0, 1) := by decide +kernel
theorem d_Bo_take_24 : decode prog_6_method_7_code 24 = .ok (.getfield 30, 3) := by decide +kernel
theorem d_Bo_take_27 : decode prog_6_method_7_code 27 = .ok (.laload, 1) := by decide +kernel
theorem d_Bo_take_28 : decode prog_6_method_7_code 28 = .ok (.lreturn, 1) := by decide +kernel
theorem d_Bo_held_0 : decode prog_6_method_8_code 0 = .ok (.ldc2_w 53, 3) := by decide +kernel
theorem d_Bo_held_3 : decode prog_6_method_8_code 3 = .ok (.ldc2_w 55, 3) := by decide +kernel
theorem d_Bo_held_6 : decode prog_6_method_8_code 6 = .ok (.lload_n 0, 1) := by decide +kernel
theorem d_Bo_held_7 : decode prog_6_method_8_code 7 = .ok (.invokestatic 57, 3) := by decide +kernel
theorem d_Bo_held_10 : decode prog_6_method_8_code 10 = .ok (.invokestatic 63, 3) := by decide +kernel
theorem d_Bo_held_13 : decode prog_6_method_8_code 13 = .ok (.l2i, 1) := by decide +kernel
theorem d_Bo_held_14 : decode prog_6_method_8_code 14 = .ok (.ireturn, 1) := by decide +kernel
theorem d_Bo_wordOf_0 : decode prog_6_method_9_code 0 = .ok (.aload_n 0, 1) := by decide +kernel
theorem d_Bo_wordOf_1 : decode prog_6_method_9_code 1 = .ok (.getfield 22, 3) := by decide +kernel
theorem d_Bo_wordOf_4 : decode prog_6_method_9_code 4 = .ok (.getfield 66, 3) := by decide +kernel
theorem d_Bo_wordOf_7 : decode prog_6_method_9_code 7 = .ok (.astore 4, 2) := by decide +kernel
theorem d_Bo_wordOf_9 : decode prog_6_method_9_code 9 = .ok (.iload_n 1, 1) := by decide +kernel
theorem d_Bo_wordOf_10 : decode prog_6_method_9_code 10 = .ok (.tableswitch 109 0 6 #[42, 45, 54, 63, 72, 89, 101], 42) := by decide +kernel
theorem d_Bo_wordOf_52 : decode prog_6_method_9_code 52 = .ok (.iload_n 2, 1) := by decide +kernel
theorem d_Bo_wordOf_53 : decode prog_6_method_9_code 53 = .ok (.i2l, 1) := by decide +kernel
theorem d_Bo_wordOf_54 : decode prog_6_method_9_code 54 = .ok (.lreturn, 1) := by decide +kernel
theorem d_Bo_wordOf_55 : decode prog_6_method_9_code 55 = .ok (.aload 4, 2) := by decide +kernel
theorem d_Bo_wordOf_57 : decode prog_6_method_9_code 57 = .ok (.getfield 72, 3) := by decide +kernel
theorem d_Bo_wordOf_60 : decode prog_6_method_9_code 60 = .ok (.iload_n 2, 1) := by decide +kernel
theorem d_Bo_wordOf_61 : decode prog_6_method_9_code 61 = .ok (.iaload, 1) := by decide +kernel
theorem d_Bo_wordOf_62 : decode prog_6_method_9_code 62 = .ok (.i2l, 1) := by decide +kernel
theorem d_Bo_wordOf_63 : decode prog_6_method_9_code 63 = .ok (.lreturn, 1) := by decide +kernel
theorem d_Bo_wordOf_64 : decode prog_6_method_9_code 64 = .ok (.aload 4, 2) := by decide +kernel
theorem d_Bo_wordOf_66 : decode prog_6_method_9_code 66 = .ok (.getfield 77, 3) := by decide +kernel
theorem d_Bo_wordOf_69 : decode prog_6_method_9_code 69 = .ok (.iload_n 2, 1) := by decide +kernel
theorem d_Bo_wordOf_70 : decode prog_6_method_9_code 70 = .ok (.iaload, 1) := by decide +kernel
theorem d_Bo_wordOf_71 : decode prog_6_method_9_code 71 = .ok (.i2l, 1) := by decide +kernel
theorem d_Bo_wordOf_72 : decode prog_6_method_9_code 72 = .ok (.lreturn, 1) := by decide +kernel
theorem d_Bo_wordOf_73 : decode prog_6_method_9_code 73 = .ok (.aload_n 0, 1) := by decide +kernel
theorem d_Bo_wordOf_74 : decode prog_6_method_9_code 74 = .ok (.getfield 22, 3) := by decide +kernel
theorem d_Bo_wordOf_77 : decode prog_6_method_9_code 77 = .ok (.iload_n 2, 1) := by decide +kernel
theorem d_Bo_wordOf_78 : decode prog_6_method_9_code 78 = .ok (.invokevirtual 80, 3) := by decide +kernel
theorem d_Bo_wordOf_81 : decode prog_6_method_9_code 81 = .ok (.lreturn, 1) := by decide +kernel
theorem d_Bo_wordOf_82 : decode prog_6_method_9_code 82 = .ok (.aload_n 0, 1) := by decide +kernel
theorem d_Bo_wordOf_83 : decode prog_6_method_9_code 83 = .ok (.getfield 22, 3) := by decide +kernel
theorem d_Bo_wordOf_86 : decode prog_6_method_9_code 86 = .ok (.iload_n 2, 1) := by decide +kernel
theorem d_Bo_wordOf_87 : decode prog_6_method_9_code 87 = .ok (.invokevirtual 84, 3) := by decide +kernel
theorem d_Bo_wordOf_90 : decode prog_6_method_9_code 90 = .ok (.ifCond .eq 7, 3) := by decide +kernel
theorem d_Bo_wordOf_93 : decode prog_6_method_9_code 93 = .ok (.lconst 1, 1) := by decide +kernel
theorem d_Bo_wordOf_94 : decode prog_6_method_9_code 94 = .ok (.goto 4, 3) := by decide +kernel
theorem d_Bo_wordOf_97 : decode prog_6_method_9_code 97 = .ok (.lconst 0, 1) := by decide +kernel
theorem d_Bo_wordOf_98 : decode prog_6_method_9_code 98 = .ok (.lreturn, 1) := by decide +kernel
theorem d_Bo_wordOf_99 : decode prog_6_method_9_code 99 = .ok (.aload_n 0, 1) := by decide +kernel
theorem d_Bo_wordOf_100 : decode prog_6_method_9_code 100 = .ok (.getfield 22, 3) := by decide +kernel
theorem d_Bo_wordOf_103 : decode prog_6_method_9_code 103 = .ok (.invokevirtual 88, 3) := by decide +kernel
theorem d_Bo_wordOf_106 : decode prog_6_method_9_code 106 = .ok (.invokestatic 92, 3) := by decide +kernel
theorem d_Bo_wordOf_109 : decode prog_6_method_9_code 109 = .ok (.i2l, 1) := by decide +kernel
theorem d_Bo_wordOf_110 : decode prog_6_method_9_code 110 = .ok (.lreturn, 1) := by decide +kernel
theorem d_Bo_wordOf_111 : decode prog_6_method_9_code 111 = .ok (.aload 4, 2) := by decide +kernel
theorem d_Bo_wordOf_113 : decode prog_6_method_9_code 113 = .ok (.iload_n 2, 1) := by decide +kernel
theorem d_Bo_wordOf_114 : decode prog_6_method_9_code 114 = .ok (.invokevirtual 98, 3) := by decide +kernel
theorem d_Bo_wordOf_117 : decode prog_6_method_9_code 117 = .ok (.i2l, 1) := by decide +kernel
theorem d_Bo_wordOf_118 : decode prog_6_method_9_code 118 = .ok (.lreturn, 1) := by decide +kernel
theorem d_Bo_wordOf_119 : decode prog_6_method_9_code 119 = .ok (.iload_n 3, 1) := by decide +kernel
theorem d_Bo_wordOf_120 : decode prog_6_method_9_code 120 = .ok (.i2l, 1) := by decide +kernel
theorem d_Bo_wordOf_121 : decode prog_6_method_9_code 121 = .ok (.lreturn, 1) := by decide +kernel
theorem d_Bo_spelling_0 : decode prog_6_method_10_code 0 = .ok (.iload_n 0, 1) := by decide +kernel
theorem d_Bo_spelling_1 : decode prog_6_method_10_code 1 = .ok (.tableswitch 64 0 6 #[43, 46, 49, 52, 55, 58, 61], 43) := by decide +kernel
theorem d_Bo_spelling_44 : decode prog_6_method_10_code 44 = .ok (.ldc 101, 2) := by decide +kernel
theorem d_Bo_spelling_46 : decode prog_6_method_10_code 46 = .ok (.areturn, 1) := by decide +kernel
theorem d_Bo_spelling_47 : decode prog_6_method_10_code 47 = .ok (.ldc 103, 2) := by decide +kernel
theorem d_Bo_spelling_49 : decode prog_6_method_10_code 49 = .ok (.areturn, 1) := by decide +kernel
theorem d_Bo_spelling_50 : decode prog_6_method_10_code 50 = .ok (.ldc 104, 2) := by decide +kernel
theorem d_Bo_spelling_52 : decode prog_6_method_10_code 52 = .ok (.areturn, 1) := by decide +kernel
theorem d_Bo_spelling_53 : decode prog_6_method_10_code 53 = .ok (.ldc 105, 2) := by decide +kernel
theorem d_Bo_spelling_55 : decode prog_6_method_10_code 55 = .ok (.areturn, 1) := by decide +kernel
theorem d_Bo_spelling_56 : decode prog_6_method_10_code 56 = .ok (.ldc 107, 2) := by decide +kernel
theorem d_Bo_spelling_58 : decode prog_6_method_10_code 58 = .ok (.areturn, 1) := by decide +kernel
theorem d_Bo_spelling_59 : decode prog_6_method_10_code 59 = .ok (.ldc 109, 2) := by decide +kernel
theorem d_Bo_spelling_61 : decode prog_6_method_10_code 61 = .ok (.areturn, 1) := by decide +kernel
theorem d_Bo_spelling_62 : decode prog_6_method_10_code 62 = .ok (.ldc 111, 2) := by decide +kernel
theorem d_Bo_spelling_64 : decode prog_6_method_10_code 64 = .ok (.areturn, 1) := by decide +kernel
theorem d_Bo_spelling_65 : decode prog_6_method_10_code 65 = .ok (.ldc 113, 2) := by decide +kernel
theorem d_Bo_spelling_67 : decode prog_6_method_10_code 67 = .ok (.areturn, 1) := by decide +kernel
theorem d_Bo_reckoningOf_0 : decode prog_6_method_11_code 0 = .ok (.iload_n 0, 1) := by decide +kernel
theorem d_Bo_reckoningOf_1 : decode prog_6_method_11_code 1 = .ok (.tableswitch 51 42 47 #[45, 39, 51, 42, 51, 48], 39) := by decide +kernel
theorem d_Bo_reckoningOf_40 : decode prog_6_method_11_code 40 = .ok (.bipush 8, 2) := by decide +kernel
theorem d_Bo_reckoningOf_42 : decode prog_6_method_11_code 42 = .ok (.ireturn, 1) := by decide +kernel
theorem d_Bo_reckoningOf_43 : decode prog_6_method_11_code 43 = .ok (.bipush 9, 2) := by decide +kernel
theorem d_Bo_reckoningOf_45 : decode prog_6_method_11_code 45 = .ok (.ireturn, 1) := by decide +kernel
theorem d_Bo_reckoningOf_46 : decode prog_6_method_11_code 46 = .ok (.bipush 10, 2) := by decide +kernel
theorem d_Bo_reckoningOf_48 : decode prog_6_method_11_code 48 = .ok (.ireturn, 1) := by decide +kernel
theorem d_Bo_reckoningOf_49 : decode prog_6_method_11_code 49 = .ok (.bipush 11, 2) := by decide +kernel
theorem d_Bo_reckoningOf_51 : decode prog_6_method_11_code 51 = .ok (.ireturn, 1) := by decide +kernel
theorem d_Bo_reckoningOf_52 : decode prog_6_method_11_code 52 = .ok (.iconst (-1), 1) := by decide +kernel
theorem d_Bo_reckoningOf_53 : decode prog_6_method_11_code 53 = .ok (.ireturn, 1) := by decide +kernel
theorem d_Bo_comparisonOf_0 : decode prog_6_method_12_code 0 = .ok (.iload_n 0, 1) := by decide +kernel
theorem d_Bo_comparisonOf_1 : decode prog_6_method_12_code 1 = .ok (.tableswitch 54 60 62 #[27, 51, 39], 27) := by decide +kernel
theorem d_Bo_comparisonOf_28 : decode prog_6_method_12_code 28 = .ok (.iload_n 1, 1) := by decide +kernel
theorem d_Bo_comparisonOf_29 : decode prog_6_method_12_code 29 = .ok (.ifCond .eq 8, 3) := by decide +kernel
theorem d_Bo_comparisonOf_32 : decode prog_6_method_12_code 32 = .ok (.bipush 13, 2) := by decide +kernel
theorem d_Bo_comparisonOf_34 : decode prog_6_method_12_code 34 = .ok (.goto 5, 3) := by decide +kernel
theorem d_Bo_comparisonOf_37 : decode prog_6_method_12_code 37 = .ok (.bipush 12, 2) := by decide +kernel
theorem d_Bo_comparisonOf_39 : decode prog_6_method_12_code 39 = .ok (.ireturn, 1) := by decide +kernel
theorem d_Bo_comparisonOf_40 : decode prog_6_method_12_code 40 = .ok (.iload_n 1, 1) := by decide +kernel
theorem d_Bo_comparisonOf_41 : decode prog_6_method_12_code 41 = .ok (.ifCond .eq 8, 3) := by decide +kernel
theorem d_Bo_comparisonOf_44 : decode prog_6_method_12_code 44 = .ok (.bipush 15, 2) := by decide +kernel
theorem d_Bo_comparisonOf_46 : decode prog_6_method_12_code 46 = .ok (.goto 5, 3) := by decide +kernel
theorem d_Bo_comparisonOf_49 : decode prog_6_method_12_code 49 = .ok (.bipush 16, 2) := by decide +kernel
theorem d_Bo_comparisonOf_51 : decode prog_6_method_12_code 51 = .ok (.ireturn, 1) := by decide +kernel
theorem d_Bo_comparisonOf_52 : decode prog_6_method_12_code 52 = .ok (.bipush 14, 2) := by decide +kernel
theorem d_Bo_comparisonOf_54 : decode prog_6_method_12_code 54 = .ok (.ireturn, 1) := by decide +kernel
theorem d_Bo_comparisonOf_55 : decode prog_6_method_12_code 55 = .ok (.iconst (-1), 1) := by decide +kernel
theorem d_Bo_comparisonOf_56 : decode prog_6_method_12_code 56 = .ok (.ireturn, 1) := by decide +kernel
theorem d_Bo_bondOf_0 : decode prog_6_method_13_code 0 = .ok (.iload_n 0, 1) := by decide +kernel
theorem d_Bo_bondOf_1 : decode prog_6_method_13_code 1 = .ok (.bipush 10, 2) := by decide +kernel
theorem d_Bo_bondOf_3 : decode prog_6_method_13_code 3 = .ok (.if_icmp .eq 9, 3) := by decide +kernel
theorem d_Bo_bondOf_6 : decode prog_6_method_13_code 6 = .ok (.iload_n 0, 1) := by decide +kernel
theorem d_Bo_bondOf_7 : decode prog_6_method_13_code 7 = .ok (.bipush 11, 2) := by decide +kernel
theorem d_Bo_bondOf_9 : decode prog_6_method_13_code 9 = .ok (.if_icmp .ne 6, 3) := by decide +kernel
theorem d_Bo_bondOf_12 : decode prog_6_method_13_code 12 = .ok (.bipush 6, 2) := by decide +kernel
theorem d_Bo_bondOf_14 : decode prog_6_method_13_code 14 = .ok (.ireturn, 1) := by decide +kernel
theorem d_Bo_bondOf_15 : decode prog_6_method_13_code 15 = .ok (.iload_n 0, 1) := by decide +kernel
theorem d_Bo_bondOf_16 : decode prog_6_method_13_code 16 = .ok (.bipush 8, 2) := by decide +kernel
theorem d_Bo_bondOf_18 : decode prog_6_method_13_code 18 = .ok (.if_icmp .eq 9, 3) := by decide +kernel
theorem d_Bo_bondOf_21 : decode prog_6_method_13_code 21 = .ok (.iload_n 0, 1) := by decide +kernel
theorem d_Bo_bondOf_22 : decode prog_6_method_13_code 22 = .ok (.bipush 9, 2) := by decide +kernel
theorem d_Bo_bondOf_24 : decode prog_6_method_13_code 24 = .ok (.if_icmp .ne 5, 3) := by decide +kernel
theorem d_Bo_bondOf_27 : decode prog_6_method_13_code 27 = .ok (.iconst 5, 1) := by decide +kernel
theorem d_Bo_bondOf_28 : decode prog_6_method_13_code 28 = .ok (.ireturn, 1) := by decide +kernel
theorem d_Bo_bondOf_29 : decode prog_6_method_13_code 29 = .ok (.iload_n 0, 1) := by decide +kernel
theorem d_Bo_bondOf_30 : decode prog_6_method_13_code 30 = .ok (.bipush 12, 2) := by decide +kernel
theorem d_Bo_bondOf_32 : decode prog_6_method_13_code 32 = .ok (.if_icmp .lt 11, 3) := by decide +kernel
theorem d_Bo_bondOf_35 : decode prog_6_method_13_code 35 = .ok (.iload_n 0, 1) := by decide +kernel
theorem d_Bo_bondOf_36 : decode prog_6_method_13_code 36 = .ok (.bipush 16, 2) := by decide +kernel
theorem d_Bo_bondOf_38 : decode prog_6_method_13_code 38 = .ok (.if_icmp .gt 5, 3) := by decide +kernel
theorem d_Bo_bondOf_41 : decode prog_6_method_13_code 41 = .ok (.iconst 4, 1) := by decide +kernel
theorem d_Bo_bondOf_42 : decode prog_6_method_13_code 42 = .ok (.ireturn, 1) := by decide +kernel
theorem d_Bo_bondOf_43 : decode prog_6_method_13_code 43 = .ok (.iload_n 0, 1) := by decide +kernel
theorem d_Bo_bondOf_44 : decode prog_6_method_13_code 44 = .ok (.bipush 19, 2) := by decide +kernel
theorem d_Bo_bondOf_46 : decode prog_6_method_13_code 46 = .ok (.if_icmp .ne 5, 3) := by decide +kernel
theorem d_Bo_bondOf_49 : decode prog_6_method_13_code 49 = .ok (.iconst 3, 1) := by decide +kernel
theorem d_Bo_bondOf_50 : decode prog_6_method_13_code 50 = .ok (.ireturn, 1) := by decide +kernel
theorem d_Bo_bondOf_51 : decode prog_6_method_13_code 51 = .ok (.iload_n 0, 1) := by decide +kernel
theorem d_Bo_bondOf_52 : decode prog_6_method_13_code 52 = .ok (.bipush 17, 2) := by decide +kernel
theorem d_Bo_bondOf_54 : decode prog_6_method_13_code 54 = .ok (.if_icmp .ne 5, 3) := by decide +kernel
theorem d_Bo_bondOf_57 : decode prog_6_method_13_code 57 = .ok (.iconst 2, 1) := by decide +kernel
theorem d_Bo_bondOf_58 : decode prog_6_method_13_code 58 = .ok (.ireturn, 1) := by decide +kernel
theorem d_Bo_bondOf_59 : decode prog_6_method_13_code 59 = .ok (.iload_n 0, 1) := by decide +kernel
theorem d_Bo_bondOf_60 : decode prog_6_method_13_code 60 = .ok (.bipush 18, 2) := by decide +kernel
theorem d_Bo_bondOf_62 : decode prog_6_method_13_code 62 = .ok (.if_icmp .ne 7, 3) := by decide +kernel
theorem d_Bo_bondOf_65 : decode prog_6_method_13_code 65 = .ok (.iconst 1, 1) := by decide +kernel
theorem d_Bo_bondOf_66 : decode prog_6_method_13_code 66 = .ok (.goto 4, 3) := by decide +kernel
theorem d_Bo_bondOf_69 : decode prog_6_method_13_code 69 = .ok (.iconst 0, 1) := by decide +kernel
theorem d_Bo_bondOf_70 : decode prog_6_method_13_code 70 = .ok (.ireturn, 1) := by decide +kernel
theorem d_Bo_joined_0 : decode prog_6_method_14_code 0 = .ok (.iload_n 0, 1) := by decide +kernel
theorem d_Bo_joined_1 : decode prog_6_method_14_code 1 = .ok (.tableswitch 93 8 18 #[59, 63, 67, 71, 93, 93, 93, 93, 93, 85, 89], 59) := by decide +kernel
theorem d_Bo_joined_60 : decode prog_6_method_14_code 60 = .ok (.lload_n 1, 1) := by decide +kernel
theorem d_Bo_joined_61 : decode prog_6_method_14_code 61 = .ok (.lload_n 3, 1) := by decide +kernel
theorem d_Bo_joined_62 : decode prog_6_method_14_code 62 = .ok (.ladd, 1) := by decide +kernel
theorem d_Bo_joined_63 : decode prog_6_method_14_code 63 = .ok (.lreturn, 1) := by decide +kernel
theorem d_Bo_joined_64 : decode prog_6_method_14_code 64 = .ok (.lload_n 1, 1) := by decide +kernel
theorem d_Bo_joined_65 : decode prog_6_method_14_code 65 = .ok (.lload_n 3, 1) := by decide +kernel
theorem d_Bo_joined_66 : decode prog_6_method_14_code 66 = .ok (.lsub, 1) := by decide +kernel
theorem d_Bo_joined_67 : decode prog_6_method_14_code 67 = .ok (.lreturn, 1) := by decide +kernel
theorem d_Bo_joined_68 : decode prog_6_method_14_code 68 = .ok (.lload_n 1, 1) := by decide +kernel
theorem d_Bo_joined_69 : decode prog_6_method_14_code 69 = .ok (.lload_n 3, 1) := by decide +kernel
theorem d_Bo_joined_70 : decode prog_6_method_14_code 70 = .ok (.lmul, 1) := by decide +kernel
theorem d_Bo_joined_71 : decode prog_6_method_14_code 71 = .ok (.lreturn, 1) := by decide +kernel
theorem d_Bo_joined_72 : decode prog_6_method_14_code 72 = .ok (.lload_n 3, 1) := by decide +kernel
theorem d_Bo_joined_73 : decode prog_6_method_14_code 73 = .ok (.lconst 0, 1) := by decide +kernel
theorem d_Bo_joined_74 : decode prog_6_method_14_code 74 = .ok (.lcmp, 1) := by decide +kernel
theorem d_Bo_joined_75 : decode prog_6_method_14_code 75 = .ok (.ifCond .ne 7, 3) := by decide +kernel
theorem d_Bo_joined_78 : decode prog_6_method_14_code 78 = .ok (.lconst 0, 1) := by decide +kernel
theorem d_Bo_joined_79 : decode prog_6_method_14_code 79 = .ok (.goto 6, 3) := by decide +kernel
theorem d_Bo_joined_82 : decode prog_6_method_14_code 82 = .ok (.lload_n 1, 1) := by decide +kernel
theorem d_Bo_joined_83 : decode prog_6_method_14_code 83 = .ok (.lload_n 3, 1) := by decide +kernel
theorem d_Bo_joined_84 : decode prog_6_method_14_code 84 = .ok (.ldiv, 1) := by decide +kernel
theorem d_Bo_joined_85 : decode prog_6_method_14_code 85 = .ok (.lreturn, 1) := by decide +kernel
theorem d_Bo_joined_86 : decode prog_6_method_14_code 86 = .ok (.lload_n 1, 1) := by decide +kernel
theorem d_Bo_joined_87 : decode prog_6_method_14_code 87 = .ok (.lload_n 3, 1) := by decide +kernel
theorem d_Bo_joined_88 : decode prog_6_method_14_code 88 = .ok (.land, 1) := by decide +kernel
theorem d_Bo_joined_89 : decode prog_6_method_14_code 89 = .ok (.lreturn, 1) := by decide +kernel
theorem d_Bo_joined_90 : decode prog_6_method_14_code 90 = .ok (.lload_n 1, 1) := by decide +kernel
theorem d_Bo_joined_91 : decode prog_6_method_14_code 91 = .ok (.lload_n 3, 1) := by decide +kernel
theorem d_Bo_joined_92 : decode prog_6_method_14_code 92 = .ok (.lor, 1) := by decide +kernel
theorem d_Bo_joined_93 : decode prog_6_method_14_code 93 = .ok (.lreturn, 1) := by decide +kernel
theorem d_Bo_joined_94 : decode prog_6_method_14_code 94 = .ok (.iload_n 0, 1) := by decide +kernel
theorem d_Bo_joined_95 : decode prog_6_method_14_code 95 = .ok (.lload_n 1, 1) := by decide +kernel
theorem d_Bo_joined_96 : decode prog_6_method_14_code 96 = .ok (.lload_n 3, 1) := by decide +kernel
theorem d_Bo_joined_97 : decode prog_6_method_14_code 97 = .ok (.invokestatic 115, 3) := by decide +kernel
theorem d_Bo_joined_100 : decode prog_6_method_14_code 100 = .ok (.ifCond .eq 7, 3) := by decide +kernel
theorem d_Bo_joined_103 : decode prog_6_method_14_code 103 = .ok (.lconst 1, 1) := by decide +kernel
theorem d_Bo_joined_104 : decode prog_6_method_14_code 104 = .ok (.goto 4, 3) := by decide +kernel
theorem d_Bo_joined_107 : decode prog_6_method_14_code 107 = .ok (.lconst 0, 1) := by decide +kernel
theorem d_Bo_joined_108 : decode prog_6_method_14_code 108 = .ok (.lreturn, 1) := by decide +kernel
theorem d_Bo_holds_0 : decode prog_6_method_15_code 0 = .ok (.iload_n 0, 1) := by decide +kernel
theorem d_Bo_holds_1 : decode prog_6_method_15_code 1 = .ok (.tableswitch 79 12 15 #[31, 43, 55, 67], 31) := by decide +kernel
theorem d_Bo_holds_32 : decode prog_6_method_15_code 32 = .ok (.lload_n 1, 1) := by decide +kernel
theorem d_Bo_holds_33 : decode prog_6_method_15_code 33 = .ok (.lload_n 3, 1) := by decide +kernel
theorem d_Bo_holds_34 : decode prog_6_method_15_code 34 = .ok (.lcmp, 1) := by decide +kernel
theorem d_Bo_holds_35 : decode prog_6_method_15_code 35 = .ok (.ifCond .ge 7, 3) := by decide +kernel
theorem d_Bo_holds_38 : decode prog_6_method_15_code 38 = .ok (.iconst 1, 1) := by decide +kernel
theorem d_Bo_holds_39 : decode prog_6_method_15_code 39 = .ok (.goto 4, 3) := by decide +kernel
theorem d_Bo_holds_42 : decode prog_6_method_15_code 42 = .ok (.iconst 0, 1) := by decide +kernel
theorem d_Bo_holds_43 : decode prog_6_method_15_code 43 = .ok (.ireturn, 1) := by decide +kernel
theorem d_Bo_holds_44 : decode prog_6_method_15_code 44 = .ok (.lload_n 1, 1) := by decide +kernel
theorem d_Bo_holds_45 : decode prog_6_method_15_code 45 = .ok (.lload_n 3, 1) := by decide +kernel
theorem d_Bo_holds_46 : decode prog_6_method_15_code 46 = .ok (.lcmp, 1) := by decide +kernel
theorem d_Bo_holds_47 : decode prog_6_method_15_code 47 = .ok (.ifCond .gt 7, 3) := by decide +kernel
theorem d_Bo_holds_50 : decode prog_6_method_15_code 50 = .ok (.iconst 1, 1) := by decide +kernel
theorem d_Bo_holds_51 : decode prog_6_method_15_code 51 = .ok (.goto 4, 3) := by decide +kernel
theorem d_Bo_holds_54 : decode prog_6_method_15_code 54 = .ok (.iconst 0, 1) := by decide +kernel
theorem d_Bo_holds_55 : decode prog_6_method_15_code 55 = .ok (.ireturn, 1) := by decide +kernel
theorem d_Bo_holds_56 : decode prog_6_method_15_code 56 = .ok (.lload_n 1, 1) := by decide +kernel
theorem d_Bo_holds_57 : decode prog_6_method_15_code 57 = .ok (.lload_n 3, 1) := by decide +kernel
theorem d_Bo_holds_58 : decode prog_6_method_15_code 58 = .ok (.lcmp, 1) := by decide +kernel
theorem d_Bo_holds_59 : decode prog_6_method_15_code 59 = .ok (.ifCond .ne 7, 3) := by decide +kernel
theorem d_Bo_holds_62 : decode prog_6_method_15_code 62 = .ok (.iconst 1, 1) := by decide +kernel
theorem d_Bo_holds_63 : decode prog_6_method_15_code 63 = .ok (.goto 4, 3) := by decide +kernel
theorem d_Bo_holds_66 : decode prog_6_method_15_code 66 = .ok (.iconst 0, 1) := by decide +kernel
theorem d_Bo_holds_67 : decode prog_6_method_15_code 67 = .ok (.ireturn, 1) := by decide +kernel
theorem d_Bo_holds_68 : decode prog_6_method_15_code 68 = .ok (.lload_n 1, 1) := by decide +kernel
theorem d_Bo_holds_69 : decode prog_6_method_15_code 69 = .ok (.lload_n 3, 1) := by decide +kernel
theorem d_Bo_holds_70 : decode prog_6_method_15_code 70 = .ok (.lcmp, 1) := by decide +kernel
theorem d_Bo_holds_71 : decode prog_6_method_15_code 71 = .ok (.ifCond .lt 7, 3) := by decide +kernel
theorem d_Bo_holds_74 : decode prog_6_method_15_code 74 = .ok (.iconst 1, 1) := by decide +kernel
theorem d_Bo_holds_75 : decode prog_6_method_15_code 75 = .ok (.goto 4, 3) := by decide +kernel
theorem d_Bo_holds_78 : decode prog_6_method_15_code 78 = .ok (.iconst 0, 1) := by decide +kernel
theorem d_Bo_holds_79 : decode prog_6_method_15_code 79 = .ok (.ireturn, 1) := by decide +kernel
theorem d_Bo_holds_80 : decode prog_6_method_15_code 80 = .ok (.lload_n 1, 1) := by decide +kernel
theorem d_Bo_holds_81 : decode prog_6_method_15_code 81 = .ok (.lload_n 3, 1) := by decide +kernel
theorem d_Bo_holds_82 : decode prog_6_method_15_code 82 = .ok (.lcmp, 1) := by decide +kernel
theorem d_Bo_holds_83 : decode prog_6_method_15_code 83 = .ok (.ifCond .le 7, 3) := by decide +kernel
theorem d_Bo_holds_86 : decode prog_6_method_15_code 86 = .ok (.iconst 1, 1) := by decide +kernel
theorem d_Bo_holds_87 : decode prog_6_method_15_code 87 = .ok (.goto 4, 3) := by decide +kernel
theorem d_Bo_holds_90 : decode prog_6_method_15_code 90 = .ok (.iconst 0, 1) := by decide +kernel
theorem d_Bo_holds_91 : decode prog_6_method_15_code 91 = .ok (.ireturn, 1) := by decide +kernel
theorem d_Rr_read_0 : decode prog_7_method_2_code 0 = .ok (.aload_n 0, 1) := by decide +kernel
theorem d_Rr_read_1 : decode prog_7_method_2_code 1 = .ok (.iconst 0, 1) := by decide +kernel
theorem d_Rr_read_2 : decode prog_7_method_2_code 2 = .ok (.putfield 23, 3) := by decide +kernel
theorem d_Rr_read_5 : decode prog_7_method_2_code 5 = .ok (.aload_n 0, 1) := by decide +kernel
theorem d_Rr_read_6 : decode prog_7_method_2_code 6 = .ok (.iconst 0, 1) := by decide +kernel
theorem d_Rr_read_7 : decode prog_7_method_2_code 7 = .ok (.putfield 27, 3) := by decide +kernel
theorem d_Rr_read_10 : decode prog_7_method_2_code 10 = .ok (.aload_n 0, 1) := by decide +kernel
theorem d_Rr_read_11 : decode prog_7_method_2_code 11 = .ok (.iconst 0, 1) := by decide +kernel
theorem d_Rr_read_12 : decode prog_7_method_2_code 12 = .ok (.putfield 30, 3) := by decide +kernel
theorem d_Rr_read_15 : decode prog_7_method_2_code 15 = .ok (.aload_n 0, 1) := by decide +kernel
theorem d_Rr_read_16 : decode prog_7_method_2_code 16 = .ok (.iconst 0, 1) := by decide +kernel
theorem d_Rr_read_17 : decode prog_7_method_2_code 17 = .ok (.putfield 33, 3) := by decide +kernel
theorem d_Rr_read_20 : decode prog_7_method_2_code 20 = .ok (.aload_n 0, 1) := by decide +kernel
theorem d_Rr_read_21 : decode prog_7_method_2_code 21 = .ok (.iconst 0, 1) := by decide +kernel
theorem d_Rr_read_22 : decode prog_7_method_2_code 22 = .ok (.putfield 36, 3) := by decide +kernel
theorem d_Rr_read_25 : decode prog_7_method_2_code 25 = .ok (.aload_n 0, 1) := by decide +kernel
theorem d_Rr_read_26 : decode prog_7_method_2_code 26 = .ok (.bipush 8, 2) := by decide +kernel
theorem d_Rr_read_28 : decode prog_7_method_2_code 28 = .ok (.putfield 39, 3) := by decide +kernel
theorem d_Rr_read_31 : decode prog_7_method_2_code 31 = .ok (.aload_n 0, 1) := by decide +kernel
theorem d_Rr_read_32 : decode prog_7_method_2_code 32 = .ok (.invokevirtual 42, 3) := by decide +kernel
theorem d_Rr_read_35 : decode prog_7_method_2_code 35 = .ok (.iconst 0, 1) := by decide +kernel
theorem d_Rr_read_36 : decode prog_7_method_2_code 36 = .ok (.istore_n 1, 1) := by decide +kernel
theorem d_Rr_read_37 : decode prog_7_method_2_code 37 = .ok (.iload_n 1, 1) := by decide +kernel
theorem d_Rr_read_38 : decode prog_7_method_2_code 38 = .ok (.sipush 400, 3) := by decide +kernel
theorem d_Rr_read_41 : decode prog_7_method_2_code 41 = .ok (.if_icmp .gt 71, 3) := by decide +kernel
theorem d_Rr_read_44 : decode prog_7_method_2_code 44 = .ok (.aload_n 0, 1) := by decide +kernel
theorem d_Rr_read_45 : decode prog_7_method_2_code 45 = .ok (.getfield 15, 3) := by decide +kernel
theorem d_Rr_read_48 : decode prog_7_method_2_code 48 = .ok (.invokevirtual 45, 3) := by decide +kernel
theorem d_Rr_read_51 : decode prog_7_method_2_code 51 = .ok (.ifCond .eq 61, 3) := by decide +kernel
theorem d_Rr_read_54 : decode prog_7_method_2_code 54 = .ok (.aload_n 0, 1) := by decide +kernel
theorem d_Rr_read_55 : decode prog_7_method_2_code 55 = .ok (.getfield 39, 3) := by decide +kernel
theorem d_Rr_read_58 : decode prog_7_method_2_code 58 = .ok (.bipush 8, 2) := by decide +kernel
theorem d_Rr_read_60 : decode prog_7_method_2_code 60 = .ok (.if_icmp .eq 52, 3) := by decide +kernel
theorem d_Rr_read_63 : decode prog_7_method_2_code 63 = .ok (.aload_n 0, 1) := by decide +kernel
theorem d_Rr_read_64 : decode prog_7_method_2_code 64 = .ok (.getfield 39, 3) := by decide +kernel
theorem d_Rr_read_67 : decode prog_7_method_2_code 67 = .ok (.bipush 6, 2) := by decide +kernel
theorem d_Rr_read_69 : decode prog_7_method_2_code 69 = .ok (.if_icmp .ne 17, 3) := by decide +kernel
theorem d_Rr_read_72 : decode prog_7_method_2_code 72 = .ok (.aload_n 0, 1) := by decide +kernel
theorem d_Rr_read_73 : decode prog_7_method_2_code 73 = .ok (.invokevirtual 51, 3) := by decide +kernel
theorem d_Rr_read_76 : decode prog_7_method_2_code 76 = .ok (.ifCond .eq 10, 3) := by decide +kernel
theorem d_Rr_read_79 : decode prog_7_method_2_code 79 = .ok (.aload_n 0, 1) := by decide +kernel
theorem d_Rr_read_80 : decode prog_7_method_2_code 80 = .ok (.invokevirtual 54, 3) := by decide +kernel
theorem d_Rr_read_83 : decode prog_7_method_2_code 83 = .ok (.goto 23, 3) := by decide +kernel
theorem d_Rr_read_86 : decode prog_7_method_2_code 86 = .ok (.aload_n 0, 1) := by decide +kernel
theorem d_Rr_read_87 : decode prog_7_method_2_code 87 = .ok (.getfield 39, 3) := by decide +kernel
theorem d_Rr_read_90 : decode prog_7_method_2_code 90 = .ok (.iconst 2, 1) := by decide +kernel
theorem d_Rr_read_91 : decode prog_7_method_2_code 91 = .ok (.irem, 1) := by decide +kernel
theorem d_Rr_read_92 : decode prog_7_method_2_code 92 = .ok (.ifCond .ne 10, 3) := by decide +kernel
theorem d_Rr_read_95 : decode prog_7_method_2_code 95 = .ok (.aload_n 0, 1) := by decide +kernel
theorem d_Rr_read_96 : decode prog_7_method_2_code 96 = .ok (.invokevirtual 57, 3) := by decide +kernel
theorem d_Rr_read_99 : decode prog_7_method_2_code 99 = .ok (.goto 7, 3) := by decide +kernel
theorem d_Rr_read_102 : decode prog_7_method_2_code 102 = .ok (.aload_n 0, 1) := by decide +kernel
theorem d_Rr_read_103 : decode prog_7_method_2_code 103 = .ok (.invokevirtual 60, 3) := by decide +kernel
theorem d_Rr_read_106 : decode prog_7_method_2_code 106 = .ok (.iinc 1 1, 3) := by decide +kernel
theorem d_Rr_read_109 : decode prog_7_method_2_code 109 = .ok (.goto (-72), 3) := by decide +kernel
theorem d_Rr_read_112 : decode prog_7_method_2_code 112 = .ok (.return_, 1) := by decide +kernel
theorem d_Rr_startClause_0 : decode prog_7_method_3_code 0 = .ok (.aload_n 0, 1) := by decide +kernel
theorem d_Rr_startClause_1 : decode prog_7_method_3_code 1 = .ok (.getfield 15, 3) := by decide +kernel
theorem d_Rr_startClause_4 : decode prog_7_method_3_code 4 = .ok (.ldc 63, 2) := by decide +kernel
theorem d_Rr_startClause_6 : decode prog_7_method_3_code 6 = .ok (.invokevirtual 65, 3) := by decide +kernel
theorem d_Rr_startClause_9 : decode prog_7_method_3_code 9 = .ok (.ifCond .ne 21, 3) := by decide +kernel
theorem d_Rr_startClause_12 : decode prog_7_method_3_code 12 = .ok (.aload_n 0, 1) := by decide +kernel
theorem d_Rr_startClause_13 : decode prog_7_method_3_code 13 = .ok (.getfield 15, 3) := by decide +kernel
theorem d_Rr_startClause_16 : decode prog_7_method_3_code 16 = .ok (.aload_n 0, 1) := by decide +kernel
theorem d_Rr_startClause_17 : decode prog_7_method_3_code 17 = .ok (.getfield 15, 3) := by decide +kernel
theorem d_Rr_startClause_20 : decode prog_7_method_3_code 20 = .ok (.getfield 69, 3) := by decide +kernel
theorem d_Rr_startClause_23 : decode prog_7_method_3_code 23 = .ok (.iconst 0, 1) := by decide +kernel
theorem d_Rr_startClause_24 : decode prog_7_method_3_code 24 = .ok (.invokevirtual 72, 3) := by decide +kernel
theorem d_Rr_startClause_27 : decode prog_7_method_3_code 27 = .ok (.goto 55, 3) := by decide +kernel
theorem d_Rr_startClause_30 : decode prog_7_method_3_code 30 = .ok (.aload_n 0, 1) := by decide +kernel
theorem d_Rr_startClause_31 : decode prog_7_method_3_code 31 = .ok (.getfield 33, 3) := by decide +kernel
theorem d_Rr_startClause_34 : decode prog_7_method_3_code 34 = .ok (.bipush 12, 2) := by decide +kernel
theorem d_Rr_startClause_36 : decode prog_7_method_3_code 36 = .ok (.if_icmp .lt 21, 3) := by decide +kernel
theorem d_Rr_startClause_39 : decode prog_7_method_3_code 39 = .ok (.aload_n 0, 1) := by decide +kernel
theorem d_Rr_startClause_40 : decode prog_7_method_3_code 40 = .ok (.getfield 15, 3) := by decide +kernel
theorem d_Rr_startClause_43 : decode prog_7_method_3_code 43 = .ok (.aload_n 0, 1) := by decide +kernel
theorem d_Rr_startClause_44 : decode prog_7_method_3_code 44 = .ok (.getfield 15, 3) := by decide +kernel
theorem d_Rr_startClause_47 : decode prog_7_method_3_code 47 = .ok (.getfield 69, 3) := by decide +kernel
theorem d_Rr_startClause_50 : decode prog_7_method_3_code 50 = .ok (.iconst 4, 1) := by decide +kernel
theorem d_Rr_startClause_51 : decode prog_7_method_3_code 51 = .ok (.invokevirtual 72, 3) := by decide +kernel
theorem d_Rr_startClause_54 : decode prog_7_method_3_code 54 = .ok (.goto 28, 3) := by decide +kernel
theorem d_Rr_startClause_57 : decode prog_7_method_3_code 57 = .ok (.aload_n 0, 1) := by decide +kernel
theorem d_Rr_startClause_58 : decode prog_7_method_3_code 58 = .ok (.getfield 15, 3) := by decide +kernel
theorem d_Rr_startClause_61 : decode prog_7_method_3_code 61 = .ok (.ldc 63, 2) := by decide +kernel
theorem d_Rr_startClause_63 : decode prog_7_method_3_code 63 = .ok (.invokevirtual 76, 3) := by decide +kernel
theorem d_Rr_startClause_66 : decode prog_7_method_3_code 66 = .ok (.pop, 1) := by decide +kernel
theorem d_Rr_startClause_67 : decode prog_7_method_3_code 67 = .ok (.aload_n 0, 1) := by decide +kernel
theorem d_Rr_startClause_68 : decode prog_7_method_3_code 68 = .ok (.dup, 1) := by decide +kernel
theorem d_Rr_startClause_69 : decode prog_7_method_3_code 69 = .ok (.getfield 33, 3) := by decide +kernel
theorem d_Rr_startClause_72 : decode prog_7_method_3_code 72 = .ok (.iconst 1, 1) := by decide +kernel
theorem d_Rr_startClause_73 : decode prog_7_method_3_code 73 = .ok (.iadd, 1) := by decide +kernel
theorem d_Rr_startClause_74 : decode prog_7_method_3_code 74 = .ok (.putfield 33, 3) := by decide +kernel
theorem d_Rr_startClause_77 : decode prog_7_method_3_code 77 = .ok (.aload_n 0, 1) := by decide +kernel
theorem d_Rr_startClause_78 : decode prog_7_method_3_code 78 = .ok (.iconst 0, 1) := by decide +kernel
theorem d_Rr_startClause_79 : decode prog_7_method_3_code 79 = .ok (.putfield 39, 3) := by decide +kernel
theorem d_Rr_startClause_82 : decode prog_7_method_3_code 82 = .ok (.return_, 1) := by decide +kernel
theorem d_Rr_isOpener_0 : decode prog_7_method_4_code 0 = .ok (.aload_n 0, 1) := by decide +kernel
theorem d_Rr_isOpener_1 : decode prog_7_method_4_code 1 = .ok (.getfield 15, 3) := by decide +kernel
theorem d_Rr_isOpener_4 : decode prog_7_method_4_code 4 = .ok (.invokevirtual 79, 3) := by decide +kernel
theorem d_Rr_isOpener_7 : decode prog_7_method_4_code 7 = .ok (.bipush 91, 2) := by decide +kernel
theorem d_Rr_isOpener_9 : decode prog_7_method_4_code 9 = .ok (.if_icmp .eq 15, 3) := by decide +kernel
theorem d_Rr_isOpener_12 : decode prog_7_method_4_code 12 = .ok (.aload_n 0, 1) := by decide +kernel
theorem d_Rr_isOpener_13 : decode prog_7_method_4_code 13 = .ok (.getfield 15, 3) := by decide +kernel
theorem d_Rr_isOpener_16 : decode prog_7_method_4_code 16 = .ok (.ldc 83, 2) := by decide +kernel
theorem d_Rr_isOpener_18 : decode prog_7_method_4_code 18 = .ok (.invokevirtual 65, 3) := by decide +kernel
theorem d_Rr_isOpener_21 : decode prog_7_method_4_code 21 = .ok (.ifCond .eq 7, 3) := by decide +kernel
theorem d_Rr_isOpener_24 : decode prog_7_method_4_code 24 = .ok (.iconst 1, 1) := by decide +kernel
theorem d_Rr_isOpener_25 : decode prog_7_method_4_code 25 = .ok (.goto 4, 3) := by decide +kernel
theorem d_Rr_isOpener_28 : decode prog_7_method_4_code 28 = .ok (.iconst 0, 1) := by decide +kernel
theorem d_Rr_isOpener_29 : decode prog_7_method_4_code 29 = .ok (.ireturn, 1) := by decide +kernel
theorem d_Rr_readOpener_0 : decode prog_7_method_5_code 0 = .ok (.aload_n 0, 1) := by decide +kernel
theorem d_Rr_readOpener_1 : decode prog_7_method_5_code 1 = .ok (.getfield 27, 3) := by decide +kernel
theorem d_Rr_readOpener_4 : decode prog_7_method_5_code 4 = .ok (.bipush 10, 2) := by decide +kernel
theorem d_Rr_readOpener_6 : decode prog_7_method_5_code 6 = .ok (.if_icmp .lt 21, 3) := by decide +kernel
theorem d_Rr_readOpener_9 : decode prog_7_method_5_code 9 = .ok (.aload_n 0, 1) := by decide +kernel
theorem d_Rr_readOpener_10 : decode prog_7_method_5_code 10 = .ok (.getfield 15, 3) := by decide +kernel
theorem d_Rr_readOpener_13 : decode prog_7_method_5_code 13 = .ok (.aload_n 0, 1) := by decide +kernel
theorem d_Rr_readOpener_14 : decode prog_7_method_5_code 14 = .ok (.getfield 15, 3) := by decide +kernel
theorem d_Rr_readOpener_17 : decode prog_7_method_5_code 17 = .ok (.getfield 69, 3) := by decide +kernel
theorem d_Rr_readOpener_20 : decode prog_7_method_5_code 20 = .ok (.iconst 2, 1) := by decide +kernel
theorem d_Rr_readOpener_21 : decode prog_7_method_5_code 21 = .ok (.invokevirtual 72, 3) := by decide +kernel
theorem d_Rr_readOpener_24 : decode prog_7_method_5_code 24 = .ok (.goto 50, 3) := by decide +kernel
theorem d_Rr_readOpener_27 : decode prog_7_method_5_code 27 = .ok (.aload_n 0, 1) := by decide +kernel
theorem d_Rr_readOpener_28 : decode prog_7_method_5_code 28 = .ok (.getfield 15, 3) := by decide +kernel
theorem d_Rr_readOpener_31 : decode prog_7_method_5_code 31 = .ok (.bipush 91, 2) := by decide +kernel
theorem d_Rr_readOpener_33 : decode prog_7_method_5_code 33 = .ok (.invokevirtual 85, 3) := by decide +kernel
theorem d_Rr_readOpener_36 : decode prog_7_method_5_code 36 = .ok (.ifCond .eq 22, 3) := by decide +kernel
theorem d_Rr_readOpener_39 : decode prog_7_method_5_code 39 = .ok (.aload_n 0, 1) := by decide +kernel
theorem d_Rr_readOpener_40 : decode prog_7_method_5_code 40 = .ok (.dup, 1) := by decide +kernel
theorem d_Rr_readOpener_41 : decode prog_7_method_5_code 41 = .ok (.getfield 30, 3) := by decide +kernel
theorem d_Rr_readOpener_44 : decode prog_7_method_5_code 44 = .ok (.iconst 1, 1) := by decide +kernel
theorem d_Rr_readOpener_45 : decode prog_7_method_5_code 45 = .ok (.iadd, 1) := by decide +kernel
theorem d_Rr_readOpener_46 : decode prog_7_method_5_code 46 = .ok (.putfield 30, 3) := by decide +kernel
theorem d_Rr_readOpener_49 : decode prog_7_method_5_code 49 = .ok (.aload_n 0, 1) := by decide +kernel
theorem d_Rr_readOpener_50 : decode prog_7_method_5_code 50 = .ok (.bipush 22, 2) := by decide +kernel
theorem d_Rr_readOpener_52 : decode prog_7_method_5_code 52 = .ok (.invokevirtual 89, 3) := by decide +kernel
theorem d_Rr_readOpener_55 : decode prog_7_method_5_code 55 = .ok (.goto 19, 3) := by decide +kernel
theorem d_Rr_readOpener_58 : decode prog_7_method_5_code 58 = .ok (.aload_n 0, 1) := by decide +kernel
theorem d_Rr_readOpener_59 : decode prog_7_method_5_code 59 = .ok (.getfield 15, 3) := by decide +kernel
theorem d_Rr_readOpener_62 : decode prog_7_method_5_code 62 = .ok (.ldc 83, 2) := by decide +kernel
theorem d_Rr_readOpener_64 : decode prog_7_method_5_code 64 = .ok (.invokevirtual 76, 3) := by decide +kernel
theorem d_Rr_readOpener_67 : decode prog_7_method_5_code 67 = .ok (.pop, 1) := by decide +kernel
theorem d_Rr_readOpener_68 : decode prog_7_method_5_code 68 = .ok (.aload_n 0, 1) := by decide +kernel
theorem d_Rr_readOpener_69 : decode prog_7_method_5_code 69 = .ok (.bipush 19, 2) := by decide +kernel
theorem d_Rr_readOpener_71 : decode prog_7_method_5_code 71 = .ok (.invokevirtual 89, 3) := by decide +kernel
theorem d_Rr_readOpener_74 : decode prog_7_method_5_code 74 = .ok (.return_, 1) := by decide +kernel
theorem d_Rr_readValue_0 : decode prog_7_method_6_code 0 = .ok (.aload_n 0, 1) := by decide +kernel
theorem d_Rr_readValue_1 : decode prog_7_method_6_code 1 = .ok (.getfield 15, 3) := by decide +kernel
theorem d_Rr_readValue_4 : decode prog_7_method_6_code 4 = .ok (.invokevirtual 95, 3) := by decide +kernel
theorem d_Rr_readValue_7 : decode prog_7_method_6_code 7 = .ok (.istore_n 1, 1) := by decide +kernel
theorem d_Rr_readValue_8 : decode prog_7_method_6_code 8 = .ok (.aload_n 0, 1) := by decide +kernel
theorem d_Rr_readValue_9 : decode prog_7_method_6_code 9 = .ok (.getfield 15, 3) := by decide +kernel
theorem d_Rr_readValue_12 : decode prog_7_method_6_code 12 = .ok (.getfield 69, 3) := by decide +kernel
theorem d_Rr_readValue_15 : decode prog_7_method_6_code 15 = .ok (.istore_n 2, 1) := by decide +kernel
theorem d_Rr_readValue_16 : decode prog_7_method_6_code 16 = .ok (.iload_n 1, 1) := by decide +kernel
theorem d_Rr_readValue_17 : decode prog_7_method_6_code 17 = .ok (.ifCond .eq 16, 3) := by decide +kernel
theorem d_Rr_readValue_20 : decode prog_7_method_6_code 20 = .ok (.bipush 32, 2) := by decide +kernel
theorem d_Rr_readValue_22 : decode prog_7_method_6_code 22 = .ok (.aload_n 0, 1) := by decide +kernel
theorem d_Rr_readValue_23 : decode prog_7_method_6_code 23 = .ok (.getfield 15, 3) := by decide +kernel
theorem d_Rr_readValue_26 : decode prog_7_method_6_code 26 = .ok (.invokevirtual 98, 3) := by decide +kernel
theorem d_Rr_readValue_29 : decode prog_7_method_6_code 29 = .ok (.iadd, 1) := by decide +kernel
theorem d_Rr_readValue_30 : decode prog_7_method_6_code 30 = .ok (.goto 7, 3) := by decide +kernel
theorem d_Rr_readValue_33 : decode prog_7_method_6_code 33 = .ok (.aload_n 0, 1) := by decide +kernel
theorem d_Rr_readValue_34 : decode prog_7_method_6_code 34 = .ok (.invokevirtual 101, 3) := by decide +kernel
theorem d_Rr_readValue_37 : decode prog_7_method_6_code 37 = .ok (.istore_n 3, 1) := by decide +kernel
theorem d_Rr_readValue_38 : decode prog_7_method_6_code 38 = .ok (.aload_n 0, 1) := by decide +kernel
theorem d_Rr_readValue_39 : decode prog_7_method_6_code 39 = .ok (.getfield 15, 3) := by decide +kernel
theorem d_Rr_readValue_42 : decode prog_7_method_6_code 42 = .ok (.invokevirtual 45, 3) := by decide +kernel
theorem d_Rr_readValue_45 : decode prog_7_method_6_code 45 = .ok (.ifCond .eq 42, 3) := by decide +kernel
theorem d_Rr_readValue_48 : decode prog_7_method_6_code 48 = .ok (.aload_n 0, 1) := by decide +kernel
theorem d_Rr_readValue_49 : decode prog_7_method_6_code 49 = .ok (.iload_n 2, 1) := by decide +kernel
theorem d_Rr_readValue_50 : decode prog_7_method_6_code 50 = .ok (.invokevirtual 104, 3) := by decide +kernel
theorem d_Rr_readValue_53 : decode prog_7_method_6_code 53 = .ok (.ifCond .eq 34, 3) := by decide +kernel
theorem d_Rr_readValue_56 : decode prog_7_method_6_code 56 = .ok (.aload_n 0, 1) := by decide +kernel
theorem d_Rr_readValue_57 : decode prog_7_method_6_code 57 = .ok (.getfield 19, 3) := by decide +kernel
theorem d_Rr_readValue_60 : decode prog_7_method_6_code 60 = .ok (.iload_n 3, 1) := by decide +kernel
theorem d_Rr_readValue_61 : decode prog_7_method_6_code 61 = .ok (.invokevirtual 108, 3) := by decide +kernel
theorem d_Rr_readValue_64 : decode prog_7_method_6_code 64 = .ok (.aload_n 0, 1) := by decide +kernel
theorem d_Rr_readValue_65 : decode prog_7_method_6_code 65 = .ok (.aload_n 0, 1) := by decide +kernel
theorem d_Rr_readValue_66 : decode prog_7_method_6_code 66 = .ok (.getfield 39, 3) := by decide +kernel
theorem d_Rr_readValue_69 : decode prog_7_method_6_code 69 = .ok (.bipush 6, 2) := by decide +kernel
theorem d_Rr_readValue_71 : decode prog_7_method_6_code 71 = .ok (.if_icmp .ne 7, 3) := by decide +kernel
theorem d_Rr_readValue_74 : decode prog_7_method_6_code 74 = .ok (.iconst 3, 1) := by decide +kernel
theorem d_Rr_readValue_75 : decode prog_7_method_6_code 75 = .ok (.goto 9, 3) := by decide +kernel
theorem d_Rr_readValue_78 : decode prog_7_method_6_code 78 = .ok (.aload_n 0, 1) := by decide +kernel
theorem d_Rr_readValue_79 : decode prog_7_method_6_code 79 = .ok (.getfield 39, 3) := by decide +kernel
theorem d_Rr_readValue_82 : decode prog_7_method_6_code 82 = .ok (.iconst 1, 1) := by decide +kernel
theorem d_Rr_readValue_83 : decode prog_7_method_6_code 83 = .ok (.iadd, 1) := by decide +kernel
theorem d_Rr_readValue_84 : decode prog_7_method_6_code 84 = .ok (.putfield 39, 3) := by decide +kernel
theorem d_Rr_readValue_87 : decode prog_7_method_6_code 87 = .ok (.return_, 1) := by decide +kernel
theorem d_Rr_takeValueWord_0 : decode prog_7_method_7_code 0 = .ok (.iconst 0, 1) := by decide +kernel
theorem d_Rr_takeValueWord_1 : decode prog_7_method_7_code 1 = .ok (.istore_n 1, 1) := by decide +kernel
theorem d_Rr_takeValueWord_2 : decode prog_7_method_7_code 2 = .ok (.iload_n 1, 1) := by decide +kernel
theorem d_Rr_takeValueWord_3 : decode prog_7_method_7_code 3 = .ok (.bipush 7, 2) := by decide +kernel
theorem d_Rr_takeValueWord_5 : decode prog_7_method_7_code 5 = .ok (.if_icmp .gt 25, 3) := by decide +kernel
theorem d_Rr_takeValueWord_8 : decode prog_7_method_7_code 8 = .ok (.aload_n 0, 1) := by decide +kernel
theorem d_Rr_takeValueWord_9 : decode prog_7_method_7_code 9 = .ok (.getfield 15, 3) := by decide +kernel
theorem d_Rr_takeValueWord_12 : decode prog_7_method_7_code 12 = .ok (.iload_n 1, 1) := by decide +kernel
theorem d_Rr_takeValueWord_13 : decode prog_7_method_7_code 13 = .ok (.invokestatic 111, 3) := by decide +kernel
theorem d_Rr_takeValueWord_16 : decode prog_7_method_7_code 16 = .ok (.invokevirtual 76, 3) := by decide +kernel
theorem d_Rr_takeValueWord_19 : decode prog_7_method_7_code 19 = .ok (.ifCond .eq 5, 3) := by decide +kernel
theorem d_Rr_takeValueWord_22 : decode prog_7_method_7_code 22 = .ok (.iload_n 1, 1) := by decide +kernel
theorem d_Rr_takeValueWord_23 : decode prog_7_method_7_code 23 = .ok (.ireturn, 1) := by decide +kernel
theorem d_Rr_takeValueWord_24 : decode prog_7_method_7_code 24 = .ok (.iinc 1 1, 3) := by decide +kernel
theorem d_Rr_takeValueWord_27 : decode prog_7_method_7_code 27 = .ok (.goto (-25), 3) := by decide +kernel
theorem d_Rr_takeValueWord_30 : decode prog_7_method_7_code 30 = .ok (.aload_n 0, 1) := by decide +kernel
theorem d_Rr_takeValueWord_31 : decode prog_7_method_7_code 31 = .ok (.getfield 15, 3) := by decide +kernel
theorem d_Rr_takeValueWord_34 : decode prog_7_method_7_code 34 = .ok (.aload_n 0, 1) := by decide +kernel
theorem d_Rr_takeValueWord_35 : decode prog_7_method_7_code 35 = .ok (.getfield 15, 3) := by decide +kernel
theorem d_Rr_takeValueWord_38 : decode prog_7_method_7_code 38 = .ok (.getfield 69, 3) := by decide +kernel
theorem d_Rr_takeValueWord_41 : decode prog_7_method_7_code 41 = .ok (.iconst 0, 1) := by decide +kernel
theorem d_Rr_takeValueWord_42 : decode prog_7_method_7_code 42 = .ok (.invokevirtual 72, 3) := by decide +kernel
theorem d_Rr_takeValueWord_45 : decode prog_7_method_7_code 45 = .ok (.iconst (-1), 1) := by decide +kernel
theorem d_Rr_takeValueWord_46 : decode prog_7_method_7_code 46 = .ok (.ireturn, 1) := by decide +kernel
theorem d_Rr_isRoomForValue_0 : decode prog_7_method_8_code 0 = .ok (.aload_n 0, 1) := by decide +kernel
theorem d_Rr_isRoomForValue_1 : decode prog_7_method_8_code 1 = .ok (.getfield 36, 3) := by decide +kernel
theorem d_Rr_isRoomForValue_4 : decode prog_7_method_8_code 4 = .ok (.bipush 60, 2) := by decide +kernel
theorem d_Rr_isRoomForValue_6 : decode prog_7_method_8_code 6 = .ok (.if_icmp .lt 14, 3) := by decide +kernel
theorem d_Rr_isRoomForValue_9 : decode prog_7_method_8_code 9 = .ok (.aload_n 0, 1) := by decide +kernel
theorem d_Rr_isRoomForValue_10 : decode prog_7_method_8_code 10 = .ok (.getfield 15, 3) := by decide +kernel
theorem d_Rr_isRoomForValue_13 : decode prog_7_method_8_code 13 = .ok (.iload_n 1, 1) := by decide +kernel
theorem d_Rr_isRoomForValue_14 : decode prog_7_method_8_code 14 = .ok (.iconst 3, 1) := by decide +kernel
theorem d_Rr_isRoomForValue_15 : decode prog_7_method_8_code 15 = .ok (.invokevirtual 72, 3) := by decide +kernel
theorem d_Rr_isRoomForValue_18 : decode prog_7_method_8_code 18 = .ok (.iconst 0, 1) := by decide +kernel
theorem d_Rr_isRoomForValue_19 : decode prog_7_method_8_code 19 = .ok (.ireturn, 1) := by decide +kernel
theorem d_Rr_isRoomForValue_20 : decode prog_7_method_8_code 20 = .ok (.aload_n 0, 1) := by decide +kernel
theorem d_Rr_isRoomForValue_21 : decode prog_7_method_8_code 21 = .ok (.dup, 1) := by decide +kernel
theorem d_Rr_isRoomForValue_22 : decode prog_7_method_8_code 22 = .ok (.getfield 36, 3) := by decide +kernel
theorem d_Rr_isRoomForValue_25 : decode prog_7_method_8_code 25 = .ok (.iconst 1, 1) := by decide +kernel
theorem d_Rr_isRoomForValue_26 : decode prog_7_method_8_code 26 = .ok (.iadd, 1) := by decide +kernel
theorem d_Rr_isRoomForValue_27 : decode prog_7_method_8_code 27 = .ok (.putfield 36, 3) := by decide +kernel
theorem d_Rr_isRoomForValue_30 : decode prog_7_method_8_code 30 = .ok (.iconst 1, 1) := by decide +kernel
theorem d_Rr_isRoomForValue_31 : decode prog_7_method_8_code 31 = .ok (.ireturn, 1) := by decide +kernel
theorem d_Rr_readBehind_0 : decode prog_7_method_9_code 0 = .ok (.aload_n 0, 1) := by decide +kernel
theorem d_Rr_readBehind_1 : decode prog_7_method_9_code 1 = .ok (.getfield 15, 3) := by decide +kernel
theorem d_Rr_readBehind_4 : decode prog_7_method_9_code 4 = .ok (.invokevirtual 79, 3) := by decide +kernel
theorem d_Rr_readBehind_7 : decode prog_7_method_9_code 7 = .ok (.istore_n 1, 1) := by decide +kernel
theorem d_Rr_readBehind_8 : decode prog_7_method_9_code 8 = .ok (.aload_n 0, 1) := by decide +kernel
theorem d_Rr_readBehind_9 : decode prog_7_method_9_code 9 = .ok (.getfield 39, 3) := by decide +kernel
theorem d_Rr_readBehind_12 : decode prog_7_method_9_code 12 = .ok (.bipush 7, 2) := by decide +kernel
theorem d_Rr_readBehind_14 : decode prog_7_method_9_code 14 = .ok (.if_icmp .ne 7, 3) := by decide +kernel
theorem d_Rr_readBehind_17 : decode prog_7_method_9_code 17 = .ok (.iconst (-1), 1) := by decide +kernel
theorem d_Rr_readBehind_18 : decode prog_7_method_9_code 18 = .ok (.goto 7, 3) := by decide +kernel
theorem d_Rr_readBehind_21 : decode prog_7_method_9_code 21 = .ok (.iload_n 1, 1) := by decide +kernel
theorem d_Rr_readBehind_22 : decode prog_7_method_9_code 22 = .ok (.invokestatic 115, 3) := by decide +kernel
theorem d_Rr_readBehind_25 : decode prog_7_method_9_code 25 = .ok (.istore_n 2, 1) := by decide +kernel
theorem d_Rr_readBehind_26 : decode prog_7_method_9_code 26 = .ok (.iload_n 2, 1) := by decide +kernel
theorem d_Rr_readBehind_27 : decode prog_7_method_9_code 27 = .ok (.iconst (-1), 1) := by decide +kernel
theorem d_Rr_readBehind_28 : decode prog_7_method_9_code 28 = .ok (.if_icmp .eq 30, 3) := by decide +kernel
theorem d_Rr_readBehind_31 : decode prog_7_method_9_code 31 = .ok (.aload_n 0, 1) := by decide +kernel
theorem d_Rr_readBehind_32 : decode prog_7_method_9_code 32 = .ok (.getfield 15, 3) := by decide +kernel
theorem d_Rr_readBehind_35 : decode prog_7_method_9_code 35 = .ok (.dup, 1) := by decide +kernel
theorem d_Rr_readBehind_36 : decode prog_7_method_9_code 36 = .ok (.getfield 69, 3) := by decide +kernel
theorem d_Rr_readBehind_39 : decode prog_7_method_9_code 39 = .ok (.iconst 1, 1) := by decide +kernel
theorem d_Rr_readBehind_40 : decode prog_7_method_9_code 40 = .ok (.iadd, 1) := by decide +kernel
theorem d_Rr_readBehind_41 : decode prog_7_method_9_code 41 = .ok (.putfield 69, 3) := by decide +kernel
theorem d_Rr_readBehind_44 : decode prog_7_method_9_code 44 = .ok (.aload_n 0, 1) := by decide +kernel
theorem d_Rr_readBehind_45 : decode prog_7_method_9_code 45 = .ok (.iload_n 2, 1) := by decide +kernel
theorem d_Rr_readBehind_46 : decode prog_7_method_9_code 46 = .ok (.aload_n 0, 1) := by decide +kernel
theorem d_Rr_readBehind_47 : decode prog_7_method_9_code 47 = .ok (.getfield 39, 3) := by decide +kernel
theorem d_Rr_readBehind_50 : decode prog_7_method_9_code 50 = .ok (.iconst 1, 1) := by decide +kernel
theorem d_Rr_readBehind_51 : decode prog_7_method_9_code 51 = .ok (.isub, 1) := by decide +kernel
theorem d_Rr_readBehind_52 : decode prog_7_method_9_code 52 = .ok (.invokevirtual 119, 3) := by decide +kernel
theorem d_Rr_readBehind_55 : decode prog_7_method_9_code 55 = .ok (.goto 134, 3) := by decide +kernel
theorem d_Rr_readBehind_58 : decode prog_7_method_9_code 58 = .ok (.aload_n 0, 1) := by decide +kernel
theorem d_Rr_readBehind_59 : decode prog_7_method_9_code 59 = .ok (.getfield 39, 3) := by decide +kernel
theorem d_Rr_readBehind_62 : decode prog_7_method_9_code 62 = .ok (.iconst 3, 1) := by decide +kernel
theorem d_Rr_readBehind_63 : decode prog_7_method_9_code 63 = .ok (.if_icmp .ne 11, 3) := by decide +kernel
theorem d_Rr_readBehind_66 : decode prog_7_method_9_code 66 = .ok (.aload_n 0, 1) := by decide +kernel
theorem d_Rr_readBehind_67 : decode prog_7_method_9_code 67 = .ok (.iload_n 1, 1) := by decide +kernel
theorem d_Rr_readBehind_68 : decode prog_7_method_9_code 68 = .ok (.invokevirtual 122, 3) := by decide +kernel
theorem d_Rr_readBehind_71 : decode prog_7_method_9_code 71 = .ok (.goto 118, 3) := by decide +kernel
theorem d_Rr_readBehind_74 : decode prog_7_method_9_code 74 = .ok (.aload_n 0, 1) := by decide +kernel
theorem d_Rr_readBehind_75 : decode prog_7_method_9_code 75 = .ok (.getfield 39, 3) := by decide +kernel
theorem d_Rr_readBehind_78 : decode prog_7_method_9_code 78 = .ok (.iconst 1, 1) := by decide +kernel
theorem d_Rr_readBehind_79 : decode prog_7_method_9_code 79 = .ok (.if_icmp .ne 30, 3) := by decide +kernel
theorem d_Rr_readBehind_82 : decode prog_7_method_9_code 82 = .ok (.aload_n 0, 1) := by decide +kernel
theorem d_Rr_readBehind_83 : decode prog_7_method_9_code 83 = .ok (.getfield 15, 3) := by decide +kernel
theorem d_Rr_readBehind_86 : decode prog_7_method_9_code 86 = .ok (.ldc 125, 2) := by decide +kernel
theorem d_Rr_readBehind_88 : decode prog_7_method_9_code 88 = .ok (.invokevirtual 76, 3) := by decide +kernel
theorem d_Rr_readBehind_91 : decode prog_7_method_9_code 91 = .ok (.ifCond .eq 18, 3) := by decide +kernel
theorem d_Rr_readBehind_94 : decode prog_7_method_9_code 94 = .ok (.aload_n 0, 1) := by decide +kernel
theorem d_Rr_readBehind_95 : decode prog_7_method_9_code 95 = .ok (.bipush 18, 2) := by decide +kernel
theorem d_Rr_readBehind_97 : decode prog_7_method_9_code 97 = .ok (.invokevirtual 127, 3) := by decide +kernel
theorem d_Rr_readBehind_100 : decode prog_7_method_9_code 100 = .ok (.aload_n 0, 1) := by decide +kernel
theorem d_Rr_readBehind_101 : decode prog_7_method_9_code 101 = .ok (.bipush 6, 2) := by decide +kernel
theorem d_Rr_readBehind_103 : decode prog_7_method_9_code 103 = .ok (.putfield 39, 3) := by decide +kernel
theorem d_Rr_readBehind_106 : decode prog_7_method_9_code 106 = .ok (.goto 83, 3) := by decide +kernel
theorem d_Rr_readBehind_109 : decode prog_7_method_9_code 109 = .ok (.aload_n 0, 1) := by decide +kernel
theorem d_Rr_readBehind_110 : decode prog_7_method_9_code 110 = .ok (.getfield 39, 3) := by decide +kernel
theorem d_Rr_readBehind_113 : decode prog_7_method_9_code 113 = .ok (.iconst 1, 1) := by decide +kernel
theorem d_Rr_readBehind_114 : decode prog_7_method_9_code 114 = .ok (.if_icmp .eq 26, 3) := by decide +kernel
theorem d_Rr_readBehind_117 : decode prog_7_method_9_code 117 = .ok (.aload_n 0, 1) := by decide +kernel
theorem d_Rr_readBehind_118 : decode prog_7_method_9_code 118 = .ok (.getfield 15, 3) := by decide +kernel
theorem d_Rr_readBehind_121 : decode prog_7_method_9_code 121 = .ok (.ldc 130, 2) := by decide +kernel
theorem d_Rr_readBehind_123 : decode prog_7_method_9_code 123 = .ok (.invokevirtual 76, 3) := by decide +kernel
theorem d_Rr_readBehind_126 : decode prog_7_method_9_code 126 = .ok (.ifCond .eq 14, 3) := by decide +kernel
theorem d_Rr_readBehind_129 : decode prog_7_method_9_code 129 = .ok (.aload_n 0, 1) := by decide +kernel
theorem d_Rr_readBehind_130 : decode prog_7_method_9_code 130 = .ok (.bipush 17, 2) := by decide +kernel
theorem d_Rr_readBehind_132 : decode prog_7_method_9_code 132 = .ok (.bipush 6, 2) := by decide +kernel
theorem d_Rr_readBehind_134 : decode prog_7_method_9_code 134 = .ok (.invokevirtual 119, 3) := by decide +kernel
theorem d_Rr_readBehind_137 : decode prog_7_method_9_code 137 = .ok (.goto 52, 3) := by decide +kernel
theorem d_Rr_readBehind_140 : decode prog_7_method_9_code 140 = .ok (.aload_n 0, 1) := by decide +kernel
theorem d_Rr_readBehind_141 : decode prog_7_method_9_code 141 = .ok (.getfield 39, 3) := by decide +kernel
theorem d_Rr_readBehind_144 : decode prog_7_method_9_code 144 = .ok (.iconst 1, 1) := by decide +kernel
theorem d_Rr_readBehind_145 : decode prog_7_method_9_code 145 = .ok (.if_icmp .eq 26, 3) := by decide +kernel
theorem d_Rr_readBehind_148 : decode prog_7_method_9_code 148 = .ok (.aload_n 0, 1) := by decide +kernel
theorem d_Rr_readBehind_149 : decode prog_7_method_9_code 149 = .ok (.getfield 15, 3) := by decide +kernel
theorem d_Rr_readBehind_152 : decode prog_7_method_9_code 152 = .ok (.ldc 132, 2) := by decide +kernel
theorem d_Rr_readBehind_154 : decode prog_7_method_9_code 154 = .ok (.invokevirtual 76, 3) := by decide +kernel
theorem d_Rr_readBehind_157 : decode prog_7_method_9_code 157 = .ok (.ifCond .eq 14, 3) := by decide +kernel
theorem d_Rr_readBehind_160 : decode prog_7_method_9_code 160 = .ok (.aload_n 0, 1) := by decide +kernel
theorem d_Rr_readBehind_161 : decode prog_7_method_9_code 161 = .ok (.bipush 18, 2) := by decide +kernel
theorem d_Rr_readBehind_163 : decode prog_7_method_9_code 163 = .ok (.bipush 6, 2) := by decide +kernel
theorem d_Rr_readBehind_165 : decode prog_7_method_9_code 165 = .ok (.invokevirtual 119, 3) := by decide +kernel
theorem d_Rr_readBehind_168 : decode prog_7_method_9_code 168 = .ok (.goto 21, 3) := by decide +kernel
theorem d_Rr_readBehind_171 : decode prog_7_method_9_code 171 = .ok (.aload_n 0, 1) := by decide +kernel
theorem d_Rr_readBehind_172 : decode prog_7_method_9_code 172 = .ok (.getfield 30, 3) := by decide +kernel
theorem d_Rr_readBehind_175 : decode prog_7_method_9_code 175 = .ok (.ifCond .le 10, 3) := by decide +kernel
theorem d_Rr_readBehind_178 : decode prog_7_method_9_code 178 = .ok (.aload_n 0, 1) := by decide +kernel
theorem d_Rr_readBehind_179 : decode prog_7_method_9_code 179 = .ok (.invokevirtual 134, 3) := by decide +kernel
theorem d_Rr_readBehind_182 : decode prog_7_method_9_code 182 = .ok (.goto 7, 3) := by decide +kernel
theorem d_Rr_readBehind_185 : decode prog_7_method_9_code 185 = .ok (.aload_n 0, 1) := by decide +kernel
theorem d_Rr_readBehind_186 : decode prog_7_method_9_code 186 = .ok (.invokevirtual 137, 3) := by decide +kernel
theorem d_Rr_readBehind_189 : decode prog_7_method_9_code 189 = .ok (.return_, 1) := by decide +kernel
theorem d_Rr_readComparison_0 : decode prog_7_method_10_code 0 = .ok (.aload_n 0, 1) := by decide +kernel
theorem d_Rr_readComparison_1 : decode prog_7_method_10_code 1 = .ok (.getfield 15, 3) := by decide +kernel
theorem d_Rr_readComparison_4 : decode prog_7_method_10_code 4 = .ok (.aload_n 0, 1) := by decide +kernel
theorem d_Rr_readComparison_5 : decode prog_7_method_10_code 5 = .ok (.getfield 15, 3) := by decide +kernel
theorem d_Rr_readComparison_8 : decode prog_7_method_10_code 8 = .ok (.getfield 69, 3) := by decide +kernel
theorem d_Rr_readComparison_11 : decode prog_7_method_10_code 11 = .ok (.iconst 1, 1) := by decide +kernel
theorem d_Rr_readComparison_12 : decode prog_7_method_10_code 12 = .ok (.iadd, 1) := by decide +kernel
theorem d_Rr_readComparison_13 : decode prog_7_method_10_code 13 = .ok (.invokevirtual 140, 3) := by decide +kernel
theorem d_Rr_readComparison_16 : decode prog_7_method_10_code 16 = .ok (.bipush 61, 2) := by decide +kernel
theorem d_Rr_readComparison_18 : decode prog_7_method_10_code 18 = .ok (.if_icmp .ne 7, 3) := by decide +kernel
theorem d_Rr_readComparison_21 : decode prog_7_method_10_code 21 = .ok (.iconst 1, 1) := by decide +kernel
theorem d_Rr_readComparison_22 : decode prog_7_method_10_code 22 = .ok (.goto 4, 3) := by decide +kernel
theorem d_Rr_readComparison_25 : decode prog_7_method_10_code 25 = .ok (.iconst 0, 1) := by decide +kernel
theorem d_Rr_readComparison_26 : decode prog_7_method_10_code 26 = .ok (.istore_n 2, 1) := by decide +kernel
theorem d_Rr_readComparison_27 : decode prog_7_method_10_code 27 = .ok (.iload_n 1, 1) := by decide +kernel
theorem d_Rr_readComparison_28 : decode prog_7_method_10_code 28 = .ok (.iload_n 2, 1) := by decide +kernel
theorem d_Rr_readComparison_29 : decode prog_7_method_10_code 29 = .ok (.invokestatic 143, 3) := by decide +kernel
theorem d_Rr_readComparison_32 : decode prog_7_method_10_code 32 = .ok (.istore_n 3, 1) := by decide +kernel
theorem d_Rr_readComparison_33 : decode prog_7_method_10_code 33 = .ok (.iload_n 3, 1) := by decide +kernel
theorem d_Rr_readComparison_34 : decode prog_7_method_10_code 34 = .ok (.iconst (-1), 1) := by decide +kernel
theorem d_Rr_readComparison_35 : decode prog_7_method_10_code 35 = .ok (.if_icmp .ne 21, 3) := by decide +kernel
theorem d_Rr_readComparison_38 : decode prog_7_method_10_code 38 = .ok (.aload_n 0, 1) := by decide +kernel
theorem d_Rr_readComparison_39 : decode prog_7_method_10_code 39 = .ok (.getfield 15, 3) := by decide +kernel
theorem d_Rr_readComparison_42 : decode prog_7_method_10_code 42 = .ok (.aload_n 0, 1) := by decide +kernel
theorem d_Rr_readComparison_43 : decode prog_7_method_10_code 43 = .ok (.getfield 15, 3) := by decide +kernel
theorem d_Rr_readComparison_46 : decode prog_7_method_10_code 46 = .ok (.getfield 69, 3) := by decide +kernel
theorem d_Rr_readComparison_49 : decode prog_7_method_10_code 49 = .ok (.iconst 0, 1) := by decide +kernel
theorem d_Rr_readComparison_50 : decode prog_7_method_10_code 50 = .ok (.invokevirtual 72, 3) := by decide +kernel
theorem d_Rr_readComparison_53 : decode prog_7_method_10_code 53 = .ok (.goto 52, 3) := by decide +kernel
theorem d_Rr_readComparison_56 : decode prog_7_method_10_code 56 = .ok (.aload_n 0, 1) := by decide +kernel
theorem d_Rr_readComparison_57 : decode prog_7_method_10_code 57 = .ok (.aload_n 0, 1) := by decide +kernel
theorem d_Rr_readComparison_58 : decode prog_7_method_10_code 58 = .ok (.getfield 15, 3) := by decide +kernel
theorem d_Rr_readComparison_61 : decode prog_7_method_10_code 61 = .ok (.getfield 69, 3) := by decide +kernel
theorem d_Rr_readComparison_64 : decode prog_7_method_10_code 64 = .ok (.invokevirtual 104, 3) := by decide +kernel
theorem d_Rr_readComparison_67 : decode prog_7_method_10_code 67 = .ok (.ifCond .eq 38, 3) := by decide +kernel
theorem d_Rr_readComparison_70 : decode prog_7_method_10_code 70 = .ok (.aload_n 0, 1) := by decide +kernel
theorem d_Rr_readComparison_71 : decode prog_7_method_10_code 71 = .ok (.getfield 15, 3) := by decide +kernel
theorem d_Rr_readComparison_74 : decode prog_7_method_10_code 74 = .ok (.dup, 1) := by decide +kernel
theorem d_Rr_readComparison_75 : decode prog_7_method_10_code 75 = .ok (.getfield 69, 3) := by decide +kernel
theorem d_Rr_readComparison_78 : decode prog_7_method_10_code 78 = .ok (.iload_n 3, 1) := by decide +kernel
theorem d_Rr_readComparison_79 : decode prog_7_method_10_code 79 = .ok (.bipush 13, 2) := by decide +kernel
theorem d_Rr_readComparison_81 : decode prog_7_method_10_code 81 = .ok (.if_icmp .eq 9, 3) := by decide +kernel
theorem d_Rr_readComparison_84 : decode prog_7_method_10_code 84 = .ok (.iload_n 3, 1) := by decide +kernel
theorem d_Rr_readComparison_85 : decode prog_7_method_10_code 85 = .ok (.bipush 15, 2) := by decide +kernel
theorem d_Rr_readComparison_87 : decode prog_7_method_10_code 87 = .ok (.if_icmp .ne 7, 3) := by decide +kernel
theorem d_Rr_readComparison_90 : decode prog_7_method_10_code 90 = .ok (.iconst 2, 1) := by decide +kernel
theorem d_Rr_readComparison_91 : decode prog_7_method_10_code 91 = .ok (.goto 4, 3) := by decide +kernel
theorem d_Rr_readComparison_94 : decode prog_7_method_10_code 94 = .ok (.iconst 1, 1) := by decide +kernel
theorem d_Rr_readComparison_95 : decode prog_7_method_10_code 95 = .ok (.iadd, 1) := by decide +kernel
theorem d_Rr_readComparison_96 : decode prog_7_method_10_code 96 = .ok (.putfield 69, 3) := by decide +kernel
theorem d_Rr_readComparison_99 : decode prog_7_method_10_code 99 = .ok (.aload_n 0, 1) := by decide +kernel
theorem d_Rr_readComparison_100 : decode prog_7_method_10_code 100 = .ok (.iload_n 3, 1) := by decide +kernel
theorem d_Rr_readComparison_101 : decode prog_7_method_10_code 101 = .ok (.iconst 4, 1) := by decide +kernel
theorem d_Rr_readComparison_102 : decode prog_7_method_10_code 102 = .ok (.invokevirtual 119, 3) := by decide +kernel
theorem d_Rr_readComparison_105 : decode prog_7_method_10_code 105 = .ok (.return_, 1) := by decide +kernel
theorem d_Rr_readClosing_0 : decode prog_7_method_11_code 0 = .ok (.aload_n 0, 1) := by decide +kernel
theorem d_Rr_readClosing_1 : decode prog_7_method_11_code 1 = .ok (.getfield 15, 3) := by decide +kernel
theorem d_Rr_readClosing_4 : decode prog_7_method_11_code 4 = .ok (.bipush 93, 2) := by decide +kernel
theorem d_Rr_readClosing_6 : decode prog_7_method_11_code 6 = .ok (.invokevirtual 85, 3) := by decide +kernel
theorem d_Rr_readClosing_9 : decode prog_7_method_11_code 9 = .ok (.ifCond .ne 19, 3) := by decide +kernel
theorem d_Rr_readClosing_12 : decode prog_7_method_11_code 12 = .ok (.aload_n 0, 1) := by decide +kernel
theorem d_Rr_readClosing_13 : decode prog_7_method_11_code 13 = .ok (.getfield 15, 3) := by decide +kernel
theorem d_Rr_readClosing_16 : decode prog_7_method_11_code 16 = .ok (.aload_n 0, 1) := by decide +kernel
theorem d_Rr_readClosing_17 : decode prog_7_method_11_code 17 = .ok (.getfield 15, 3) := by decide +kernel
theorem d_Rr_readClosing_20 : decode prog_7_method_11_code 20 = .ok (.getfield 69, 3) := by decide +kernel
theorem d_Rr_readClosing_23 : decode prog_7_method_11_code 23 = .ok (.iconst 0, 1) := by decide +kernel
theorem d_Rr_readClosing_24 : decode prog_7_method_11_code 24 = .ok (.invokevirtual 72, 3) := by decide +kernel
theorem d_Rr_readClosing_27 : decode prog_7_method_11_code 27 = .ok (.return_, 1) := by decide +kernel
theorem d_Rr_readClosing_28 : decode prog_7_method_11_code 28 = .ok (.aload_n 0, 1) := by decide +kernel
theorem d_Rr_readClosing_29 : decode prog_7_method_11_code 29 = .ok (.bipush 18, 2) := by decide +kernel
theorem d_Rr_readClosing_31 : decode prog_7_method_11_code 31 = .ok (.invokevirtual 127, 3) := by decide +kernel
theorem d_Rr_readClosing_34 : decode prog_7_method_11_code 34 = .ok (.aload_n 0, 1) := by decide +kernel
theorem d_Rr_readClosing_35 : decode prog_7_method_11_code 35 = .ok (.getfield 23, 3) := by decide +kernel
theorem d_Rr_readClosing_38 : decode prog_7_method_11_code 38 = .ok (.ifCond .le 33, 3) := by decide +kernel
theorem d_Rr_readClosing_41 : decode prog_7_method_11_code 41 = .ok (.aload_n 0, 1) := by decide +kernel
theorem d_Rr_readClosing_42 : decode prog_7_method_11_code 42 = .ok (.dup, 1) := by decide +kernel
theorem d_Rr_readClosing_43 : decode prog_7_method_11_code 43 = .ok (.getfield 23, 3) := by decide +kernel
theorem d_Rr_readClosing_46 : decode prog_7_method_11_code 46 = .ok (.iconst 1, 1) := by decide +kernel
theorem d_Rr_readClosing_47 : decode prog_7_method_11_code 47 = .ok (.isub, 1) := by decide +kernel
theorem d_Rr_readClosing_48 : decode prog_7_method_11_code 48 = .ok (.putfield 23, 3) := by decide +kernel
theorem d_Rr_readClosing_51 : decode prog_7_method_11_code 51 = .ok (.aload_n 0, 1) := by decide +kernel
theorem d_Rr_readClosing_52 : decode prog_7_method_11_code 52 = .ok (.dup, 1) := by decide +kernel
theorem d_Rr_readClosing_53 : decode prog_7_method_11_code 53 = .ok (.getfield 27, 3) := by decide +kernel
theorem d_Rr_readClosing_56 : decode prog_7_method_11_code 56 = .ok (.iconst 1, 1) := by decide +kernel
theorem d_Rr_readClosing_57 : decode prog_7_method_11_code 57 = .ok (.isub, 1) := by decide +kernel
theorem d_Rr_readClosing_58 : decode prog_7_method_11_code 58 = .ok (.putfield 27, 3) := by decide +kernel
theorem d_Rr_readClosing_61 : decode prog_7_method_11_code 61 = .ok (.aload_n 0, 1) := by decide +kernel
theorem d_Rr_readClosing_62 : decode prog_7_method_11_code 62 = .ok (.dup, 1) := by decide +kernel
theorem d_Rr_readClosing_63 : decode prog_7_method_11_code 63 = .ok (.getfield 30, 3) := by decide +kernel
theorem d_Rr_readClosing_66 : decode prog_7_method_11_code 66 = .ok (.iconst 1, 1) := by decide +kernel
theorem d_Rr_readClosing_67 : decode prog_7_method_11_code 67 = .ok (.isub, 1) := by decide +kernel
theorem d_Rr_readClosing_68 : decode prog_7_method_11_code 68 = .ok (.putfield 30, 3) := by decide +kernel
theorem d_Rr_readClosing_71 : decode prog_7_method_11_code 71 = .ok (.aload_n 0, 1) := by decide +kernel
theorem d_Rr_readClosing_72 : decode prog_7_method_11_code 72 = .ok (.bipush 7, 2) := by decide +kernel
theorem d_Rr_readClosing_74 : decode prog_7_method_11_code 74 = .ok (.putfield 39, 3) := by decide +kernel
theorem d_Rr_readClosing_77 : decode prog_7_method_11_code 77 = .ok (.return_, 1) := by decide +kernel
theorem d_Rr_endClause_0 : decode prog_7_method_12_code 0 = .ok (.aload_n 0, 1) := by decide +kernel
theorem d_Rr_endClause_1 : decode prog_7_method_12_code 1 = .ok (.bipush 18, 2) := by decide +kernel
theorem d_Rr_endClause_3 : decode prog_7_method_12_code 3 = .ok (.invokevirtual 127, 3) := by decide +kernel
theorem d_Rr_endClause_6 : decode prog_7_method_12_code 6 = .ok (.aload_n 0, 1) := by decide +kernel
theorem d_Rr_endClause_7 : decode prog_7_method_12_code 7 = .ok (.getfield 19, 3) := by decide +kernel
theorem d_Rr_endClause_10 : decode prog_7_method_12_code 10 = .ok (.aload_n 0, 1) := by decide +kernel
theorem d_Rr_endClause_11 : decode prog_7_method_12_code 11 = .ok (.getfield 39, 3) := by decide +kernel
theorem d_Rr_endClause_14 : decode prog_7_method_12_code 14 = .ok (.iconst 1, 1) := by decide +kernel
theorem d_Rr_endClause_15 : decode prog_7_method_12_code 15 = .ok (.if_icmp .ne 8, 3) := by decide +kernel
theorem d_Rr_endClause_18 : decode prog_7_method_12_code 18 = .ok (.bipush 20, 2) := by decide +kernel
theorem d_Rr_endClause_20 : decode prog_7_method_12_code 20 = .ok (.goto 5, 3) := by decide +kernel
theorem d_Rr_endClause_23 : decode prog_7_method_12_code 23 = .ok (.bipush 21, 2) := by decide +kernel
theorem d_Rr_endClause_25 : decode prog_7_method_12_code 25 = .ok (.invokevirtual 108, 3) := by decide +kernel
theorem d_Rr_endClause_28 : decode prog_7_method_12_code 28 = .ok (.aload_n 0, 1) := by decide +kernel
theorem d_Rr_endClause_29 : decode prog_7_method_12_code 29 = .ok (.bipush 8, 2) := by decide +kernel
theorem d_Rr_endClause_31 : decode prog_7_method_12_code 31 = .ok (.putfield 39, 3) := by decide +kernel
theorem d_Rr_endClause_34 : decode prog_7_method_12_code 34 = .ok (.aload_n 0, 1) := by decide +kernel
theorem d_Rr_endClause_35 : decode prog_7_method_12_code 35 = .ok (.getfield 15, 3) := by decide +kernel
theorem d_Rr_endClause_38 : decode prog_7_method_12_code 38 = .ok (.invokevirtual 147, 3) := by decide +kernel
theorem d_Rr_endClause_41 : decode prog_7_method_12_code 41 = .ok (.ifCond .eq 7, 3) := by decide +kernel
theorem d_Rr_endClause_44 : decode prog_7_method_12_code 44 = .ok (.aload_n 0, 1) := by decide +kernel
theorem d_Rr_endClause_45 : decode prog_7_method_12_code 45 = .ok (.invokevirtual 42, 3) := by decide +kernel
theorem d_Rr_endClause_48 : decode prog_7_method_12_code 48 = .ok (.return_, 1) := by decide +kernel
theorem d_Rr_joinBy_0 : decode prog_7_method_13_code 0 = .ok (.aload_n 0, 1) := by decide +kernel
theorem d_Rr_joinBy_1 : decode prog_7_method_13_code 1 = .ok (.iload_n 1, 1) := by decide +kernel
theorem d_Rr_joinBy_2 : decode prog_7_method_13_code 2 = .ok (.invokevirtual 127, 3) := by decide +kernel
theorem d_Rr_joinBy_5 : decode prog_7_method_13_code 5 = .ok (.aload_n 0, 1) := by decide +kernel
theorem d_Rr_joinBy_6 : decode prog_7_method_13_code 6 = .ok (.iload_n 1, 1) := by decide +kernel
theorem d_Rr_joinBy_7 : decode prog_7_method_13_code 7 = .ok (.invokevirtual 89, 3) := by decide +kernel
theorem d_Rr_joinBy_10 : decode prog_7_method_13_code 10 = .ok (.aload_n 0, 1) := by decide +kernel
theorem d_Rr_joinBy_11 : decode prog_7_method_13_code 11 = .ok (.iload_n 2, 1) := by decide +kernel
theorem d_Rr_joinBy_12 : decode prog_7_method_13_code 12 = .ok (.putfield 39, 3) := by decide +kernel
theorem d_Rr_joinBy_15 : decode prog_7_method_13_code 15 = .ok (.return_, 1) := by decide +kernel
theorem d_Rr_hold_0 : decode prog_7_method_14_code 0 = .ok (.aload_n 0, 1) := by decide +kernel
theorem d_Rr_hold_1 : decode prog_7_method_14_code 1 = .ok (.getfield 23, 3) := by decide +kernel
theorem d_Rr_hold_4 : decode prog_7_method_14_code 4 = .ok (.aload_n 0, 1) := by decide +kernel
theorem d_Rr_hold_5 : decode prog_7_method_14_code 5 = .ok (.getfield 9, 3) := by decide +kernel
theorem d_Rr_hold_8 : decode prog_7_method_14_code 8 = .ok (.arraylength, 1) := by decide +kernel
theorem d_Rr_hold_9 : decode prog_7_method_14_code 9 = .ok (.if_icmp .ge 49, 3) := by decide +kernel
theorem d_Rr_hold_12 : decode prog_7_method_14_code 12 = .ok (.aload_n 0, 1) := by decide +kernel
theorem d_Rr_hold_13 : decode prog_7_method_14_code 13 = .ok (.getfield 9, 3) := by decide +kernel
theorem d_Rr_hold_16 : decode prog_7_method_14_code 16 = .ok (.aload_n 0, 1) := by decide +kernel
theorem d_Rr_hold_17 : decode prog_7_method_14_code 17 = .ok (.getfield 23, 3) := by decide +kernel
theorem d_Rr_hold_20 : decode prog_7_method_14_code 20 = .ok (.iload_n 1, 1) := by decide +kernel
theorem d_Rr_hold_21 : decode prog_7_method_14_code 21 = .ok (.iastore, 1) := by decide +kernel
theorem d_Rr_hold_22 : decode prog_7_method_14_code 22 = .ok (.aload_n 0, 1) := by decide +kernel
theorem d_Rr_hold_23 : decode prog_7_method_14_code 23 = .ok (.dup, 1) := by decide +kernel
theorem d_Rr_hold_24 : decode prog_7_method_14_code 24 = .ok (.getfield 23, 3) := by decide +kernel
theorem d_Rr_hold_27 : decode prog_7_method_14_code 27 = .ok (.iconst 1, 1) := by decide +kernel
theorem d_Rr_hold_28 : decode prog_7_method_14_code 28 = .ok (.iadd, 1) := by decide +kernel
theorem d_Rr_hold_29 : decode prog_7_method_14_code 29 = .ok (.putfield 23, 3) := by decide +kernel
theorem d_Rr_hold_32 : decode prog_7_method_14_code 32 = .ok (.aload_n 0, 1) := by decide +kernel
theorem d_Rr_hold_33 : decode prog_7_method_14_code 33 = .ok (.dup, 1) := by decide +kernel
theorem d_Rr_hold_34 : decode prog_7_method_14_code 34 = .ok (.getfield 27, 3) := by decide +kernel
theorem d_Rr_hold_37 : decode prog_7_method_14_code 37 = .ok (.iload_n 1, 1) := by decide +kernel
theorem d_Rr_hold_38 : decode prog_7_method_14_code 38 = .ok (.bipush 22, 2) := by decide +kernel
theorem d_Rr_hold_40 : decode prog_7_method_14_code 40 = .ok (.if_icmp .eq 9, 3) := by decide +kernel
theorem d_Rr_hold_43 : decode prog_7_method_14_code 43 = .ok (.iload_n 1, 1) := by decide +kernel
theorem d_Rr_hold_44 : decode prog_7_method_14_code 44 = .ok (.bipush 19, 2) := by decide +kernel
theorem d_Rr_hold_46 : decode prog_7_method_14_code 46 = .ok (.if_icmp .ne 7, 3) := by decide +kernel
theorem d_Rr_hold_49 : decode prog_7_method_14_code 49 = .ok (.iconst 1, 1) := by decide +kernel
theorem d_Rr_hold_50 : decode prog_7_method_14_code 50 = .ok (.goto 4, 3) := by decide +kernel
theorem d_Rr_hold_53 : decode prog_7_method_14_code 53 = .ok (.iconst 0, 1) := by decide +kernel
theorem d_Rr_hold_54 : decode prog_7_method_14_code 54 = .ok (.iadd, 1) := by decide +kernel
theorem d_Rr_hold_55 : decode prog_7_method_14_code 55 = .ok (.putfield 27, 3) := by decide +kernel
theorem d_Rr_hold_58 : decode prog_7_method_14_code 58 = .ok (.return_, 1) := by decide +kernel
theorem d_Rr_settle_0 : decode prog_7_method_15_code 0 = .ok (.iload_n 1, 1) := by decide +kernel
theorem d_Rr_settle_1 : decode prog_7_method_15_code 1 = .ok (.invokestatic 150, 3) := by decide +kernel
theorem d_Rr_settle_4 : decode prog_7_method_15_code 4 = .ok (.istore_n 2, 1) := by decide +kernel
theorem d_Rr_settle_5 : decode prog_7_method_15_code 5 = .ok (.aload_n 0, 1) := by decide +kernel
theorem d_Rr_settle_6 : decode prog_7_method_15_code 6 = .ok (.getfield 23, 3) := by decide +kernel
theorem d_Rr_settle_9 : decode prog_7_method_15_code 9 = .ok (.iconst 1, 1) := by decide +kernel
theorem d_Rr_settle_10 : decode prog_7_method_15_code 10 = .ok (.isub, 1) := by decide +kernel
theorem d_Rr_settle_11 : decode prog_7_method_15_code 11 = .ok (.istore_n 3, 1) := by decide +kernel
theorem d_Rr_settle_12 : decode prog_7_method_15_code 12 = .ok (.iload_n 3, 1) := by decide +kernel
theorem d_Rr_settle_13 : decode prog_7_method_15_code 13 = .ok (.ifCond .lt 65, 3) := by decide +kernel
theorem d_Rr_settle_16 : decode prog_7_method_15_code 16 = .ok (.aload_n 0, 1) := by decide +kernel
theorem d_Rr_settle_17 : decode prog_7_method_15_code 17 = .ok (.getfield 9, 3) := by decide +kernel
theorem d_Rr_settle_20 : decode prog_7_method_15_code 20 = .ok (.iload_n 3, 1) := by decide +kernel
theorem d_Rr_settle_21 : decode prog_7_method_15_code 21 = .ok (.iaload, 1) := by decide +kernel
theorem d_Rr_settle_22 : decode prog_7_method_15_code 22 = .ok (.invokestatic 150, 3) := by decide +kernel
theorem d_Rr_settle_25 : decode prog_7_method_15_code 25 = .ok (.iload_n 2, 1) := by decide +kernel
theorem d_Rr_settle_26 : decode prog_7_method_15_code 26 = .ok (.if_icmp .lt 52, 3) := by decide +kernel
theorem d_Rr_settle_29 : decode prog_7_method_15_code 29 = .ok (.aload_n 0, 1) := by decide +kernel
theorem d_Rr_settle_30 : decode prog_7_method_15_code 30 = .ok (.getfield 19, 3) := by decide +kernel
theorem d_Rr_settle_33 : decode prog_7_method_15_code 33 = .ok (.aload_n 0, 1) := by decide +kernel
theorem d_Rr_settle_34 : decode prog_7_method_15_code 34 = .ok (.getfield 9, 3) := by decide +kernel
theorem d_Rr_settle_37 : decode prog_7_method_15_code 37 = .ok (.iload_n 3, 1) := by decide +kernel
theorem d_Rr_settle_38 : decode prog_7_method_15_code 38 = .ok (.iaload, 1) := by decide +kernel
theorem d_Rr_settle_39 : decode prog_7_method_15_code 39 = .ok (.invokevirtual 108, 3) := by decide +kernel
theorem d_Rr_settle_42 : decode prog_7_method_15_code 42 = .ok (.aload_n 0, 1) := by decide +kernel
theorem d_Rr_settle_43 : decode prog_7_method_15_code 43 = .ok (.dup, 1) := by decide +kernel
theorem d_Rr_settle_44 : decode prog_7_method_15_code 44 = .ok (.getfield 27, 3) := by decide +kernel
theorem d_Rr_settle_47 : decode prog_7_method_15_code 47 = .ok (.aload_n 0, 1) := by decide +kernel
theorem d_Rr_settle_48 : decode prog_7_method_15_code 48 = .ok (.getfield 9, 3) := by decide +kernel
theorem d_Rr_settle_51 : decode prog_7_method_15_code 51 = .ok (.iload_n 3, 1) := by decide +kernel
theorem d_Rr_settle_52 : decode prog_7_method_15_code 52 = .ok (.iaload, 1) := by decide +kernel
theorem d_Rr_settle_53 : decode prog_7_method_15_code 53 = .ok (.bipush 19, 2) := by decide +kernel
theorem d_Rr_settle_55 : decode prog_7_method_15_code 55 = .ok (.if_icmp .ne 7, 3) := by decide +kernel
theorem d_Rr_settle_58 : decode prog_7_method_15_code 58 = .ok (.iconst 1, 1) := by decide +kernel
theorem d_Rr_settle_59 : decode prog_7_method_15_code 59 = .ok (.goto 4, 3) := by decide +kernel
theorem d_Rr_settle_62 : decode prog_7_method_15_code 62 = .ok (.iconst 0, 1) := by decide +kernel
theorem d_Rr_settle_63 : decode prog_7_method_15_code 63 = .ok (.isub, 1) := by decide +kernel
theorem d_Rr_settle_64 : decode prog_7_method_15_code 64 = .ok (.putfield 27, 3) := by decide +kernel
theorem d_Rr_settle_67 : decode prog_7_method_15_code 67 = .ok (.aload_n 0, 1) := by decide +kernel
theorem d_Rr_settle_68 : decode prog_7_method_15_code 68 = .ok (.iload_n 3, 1) := by decide +kernel
theorem d_Rr_settle_69 : decode prog_7_method_15_code 69 = .ok (.putfield 23, 3) := by decide +kernel
theorem d_Rr_settle_72 : decode prog_7_method_15_code 72 = .ok (.iinc 3 (-1), 3) := by decide +kernel
theorem d_Rr_settle_75 : decode prog_7_method_15_code 75 = .ok (.goto (-63), 3) := by decide +kernel
theorem d_Rr_settle_78 : decode prog_7_method_15_code 78 = .ok (.return_, 1) := by decide +kernel
theorem d_Sc_clear_0 : decode prog_8_method_2_code 0 = .ok (.aload_n 0, 1) := by decide +kernel
theorem d_Sc_clear_1 : decode prog_8_method_2_code 1 = .ok (.iconst 0, 1) := by decide +kernel
theorem d_Sc_clear_2 : decode prog_8_method_2_code 2 = .ok (.putfield 37, 3) := by decide +kernel
theorem d_Sc_clear_5 : decode prog_8_method_2_code 5 = .ok (.aload_n 0, 1) := by decide +kernel
theorem d_Sc_clear_6 : decode prog_8_method_2_code 6 = .ok (.iconst 0, 1) := by decide +kernel
theorem d_Sc_clear_7 : decode prog_8_method_2_code 7 = .ok (.putfield 41, 3) := by decide +kernel
theorem d_Sc_clear_10 : decode prog_8_method_2_code 10 = .ok (.aload_n 0, 1) := by decide +kernel
theorem d_Sc_clear_11 : decode prog_8_method_2_code 11 = .ok (.iconst 0, 1) := by decide +kernel
theorem d_Sc_clear_12 : decode prog_8_method_2_code 12 = .ok (.putfield 44, 3) := by decide +kernel
theorem d_Sc_clear_15 : decode prog_8_method_2_code 15 = .ok (.aload_n 0, 1) := by decide +kernel
theorem d_Sc_clear_16 : decode prog_8_method_2_code 16 = .ok (.iconst 0, 1) := by decide +kernel
theorem d_Sc_clear_17 : decode prog_8_method_2_code 17 = .ok (.putfield 47, 3) := by decide +kernel
theorem d_Sc_clear_20 : decode prog_8_method_2_code 20 = .ok (.aload_n 0, 1) := by decide +kernel
theorem d_Sc_clear_21 : decode prog_8_method_2_code 21 = .ok (.getfield 27, 3) := by decide +kernel
theorem d_Sc_clear_24 : decode prog_8_method_2_code 24 = .ok (.lconst 0, 1) := by decide +kernel
theorem d_Sc_clear_25 : decode prog_8_method_2_code 25 = .ok (.invokestatic 50, 3) := by decide +kernel
theorem d_Sc_clear_28 : decode prog_8_method_2_code 28 = .ok (.aload_n 0, 1) := by decide +kernel
theorem d_Sc_clear_29 : decode prog_8_method_2_code 29 = .ok (.iconst 0, 1) := by decide +kernel
theorem d_Sc_clear_30 : decode prog_8_method_2_code 30 = .ok (.putfield 56, 3) := by decide +kernel
theorem d_Sc_clear_33 : decode prog_8_method_2_code 33 = .ok (.aload_n 0, 1) := by decide +kernel
theorem d_Sc_clear_34 : decode prog_8_method_2_code 34 = .ok (.iconst 0, 1) := by decide +kernel
theorem d_Sc_clear_35 : decode prog_8_method_2_code 35 = .ok (.putfield 59, 3) := by decide +kernel
theorem d_Sc_clear_38 : decode prog_8_method_2_code 38 = .ok (.aload_n 0, 1) := by decide +kernel
theorem d_Sc_clear_39 : decode prog_8_method_2_code 39 = .ok (.iconst 0, 1) := by decide +kernel
theorem d_Sc_clear_40 : decode prog_8_method_2_code 40 = .ok (.putfield 62, 3) := by decide +kernel
theorem d_Sc_clear_43 : decode prog_8_method_2_code 43 = .ok (.aload_n 0, 1) := by decide +kernel
theorem d_Sc_clear_44 : decode prog_8_method_2_code 44 = .ok (.iconst 0, 1) := by decide +kernel
theorem d_Sc_clear_45 : decode prog_8_method_2_code 45 = .ok (.putfield 65, 3) := by decide +kernel
theorem d_Sc_clear_48 : decode prog_8_method_2_code 48 = .ok (.aload_n 0, 1) := by decide +kernel
theorem d_Sc_clear_49 : decode prog_8_method_2_code 49 = .ok (.iconst 0, 1) := by decide +kernel
theorem d_Sc_clear_50 : decode prog_8_method_2_code 50 = .ok (.putfield 68, 3) := by decide +kernel
theorem d_Sc_clear_53 : decode prog_8_method_2_code 53 = .ok (.return_, 1) := by decide +kernel
theorem d_Sc_copyFrom_0 : decode prog_8_method_3_code 0 = .ok (.aload_n 0, 1) := by decide +kernel
theorem d_Sc_copyFrom_1 : decode prog_8_method_3_code 1 = .ok (.aload_n 1, 1) := by decide +kernel
theorem d_Sc_copyFrom_2 : decode prog_8_method_3_code 2 = .ok (.getfield 37, 3) := by decide +kernel
theorem d_Sc_copyFrom_5 : decode prog_8_method_3_code 5 = .ok (.putfield 37, 3) := by decide +kernel
theorem d_Sc_copyFrom_8 : decode prog_8_method_3_code 8 = .ok (.aload_n 0, 1) := by decide +kernel
theorem d_Sc_copyFrom_9 : decode prog_8_method_3_code 9 = .ok (.aload_n 1, 1) := by decide +kernel
theorem d_Sc_copyFrom_10 : decode prog_8_method_3_code 10 = .ok (.getfield 41, 3) := by decide +kernel
theorem d_Sc_copyFrom_13 : decode prog_8_method_3_code 13 = .ok (.putfield 41, 3) := by decide +kernel
theorem d_Sc_copyFrom_16 : decode prog_8_method_3_code 16 = .ok (.aload_n 0, 1) := by decide +kernel
theorem d_Sc_copyFrom_17 : decode prog_8_method_3_code 17 = .ok (.aload_n 1, 1) := by decide +kernel
theorem d_Sc_copyFrom_18 : decode prog_8_method_3_code 18 = .ok (.getfield 44, 3) := by decide +kernel
theorem d_Sc_copyFrom_21 : decode prog_8_method_3_code 21 = .ok (.putfield 44, 3) := by decide +kernel
theorem d_Sc_copyFrom_24 : decode prog_8_method_3_code 24 = .ok (.aload_n 0, 1) := by decide +kernel
theorem d_Sc_copyFrom_25 : decode prog_8_method_3_code 25 = .ok (.aload_n 1, 1) := by decide +kernel
theorem d_Sc_copyFrom_26 : decode prog_8_method_3_code 26 = .ok (.getfield 47, 3) := by decide +kernel
theorem d_Sc_copyFrom_29 : decode prog_8_method_3_code 29 = .ok (.putfield 47, 3) := by decide +kernel
theorem d_Sc_copyFrom_32 : decode prog_8_method_3_code 32 = .ok (.aload_n 0, 1) := by decide +kernel
theorem d_Sc_copyFrom_33 : decode prog_8_method_3_code 33 = .ok (.aload_n 1, 1) := by decide +kernel
theorem d_Sc_copyFrom_34 : decode prog_8_method_3_code 34 = .ok (.getfield 56, 3) := by decide +kernel
theorem d_Sc_copyFrom_37 : decode prog_8_method_3_code 37 = .ok (.putfield 56, 3) := by decide +kernel
theorem d_Sc_copyFrom_40 : decode prog_8_method_3_code 40 = .ok (.aload_n 0, 1) := by decide +kernel
theorem d_Sc_copyFrom_41 : decode prog_8_method_3_code 41 = .ok (.aload_n 1, 1) := by decide +kernel
theorem d_Sc_copyFrom_42 : decode prog_8_method_3_code 42 = .ok (.getfield 59, 3) := by decide +kernel
theorem d_Sc_copyFrom_45 : decode prog_8_method_3_code 45 = .ok (.putfield 59, 3) := by decide +kernel
theorem d_Sc_copyFrom_48 : decode prog_8_method_3_code 48 = .ok (.aload_n 0, 1) := by decide +kernel
theorem d_Sc_copyFrom_49 : decode prog_8_method_3_code 49 = .ok (.aload_n 1, 1) := by decide +kernel
theorem d_Sc_copyFrom_50 : decode prog_8_method_3_code 50 = .ok (.getfield 62, 3) := by decide +kernel
theorem d_Sc_copyFrom_53 : decode prog_8_method_3_code 53 = .ok (.putfield 62, 3) := by decide +kernel
theorem d_Sc_copyFrom_56 : decode prog_8_method_3_code 56 = .ok (.aload_n 0, 1) := by decide +kernel
theorem d_Sc_copyFrom_57 : decode prog_8_method_3_code 57 = .ok (.aload_n 1, 1) := by decide +kernel
theorem d_Sc_copyFrom_58 : decode prog_8_method_3_code 58 = .ok (.getfield 65, 3) := by decide +kernel
theorem d_Sc_copyFrom_61 : decode prog_8_method_3_code 61 = .ok (.putfield 65, 3) := by decide +kernel
theorem d_Sc_copyFrom_64 : decode prog_8_method_3_code 64 = .ok (.aload_n 0, 1) := by decide +kernel
theorem d_Sc_copyFrom_65 : decode prog_8_method_3_code 65 = .ok (.aload_n 1, 1) := by decide +kernel
theorem d_Sc_copyFrom_66 : decode prog_8_method_3_code 66 = .ok (.getfield 68, 3) := by decide +kernel
theorem d_Sc_copyFrom_69 : decode prog_8_method_3_code 69 = .ok (.putfield 68, 3) := by decide +kernel
theorem d_Sc_copyFrom_72 : decode prog_8_method_3_code 72 = .ok (.aload_n 1, 1) := by decide +kernel
theorem d_Sc_copyFrom_73 : decode prog_8_method_3_code 73 = .ok (.getfield 9, 3) := by decide +kernel
theorem d_Sc_copyFrom_76 : decode prog_8_method_3_code 76 = .ok (.iconst 0, 1) := by decide +kernel
theorem d_Sc_copyFrom_77 : decode prog_8_method_3_code 77 = .ok (.aload_n 0, 1) := by decide +kernel
theorem d_Sc_copyFrom_78 : decode prog_8_method_3_code 78 = .ok (.getfield 9, 3) := by decide +kernel
theorem d_Sc_copyFrom_81 : decode prog_8_method_3_code 81 = .ok (.iconst 0, 1) := by decide +kernel
theorem d_Sc_copyFrom_82 : decode prog_8_method_3_code 82 = .ok (.bipush 12, 2) := by decide +kernel
theorem d_Sc_copyFrom_84 : decode prog_8_method_3_code 84 = .ok (.invokestatic 71, 3) := by decide +kernel
theorem d_Sc_copyFrom_87 : decode prog_8_method_3_code 87 = .ok (.aload_n 1, 1) := by decide +kernel
theorem d_Sc_copyFrom_88 : decode prog_8_method_3_code 88 = .ok (.getfield 15, 3) := by decide +kernel
theorem d_Sc_copyFrom_91 : decode prog_8_method_3_code 91 = .ok (.iconst 0, 1) := by decide +kernel
theorem d_Sc_copyFrom_92 : decode prog_8_method_3_code 92 = .ok (.aload_n 0, 1) := by decide +kernel
theorem d_Sc_copyFrom_93 : decode prog_8_method_3_code 93 = .ok (.getfield 15, 3) := by decide +kernel
theorem d_Sc_copyFrom_96 : decode prog_8_method_3_code 96 = .ok (.iconst 0, 1) := by decide +kernel
theorem d_Sc_copyFrom_97 : decode prog_8_method_3_code 97 = .ok (.bipush 12, 2) := by decide +kernel
theorem d_Sc_copyFrom_99 : decode prog_8_method_3_code 99 = .ok (.invokestatic 71, 3) := by decide +kernel
theorem d_Sc_copyFrom_102 : decode prog_8_method_3_code 102 = .ok (.aload_n 1, 1) := by decide +kernel
theorem d_Sc_copyFrom_103 : decode prog_8_method_3_code 103 = .ok (.getfield 18, 3) := by decide +kernel
theorem d_Sc_copyFrom_106 : decode prog_8_method_3_code 106 = .ok (.iconst 0, 1) := by decide +kernel
theorem d_Sc_copyFrom_107 : decode prog_8_method_3_code 107 = .ok (.aload_n 0, 1) := by decide +kernel
theorem d_Sc_copyFrom_108 : decode prog_8_method_3_code 108 = .ok (.getfield 18, 3) := by decide +kernel
theorem d_Sc_copyFrom_111 : decode prog_8_method_3_code 111 = .ok (.iconst 0, 1) := by decide +kernel
theorem d_Sc_copyFrom_112 : decode prog_8_method_3_code 112 = .ok (.bipush 16, 2) := by decide +kernel
theorem d_Sc_copyFrom_114 : decode prog_8_method_3_code 114 = .ok (.invokestatic 71, 3) := by decide +kernel
theorem d_Sc_copyFrom_117 : decode prog_8_method_3_code 117 = .ok (.aload_n 1, 1) := by decide +kernel
theorem d_Sc_copyFrom_118 : decode prog_8_method_3_code 118 = .ok (.getfield 21, 3) := by decide +kernel
theorem d_Sc_copyFrom_121 : decode prog_8_method_3_code 121 = .ok (.iconst 0, 1) := by decide +kernel
theorem d_Sc_copyFrom_122 : decode prog_8_method_3_code 122 = .ok (.aload_n 0, 1) := by decide +kernel
theorem d_Sc_copyFrom_123 : decode prog_8_method_3_code 123 = .ok (.getfield 21, 3) := by decide +kernel
theorem d_Sc_copyFrom_126 : decode prog_8_method_3_code 126 = .ok (.iconst 0, 1) := by decide +kernel
theorem d_Sc_copyFrom_127 : decode prog_8_method_3_code 127 = .ok (.bipush 16, 2) := by decide +kernel
theorem d_Sc_copyFrom_129 : decode prog_8_method_3_code 129 = .ok (.invokestatic 71, 3) := by decide +kernel
theorem d_Sc_copyFrom_132 : decode prog_8_method_3_code 132 = .ok (.aload_n 1, 1) := by decide +kernel
theorem d_Sc_copyFrom_133 : decode prog_8_method_3_code 133 = .ok (.getfield 24, 3) := by decide +kernel
theorem d_Sc_copyFrom_136 : decode prog_8_method_3_code 136 = .ok (.iconst 0, 1) := by decide +kernel
theorem d_Sc_copyFrom_137 : decode prog_8_method_3_code 137 = .ok (.aload_n 0, 1) := by decide +kernel
theorem d_Sc_copyFrom_138 : decode prog_8_method_3_code 138 = .ok (.getfield 24, 3) := by decide +kernel
theorem d_Sc_copyFrom_141 : decode prog_8_method_3_code 141 = .ok (.iconst 0, 1) := by decide +kernel
theorem d_Sc_copyFrom_142 : decode prog_8_method_3_code 142 = .ok (.bipush 16, 2) := by decide +kernel
theorem d_Sc_copyFrom_144 : decode prog_8_method_3_code 144 = .ok (.invokestatic 71, 3) := by decide +kernel
theorem d_Sc_copyFrom_147 : decode prog_8_method_3_code 147 = .ok (.aload_n 1, 1) := by decide +kernel
theorem d_Sc_copyFrom_148 : decode prog_8_method_3_code 148 = .ok (.getfield 27, 3) := by decide +kernel
theorem d_Sc_copyFrom_151 : decode prog_8_method_3_code 151 = .ok (.iconst 0, 1) := by decide +kernel
theorem d_Sc_copyFrom_152 : decode prog_8_method_3_code 152 = .ok (.aload_n 0, 1) := by decide +kernel
theorem d_Sc_copyFrom_153 : decode prog_8_method_3_code 153 = .ok (.getfield 27, 3) := by decide +kernel
theorem d_Sc_copyFrom_156 : decode prog_8_method_3_code 156 = .ok (.iconst 0, 1) := by decide +kernel
theorem d_Sc_copyFrom_157 : decode prog_8_method_3_code 157 = .ok (.bipush 12, 2) := by decide +kernel
theorem d_Sc_copyFrom_159 : decode prog_8_method_3_code 159 = .ok (.invokestatic 71, 3) := by decide +kernel
theorem d_Sc_copyFrom_162 : decode prog_8_method_3_code 162 = .ok (.aload_n 1, 1) := by decide +kernel
theorem d_Sc_copyFrom_163 : decode prog_8_method_3_code 163 = .ok (.getfield 31, 3) := by decide +kernel
theorem d_Sc_copyFrom_166 : decode prog_8_method_3_code 166 = .ok (.iconst 0, 1) := by decide +kernel
theorem d_Sc_copyFrom_167 : decode prog_8_method_3_code 167 = .ok (.aload_n 0, 1) := by decide +kernel
theorem d_Sc_copyFrom_168 : decode prog_8_method_3_code 168 = .ok (.getfield 31, 3) := by decide +kernel
theorem d_Sc_copyFrom_171 : decode prog_8_method_3_code 171 = .ok (.iconst 0, 1) := by decide +kernel
theorem d_Sc_copyFrom_172 : decode prog_8_method_3_code 172 = .ok (.bipush 12, 2) := by decide +kernel
theorem d_Sc_copyFrom_174 : decode prog_8_method_3_code 174 = .ok (.invokestatic 71, 3) := by decide +kernel
theorem d_Sc_copyFrom_177 : decode prog_8_method_3_code 177 = .ok (.aload_n 1, 1) := by decide +kernel
theorem d_Sc_copyFrom_178 : decode prog_8_method_3_code 178 = .ok (.getfield 34, 3) := by decide +kernel
theorem d_Sc_copyFrom_181 : decode prog_8_method_3_code 181 = .ok (.iconst 0, 1) := by decide +kernel
theorem d_Sc_copyFrom_182 : decode prog_8_method_3_code 182 = .ok (.aload_n 0, 1) := by decide +kernel
theorem d_Sc_copyFrom_183 : decode prog_8_method_3_code 183 = .ok (.getfield 34, 3) := by decide +kernel
theorem d_Sc_copyFrom_186 : decode prog_8_method_3_code 186 = .ok (.iconst 0, 1) := by decide +kernel
theorem d_Sc_copyFrom_187 : decode prog_8_method_3_code 187 = .ok (.bipush 40, 2) := by decide +kernel
theorem d_Sc_copyFrom_189 : decode prog_8_method_3_code 189 = .ok (.invokestatic 71, 3) := by decide +kernel
theorem d_Sc_copyFrom_192 : decode prog_8_method_3_code 192 = .ok (.return_, 1) := by decide +kernel
theorem d_Sc_isDoor_0 : decode prog_8_method_4_code 0 = .ok (.iload_n 1, 1) := by decide +kernel
theorem d_Sc_isDoor_1 : decode prog_8_method_4_code 1 = .ok (.ifCond .lt 15, 3) := by decide +kernel
theorem d_Sc_isDoor_4 : decode prog_8_method_4_code 4 = .ok (.iload_n 1, 1) := by decide +kernel
theorem d_Sc_isDoor_5 : decode prog_8_method_4_code 5 = .ok (.aload_n 0, 1) := by decide +kernel
theorem d_Sc_isDoor_6 : decode prog_8_method_4_code 6 = .ok (.getfield 37, 3) := by decide +kernel
theorem d_Sc_isDoor_9 : decode prog_8_method_4_code 9 = .ok (.if_icmp .ge 7, 3) := by decide +kernel
theorem d_Sc_isDoor_12 : decode prog_8_method_4_code 12 = .ok (.iconst 1, 1) := by decide +kernel
theorem d_Sc_isDoor_13 : decode prog_8_method_4_code 13 = .ok (.goto 4, 3) := by decide +kernel
theorem d_Sc_isDoor_16 : decode prog_8_method_4_code 16 = .ok (.iconst 0, 1) := by decide +kernel
theorem d_Sc_isDoor_17 : decode prog_8_method_4_code 17 = .ok (.ireturn, 1) := by decide +kernel
theorem d_Sc_isSet_0 : decode prog_8_method_5_code 0 = .ok (.iload_n 1, 1) := by decide +kernel
theorem d_Sc_isSet_1 : decode prog_8_method_5_code 1 = .ok (.ifCond .lt 16, 3) := by decide +kernel
theorem d_Sc_isSet_4 : decode prog_8_method_5_code 4 = .ok (.iload_n 1, 1) := by decide +kernel
theorem d_Sc_isSet_5 : decode prog_8_method_5_code 5 = .ok (.aload_n 0, 1) := by decide +kernel
theorem d_Sc_isSet_6 : decode prog_8_method_5_code 6 = .ok (.getfield 37, 3) := by decide +kernel
theorem d_Sc_isSet_9 : decode prog_8_method_5_code 9 = .ok (.iushr, 1) := by decide +kernel
theorem d_Sc_isSet_10 : decode prog_8_method_5_code 10 = .ok (.ifCond .ne 7, 3) := by decide +kernel
theorem d_Sc_isSet_13 : decode prog_8_method_5_code 13 = .ok (.iconst 1, 1) := by decide +kernel
theorem d_Sc_isSet_14 : decode prog_8_method_5_code 14 = .ok (.goto 4, 3) := by decide +kernel
theorem d_Sc_isSet_17 : decode prog_8_method_5_code 17 = .ok (.iconst 0, 1) := by decide +kernel
theorem d_Sc_isSet_18 : decode prog_8_method_5_code 18 = .ok (.ireturn, 1) := by decide +kernel
theorem d_Sc_addDoor_0 : decode prog_8_method_6_code 0 = .ok (.aload_n 0, 1) := by decide +kernel
theorem d_Sc_addDoor_1 : decode prog_8_method_6_code 1 = .ok (.getfield 37, 3) := by decide +kernel
theorem d_Sc_addDoor_4 : decode prog_8_method_6_code 4 = .ok (.bipush 12, 2) := by decide +kernel
theorem d_Sc_addDoor_6 : decode prog_8_method_6_code 6 = .ok (.if_icmp .ge 33, 3) := by decide +kernel
theorem d_Sc_addDoor_9 : decode prog_8_method_6_code 9 = .ok (.aload_n 0, 1) := by decide +kernel
theorem d_Sc_addDoor_10 : decode prog_8_method_6_code 10 = .ok (.getfield 9, 3) := by decide +kernel
theorem d_Sc_addDoor_13 : decode prog_8_method_6_code 13 = .ok (.aload_n 0, 1) := by decide +kernel
theorem d_Sc_addDoor_14 : decode prog_8_method_6_code 14 = .ok (.getfield 37, 3) := by decide +kernel
theorem d_Sc_addDoor_17 : decode prog_8_method_6_code 17 = .ok (.iload_n 1, 1) := by decide +kernel
theorem d_Sc_addDoor_18 : decode prog_8_method_6_code 18 = .ok (.iastore, 1) := by decide +kernel
theorem d_Sc_addDoor_19 : decode prog_8_method_6_code 19 = .ok (.aload_n 0, 1) := by decide +kernel
theorem d_Sc_addDoor_20 : decode prog_8_method_6_code 20 = .ok (.getfield 15, 3) := by decide +kernel
theorem d_Sc_addDoor_23 : decode prog_8_method_6_code 23 = .ok (.aload_n 0, 1) := by decide +kernel
theorem d_Sc_addDoor_24 : decode prog_8_method_6_code 24 = .ok (.getfield 37, 3) := by decide +kernel
theorem d_Sc_addDoor_27 : decode prog_8_method_6_code 27 = .ok (.iload_n 2, 1) := by decide +kernel
theorem d_Sc_addDoor_28 : decode prog_8_method_6_code 28 = .ok (.iastore, 1) := by decide +kernel
theorem d_Sc_addDoor_29 : decode prog_8_method_6_code 29 = .ok (.aload_n 0, 1) := by decide +kernel
theorem d_Sc_addDoor_30 : decode prog_8_method_6_code 30 = .ok (.dup, 1) := by decide +kernel
theorem d_Sc_addDoor_31 : decode prog_8_method_6_code 31 = .ok (.getfield 37, 3) := by decide +kernel
theorem d_Sc_addDoor_34 : decode prog_8_method_6_code 34 = .ok (.iconst 1, 1) := by decide +kernel
theorem d_Sc_addDoor_35 : decode prog_8_method_6_code 35 = .ok (.iadd, 1) := by decide +kernel
theorem d_Sc_addDoor_36 : decode prog_8_method_6_code 36 = .ok (.putfield 37, 3) := by decide +kernel
theorem d_Sc_addDoor_39 : decode prog_8_method_6_code 39 = .ok (.return_, 1) := by decide +kernel
theorem d_Sc_addJoin_0 : decode prog_8_method_7_code 0 = .ok (.aload_n 0, 1) := by decide +kernel
theorem d_Sc_addJoin_1 : decode prog_8_method_7_code 1 = .ok (.getfield 44, 3) := by decide +kernel
theorem d_Sc_addJoin_4 : decode prog_8_method_7_code 4 = .ok (.bipush 16, 2) := by decide +kernel
theorem d_Sc_addJoin_6 : decode prog_8_method_7_code 6 = .ok (.if_icmp .ge 62, 3) := by decide +kernel
theorem d_Sc_addJoin_9 : decode prog_8_method_7_code 9 = .ok (.aload_n 0, 1) := by decide +kernel
theorem d_Sc_addJoin_10 : decode prog_8_method_7_code 10 = .ok (.getfield 18, 3) := by decide +kernel
theorem d_Sc_addJoin_13 : decode prog_8_method_7_code 13 = .ok (.aload_n 0, 1) := by decide +kernel
theorem d_Sc_addJoin_14 : decode prog_8_method_7_code 14 = .ok (.getfield 44, 3) := by decide +kernel
theorem d_Sc_addJoin_17 : decode prog_8_method_7_code 17 = .ok (.iload_n 1, 1) := by decide +kernel
theorem d_Sc_addJoin_18 : decode prog_8_method_7_code 18 = .ok (.iastore, 1) := by decide +kernel
theorem d_Sc_addJoin_19 : decode prog_8_method_7_code 19 = .ok (.aload_n 0, 1) := by decide +kernel
theorem d_Sc_addJoin_20 : decode prog_8_method_7_code 20 = .ok (.getfield 21, 3) := by decide +kernel
theorem d_Sc_addJoin_23 : decode prog_8_method_7_code 23 = .ok (.aload_n 0, 1) := by decide +kernel
theorem d_Sc_addJoin_24 : decode prog_8_method_7_code 24 = .ok (.getfield 44, 3) := by decide +kernel
theorem d_Sc_addJoin_27 : decode prog_8_method_7_code 27 = .ok (.iload_n 2, 1) := by decide +kernel
theorem d_Sc_addJoin_28 : decode prog_8_method_7_code 28 = .ok (.iastore, 1) := by decide +kernel
theorem d_Sc_addJoin_29 : decode prog_8_method_7_code 29 = .ok (.aload_n 0, 1) := by decide +kernel
theorem d_Sc_addJoin_30 : decode prog_8_method_7_code 30 = .ok (.getfield 24, 3) := by decide +kernel
theorem d_Sc_addJoin_33 : decode prog_8_method_7_code 33 = .ok (.aload_n 0, 1) := by decide +kernel
theorem d_Sc_addJoin_34 : decode prog_8_method_7_code 34 = .ok (.getfield 44, 3) := by decide +kernel
theorem d_Sc_addJoin_37 : decode prog_8_method_7_code 37 = .ok (.iload_n 3, 1) := by decide +kernel
theorem d_Sc_addJoin_38 : decode prog_8_method_7_code 38 = .ok (.iastore, 1) := by decide +kernel
theorem d_Sc_addJoin_39 : decode prog_8_method_7_code 39 = .ok (.aload_n 0, 1) := by decide +kernel
theorem d_Sc_addJoin_40 : decode prog_8_method_7_code 40 = .ok (.dup, 1) := by decide +kernel
theorem d_Sc_addJoin_41 : decode prog_8_method_7_code 41 = .ok (.getfield 44, 3) := by decide +kernel
theorem d_Sc_addJoin_44 : decode prog_8_method_7_code 44 = .ok (.iconst 1, 1) := by decide +kernel
theorem d_Sc_addJoin_45 : decode prog_8_method_7_code 45 = .ok (.iadd, 1) := by decide +kernel
theorem d_Sc_addJoin_46 : decode prog_8_method_7_code 46 = .ok (.putfield 44, 3) := by decide +kernel
theorem d_Sc_addJoin_49 : decode prog_8_method_7_code 49 = .ok (.aload_n 0, 1) := by decide +kernel
theorem d_Sc_addJoin_50 : decode prog_8_method_7_code 50 = .ok (.dup, 1) := by decide +kernel
theorem d_Sc_addJoin_51 : decode prog_8_method_7_code 51 = .ok (.getfield 47, 3) := by decide +kernel
theorem d_Sc_addJoin_54 : decode prog_8_method_7_code 54 = .ok (.iload_n 3, 1) := by decide +kernel
theorem d_Sc_addJoin_55 : decode prog_8_method_7_code 55 = .ok (.iconst 2, 1) := by decide +kernel
theorem d_Sc_addJoin_56 : decode prog_8_method_7_code 56 = .ok (.if_icmp .ne 7, 3) := by decide +kernel
theorem d_Sc_addJoin_59 : decode prog_8_method_7_code 59 = .ok (.iconst 1, 1) := by decide +kernel
theorem d_Sc_addJoin_60 : decode prog_8_method_7_code 60 = .ok (.goto 4, 3) := by decide +kernel
theorem d_Sc_addJoin_63 : decode prog_8_method_7_code 63 = .ok (.iconst 0, 1) := by decide +kernel
theorem d_Sc_addJoin_64 : decode prog_8_method_7_code 64 = .ok (.iadd, 1) := by decide +kernel
theorem d_Sc_addJoin_65 : decode prog_8_method_7_code 65 = .ok (.putfield 47, 3) := by decide +kernel
theorem d_Sc_addJoin_68 : decode prog_8_method_7_code 68 = .ok (.return_, 1) := by decide +kernel
theorem d_Sc_joinsOf_0 : decode prog_8_method_8_code 0 = .ok (.iconst 0, 1) := by decide +kernel
theorem d_Sc_joinsOf_1 : decode prog_8_method_8_code 1 = .ok (.istore_n 2, 1) := by decide +kernel
theorem d_Sc_joinsOf_2 : decode prog_8_method_8_code 2 = .ok (.iconst 0, 1) := by decide +kernel
theorem d_Sc_joinsOf_3 : decode prog_8_method_8_code 3 = .ok (.istore_n 3, 1) := by decide +kernel
theorem d_Sc_joinsOf_4 : decode prog_8_method_8_code 4 = .ok (.iload_n 3, 1) := by decide +kernel
theorem d_Sc_joinsOf_5 : decode prog_8_method_8_code 5 = .ok (.aload_n 0, 1) := by decide +kernel
theorem d_Sc_joinsOf_6 : decode prog_8_method_8_code 6 = .ok (.getfield 44, 3) := by decide +kernel
theorem d_Sc_joinsOf_9 : decode prog_8_method_8_code 9 = .ok (.if_icmp .ge 32, 3) := by decide +kernel
theorem d_Sc_joinsOf_12 : decode prog_8_method_8_code 12 = .ok (.aload_n 0, 1) := by decide +kernel
theorem d_Sc_joinsOf_13 : decode prog_8_method_8_code 13 = .ok (.getfield 18, 3) := by decide +kernel
theorem d_Sc_joinsOf_16 : decode prog_8_method_8_code 16 = .ok (.iload_n 3, 1) := by decide +kernel
theorem d_Sc_joinsOf_17 : decode prog_8_method_8_code 17 = .ok (.iaload, 1) := by decide +kernel
theorem d_Sc_joinsOf_18 : decode prog_8_method_8_code 18 = .ok (.iload_n 1, 1) := by decide +kernel
theorem d_Sc_joinsOf_19 : decode prog_8_method_8_code 19 = .ok (.if_icmp .eq 13, 3) := by decide +kernel
theorem d_Sc_joinsOf_22 : decode prog_8_method_8_code 22 = .ok (.aload_n 0, 1) := by decide +kernel
theorem d_Sc_joinsOf_23 : decode prog_8_method_8_code 23 = .ok (.getfield 21, 3) := by decide +kernel
theorem d_Sc_joinsOf_26 : decode prog_8_method_8_code 26 = .ok (.iload_n 3, 1) := by decide +kernel
theorem d_Sc_joinsOf_27 : decode prog_8_method_8_code 27 = .ok (.iaload, 1) := by decide +kernel
theorem d_Sc_joinsOf_28 : decode prog_8_method_8_code 28 = .ok (.iload_n 1, 1) := by decide +kernel
theorem d_Sc_joinsOf_29 : decode prog_8_method_8_code 29 = .ok (.if_icmp .ne 6, 3) := by decide +kernel
theorem d_Sc_joinsOf_32 : decode prog_8_method_8_code 32 = .ok (.iinc 2 1, 3) := by decide +kernel
theorem d_Sc_joinsOf_35 : decode prog_8_method_8_code 35 = .ok (.iinc 3 1, 3) := by decide +kernel
theorem d_Sc_joinsOf_38 : decode prog_8_method_8_code 38 = .ok (.goto (-34), 3) := by decide +kernel
theorem d_Sc_joinsOf_41 : decode prog_8_method_8_code 41 = .ok (.iload_n 2, 1) := by decide +kernel
theorem d_Sc_joinsOf_42 : decode prog_8_method_8_code 42 = .ok (.ireturn, 1) := by decide +kernel
theorem d_Sp_open_0 : decode prog_9_method_2_code 0 = .ok (.aload_n 0, 1) := by decide +kernel
theorem d_Sp_open_1 : decode prog_9_method_2_code 1 = .ok (.iload_n 1, 1) := by decide +kernel
theorem d_Sp_open_2 : decode prog_9_method_2_code 2 = .ok (.aload_n 0, 1) := by decide +kernel
theorem d_Sp_open_3 : decode prog_9_method_2_code 3 = .ok (.getfield 9, 3) := by decide +kernel
theorem d_Sp_open_6 : decode prog_9_method_2_code 6 = .ok (.arraylength, 1) := by decide +kernel
theorem d_Sp_open_7 : decode prog_9_method_2_code 7 = .ok (.invokestatic 15, 3) := by decide +kernel
theorem d_Sp_open_10 : decode prog_9_method_2_code 10 = .ok (.putfield 21, 3) := by decide +kernel
theorem d_Sp_open_13 : decode prog_9_method_2_code 13 = .ok (.aload_n 0, 1) := by decide +kernel
theorem d_Sp_open_14 : decode prog_9_method_2_code 14 = .ok (.iconst 0, 1) := by decide +kernel
theorem d_Sp_open_15 : decode prog_9_method_2_code 15 = .ok (.putfield 25, 3) := by decide +kernel
theorem d_Sp_open_18 : decode prog_9_method_2_code 18 = .ok (.aload_n 0, 1) := by decide +kernel
theorem d_Sp_open_19 : decode prog_9_method_2_code 19 = .ok (.iconst 0, 1) := by decide +kernel
theorem d_Sp_open_20 : decode prog_9_method_2_code 20 = .ok (.putfield 28, 3) := by decide +kernel
theorem d_Sp_open_23 : decode prog_9_method_2_code 23 = .ok (.return_, 1) := by decide +kernel
theorem d_Sp_isSound_0 : decode prog_9_method_3_code 0 = .ok (.aload_n 0, 1) := by decide +kernel
theorem d_Sp_isSound_1 : decode prog_9_method_3_code 1 = .ok (.getfield 28, 3) := by decide +kernel
theorem d_Sp_isSound_4 : decode prog_9_method_3_code 4 = .ok (.ifCond .ne 7, 3) := by decide +kernel
theorem d_Sp_isSound_7 : decode prog_9_method_3_code 7 = .ok (.iconst 1, 1) := by decide +kernel
theorem d_Sp_isSound_8 : decode prog_9_method_3_code 8 = .ok (.goto 4, 3) := by decide +kernel
theorem d_Sp_isSound_11 : decode prog_9_method_3_code 11 = .ok (.iconst 0, 1) := by decide +kernel
theorem d_Sp_isSound_12 : decode prog_9_method_3_code 12 = .ok (.ireturn, 1) := by decide +kernel
theorem d_Sp_fail_0 : decode prog_9_method_4_code 0 = .ok (.aload_n 0, 1) := by decide +kernel
theorem d_Sp_fail_1 : decode prog_9_method_4_code 1 = .ok (.getfield 28, 3) := by decide +kernel
theorem d_Sp_fail_4 : decode prog_9_method_4_code 4 = .ok (.ifCond .ne 15, 3) := by decide +kernel
theorem d_Sp_fail_7 : decode prog_9_method_4_code 7 = .ok (.aload_n 0, 1) := by decide +kernel
theorem d_Sp_fail_8 : decode prog_9_method_4_code 8 = .ok (.iconst 1, 1) := by decide +kernel
theorem d_Sp_fail_9 : decode prog_9_method_4_code 9 = .ok (.bipush 8, 2) := by decide +kernel
theorem d_Sp_fail_11 : decode prog_9_method_4_code 11 = .ok (.iload_n 1, 1) := by decide +kernel
theorem d_Sp_fail_12 : decode prog_9_method_4_code 12 = .ok (.imul, 1) := by decide +kernel
theorem d_Sp_fail_13 : decode prog_9_method_4_code 13 = .ok (.iadd, 1) := by decide +kernel
theorem d_Sp_fail_14 : decode prog_9_method_4_code 14 = .ok (.iload_n 2, 1) := by decide +kernel
theorem d_Sp_fail_15 : decode prog_9_method_4_code 15 = .ok (.iadd, 1) := by decide +kernel
theorem d_Sp_fail_16 : decode prog_9_method_4_code 16 = .ok (.putfield 28, 3) := by decide +kernel
theorem d_Sp_fail_19 : decode prog_9_method_4_code 19 = .ok (.return_, 1) := by decide +kernel
theorem d_Sp_byteAt_0 : decode prog_9_method_5_code 0 = .ok (.iload_n 1, 1) := by decide +kernel
theorem d_Sp_byteAt_1 : decode prog_9_method_5_code 1 = .ok (.ifCond .lt 20, 3) := by decide +kernel
theorem d_Sp_byteAt_4 : decode prog_9_method_5_code 4 = .ok (.iload_n 1, 1) := by decide +kernel
theorem d_Sp_byteAt_5 : decode prog_9_method_5_code 5 = .ok (.aload_n 0, 1) := by decide +kernel
theorem d_Sp_byteAt_6 : decode prog_9_method_5_code 6 = .ok (.getfield 21, 3) := by decide +kernel
theorem d_Sp_byteAt_9 : decode prog_9_method_5_code 9 = .ok (.if_icmp .ge 12, 3) := by decide +kernel
theorem d_Sp_byteAt_12 : decode prog_9_method_5_code 12 = .ok (.aload_n 0, 1) := by decide +kernel
theorem d_Sp_byteAt_13 : decode prog_9_method_5_code 13 = .ok (.getfield 9, 3) := by decide +kernel
theorem d_Sp_byteAt_16 : decode prog_9_method_5_code 16 = .ok (.iload_n 1, 1) := by decide +kernel
theorem d_Sp_byteAt_17 : decode prog_9_method_5_code 17 = .ok (.iaload, 1) := by decide +kernel
theorem d_Sp_byteAt_18 : decode prog_9_method_5_code 18 = .ok (.goto 4, 3) := by decide +kernel
theorem d_Sp_byteAt_21 : decode prog_9_method_5_code 21 = .ok (.iconst (-1), 1) := by decide +kernel
theorem d_Sp_byteAt_22 : decode prog_9_method_5_code 22 = .ok (.ireturn, 1) := by decide +kernel
theorem d_Sp_nextSign_0 : decode prog_9_method_6_code 0 = .ok (.aload_n 0, 1) := by decide +kernel
theorem d_Sp_nextSign_1 : decode prog_9_method_6_code 1 = .ok (.getfield 25, 3) := by decide +kernel
theorem d_Sp_nextSign_4 : decode prog_9_method_6_code 4 = .ok (.aload_n 0, 1) := by decide +kernel
theorem d_Sp_nextSign_5 : decode prog_9_method_6_code 5 = .ok (.getfield 21, 3) := by decide +kernel
theorem d_Sp_nextSign_8 : decode prog_9_method_6_code 8 = .ok (.if_icmp .ge 30, 3) := by decide +kernel
theorem d_Sp_nextSign_11 : decode prog_9_method_6_code 11 = .ok (.aload_n 0, 1) := by decide +kernel
theorem d_Sp_nextSign_12 : decode prog_9_method_6_code 12 = .ok (.getfield 9, 3) := by decide +kernel
theorem d_Sp_nextSign_15 : decode prog_9_method_6_code 15 = .ok (.aload_n 0, 1) := by decide +kernel
theorem d_Sp_nextSign_16 : decode prog_9_method_6_code 16 = .ok (.getfield 25, 3) := by decide +kernel
theorem d_Sp_nextSign_19 : decode prog_9_method_6_code 19 = .ok (.iaload, 1) := by decide +kernel
theorem d_Sp_nextSign_20 : decode prog_9_method_6_code 20 = .ok (.bipush 32, 2) := by decide +kernel
theorem d_Sp_nextSign_22 : decode prog_9_method_6_code 22 = .ok (.if_icmp .ne 16, 3) := by decide +kernel
theorem d_Sp_nextSign_25 : decode prog_9_method_6_code 25 = .ok (.aload_n 0, 1) := by decide +kernel
theorem d_Sp_nextSign_26 : decode prog_9_method_6_code 26 = .ok (.dup, 1) := by decide +kernel
theorem d_Sp_nextSign_27 : decode prog_9_method_6_code 27 = .ok (.getfield 25, 3) := by decide +kernel
theorem d_Sp_nextSign_30 : decode prog_9_method_6_code 30 = .ok (.iconst 1, 1) := by decide +kernel
theorem d_Sp_nextSign_31 : decode prog_9_method_6_code 31 = .ok (.iadd, 1) := by decide +kernel
theorem d_Sp_nextSign_32 : decode prog_9_method_6_code 32 = .ok (.putfield 25, 3) := by decide +kernel
theorem d_Sp_nextSign_35 : decode prog_9_method_6_code 35 = .ok (.goto (-35), 3) := by decide +kernel
theorem d_Sp_nextSign_38 : decode prog_9_method_6_code 38 = .ok (.aload_n 0, 1) := by decide +kernel
theorem d_Sp_nextSign_39 : decode prog_9_method_6_code 39 = .ok (.getfield 25, 3) := by decide +kernel
theorem d_Sp_nextSign_42 : decode prog_9_method_6_code 42 = .ok (.aload_n 0, 1) := by decide +kernel
theorem d_Sp_nextSign_43 : decode prog_9_method_6_code 43 = .ok (.getfield 21, 3) := by decide +kernel
theorem d_Sp_nextSign_46 : decode prog_9_method_6_code 46 = .ok (.if_icmp .ge 15, 3) := by decide +kernel
theorem d_Sp_nextSign_49 : decode prog_9_method_6_code 49 = .ok (.aload_n 0, 1) := by decide +kernel
theorem d_Sp_nextSign_50 : decode prog_9_method_6_code 50 = .ok (.getfield 9, 3) := by decide +kernel
theorem d_Sp_nextSign_53 : decode prog_9_method_6_code 53 = .ok (.aload_n 0, 1) := by decide +kernel
theorem d_Sp_nextSign_54 : decode prog_9_method_6_code 54 = .ok (.getfield 25, 3) := by decide +kernel
theorem d_Sp_nextSign_57 : decode prog_9_method_6_code 57 = .ok (.iaload, 1) := by decide +kernel
theorem d_Sp_nextSign_58 : decode prog_9_method_6_code 58 = .ok (.goto 4, 3) := by decide +kernel
theorem d_Sp_nextSign_61 : decode prog_9_method_6_code 61 = .ok (.iconst (-1), 1) := by decide +kernel
theorem d_Sp_nextSign_62 : decode prog_9_method_6_code 62 = .ok (.ireturn, 1) := by decide +kernel
theorem d_Sp_takeSign_0 : decode prog_9_method_7_code 0 = .ok (.aload_n 0, 1) := by decide +kernel
theorem d_Sp_takeSign_1 : decode prog_9_method_7_code 1 = .ok (.invokevirtual 31, 3) := by decide +kernel
theorem d_Sp_takeSign_4 : decode prog_9_method_7_code 4 = .ok (.iload_n 1, 1) := by decide +kernel
theorem d_Sp_takeSign_5 : decode prog_9_method_7_code 5 = .ok (.if_icmp .eq 5, 3) := by decide +kernel
theorem d_Sp_takeSign_8 : decode prog_9_method_7_code 8 = .ok (.iconst 0, 1) := by decide +kernel
theorem d_Sp_takeSign_9 : decode prog_9_method_7_code 9 = .ok (.ireturn, 1) := by decide +kernel
theorem d_Sp_takeSign_10 : decode prog_9_method_7_code 10 = .ok (.aload_n 0, 1) := by decide +kernel
theorem d_Sp_takeSign_11 : decode prog_9_method_7_code 11 = .ok (.dup, 1) := by decide +kernel
theorem d_Sp_takeSign_12 : decode prog_9_method_7_code 12 = .ok (.getfield 25, 3) := by decide +kernel
theorem d_Sp_takeSign_15 : decode prog_9_method_7_code 15 = .ok (.iconst 1, 1) := by decide +kernel
theorem d_Sp_takeSign_16 : decode prog_9_method_7_code 16 = .ok (.iadd, 1) := by decide +kernel
theorem d_Sp_takeSign_17 : decode prog_9_method_7_code 17 = .ok (.putfield 25, 3) := by decide +kernel
theorem d_Sp_takeSign_20 : decode prog_9_method_7_code 20 = .ok (.iconst 1, 1) := by decide +kernel
theorem d_Sp_takeSign_21 : decode prog_9_method_7_code 21 = .ok (.ireturn, 1) := by decide +kernel
theorem d_Sp_isAtDigit_0 : decode prog_9_method_8_code 0 = .ok (.aload_n 0, 1) := by decide +kernel
theorem d_Sp_isAtDigit_1 : decode prog_9_method_8_code 1 = .ok (.invokevirtual 31, 3) := by decide +kernel
theorem d_Sp_isAtDigit_4 : decode prog_9_method_8_code 4 = .ok (.istore_n 1, 1) := by decide +kernel
theorem d_Sp_isAtDigit_5 : decode prog_9_method_8_code 5 = .ok (.iload_n 1, 1) := by decide +kernel
theorem d_Sp_isAtDigit_6 : decode prog_9_method_8_code 6 = .ok (.bipush 48, 2) := by decide +kernel
theorem d_Sp_isAtDigit_8 : decode prog_9_method_8_code 8 = .ok (.if_icmp .lt 13, 3) := by decide +kernel
theorem d_Sp_isAtDigit_11 : decode prog_9_method_8_code 11 = .ok (.iload_n 1, 1) := by decide +kernel
theorem d_Sp_isAtDigit_12 : decode prog_9_method_8_code 12 = .ok (.bipush 57, 2) := by decide +kernel
theorem d_Sp_isAtDigit_14 : decode prog_9_method_8_code 14 = .ok (.if_icmp .gt 7, 3) := by decide +kernel
theorem d_Sp_isAtDigit_17 : decode prog_9_method_8_code 17 = .ok (.iconst 1, 1) := by decide +kernel
theorem d_Sp_isAtDigit_18 : decode prog_9_method_8_code 18 = .ok (.goto 4, 3) := by decide +kernel
theorem d_Sp_isAtDigit_21 : decode prog_9_method_8_code 21 = .ok (.iconst 0, 1) := by decide +kernel
theorem d_Sp_isAtDigit_22 : decode prog_9_method_8_code 22 = .ok (.ireturn, 1) := by decide +kernel
theorem d_Sp_isAtWord_0 : decode prog_9_method_9_code 0 = .ok (.aload_n 0, 1) := by decide +kernel
theorem d_Sp_isAtWord_1 : decode prog_9_method_9_code 1 = .ok (.invokevirtual 31, 3) := by decide +kernel
theorem d_Sp_isAtWord_4 : decode prog_9_method_9_code 4 = .ok (.pop, 1) := by decide +kernel
theorem d_Sp_isAtWord_5 : decode prog_9_method_9_code 5 = .ok (.iconst 0, 1) := by decide +kernel
theorem d_Sp_isAtWord_6 : decode prog_9_method_9_code 6 = .ok (.istore_n 2, 1) := by decide +kernel
theorem d_Sp_isAtWord_7 : decode prog_9_method_9_code 7 = .ok (.iload_n 2, 1) := by decide +kernel
theorem d_Sp_isAtWord_8 : decode prog_9_method_9_code 8 = .ok (.aload_n 1, 1) := by decide +kernel
theorem d_Sp_isAtWord_9 : decode prog_9_method_9_code 9 = .ok (.invokevirtual 35, 3) := by decide +kernel
theorem d_Sp_isAtWord_12 : decode prog_9_method_9_code 12 = .ok (.if_icmp .ge 29, 3) := by decide +kernel
theorem d_Sp_isAtWord_15 : decode prog_9_method_9_code 15 = .ok (.aload_n 0, 1) := by decide +kernel
theorem d_Sp_isAtWord_16 : decode prog_9_method_9_code 16 = .ok (.aload_n 0, 1) := by decide +kernel
theorem d_Sp_isAtWord_17 : decode prog_9_method_9_code 17 = .ok (.getfield 25, 3) := by decide +kernel
theorem d_Sp_isAtWord_20 : decode prog_9_method_9_code 20 = .ok (.iload_n 2, 1) := by decide +kernel
theorem d_Sp_isAtWord_21 : decode prog_9_method_9_code 21 = .ok (.iadd, 1) := by decide +kernel
theorem d_Sp_isAtWord_22 : decode prog_9_method_9_code 22 = .ok (.invokevirtual 39, 3) := by decide +kernel
theorem d_Sp_isAtWord_25 : decode prog_9_method_9_code 25 = .ok (.aload_n 1, 1) := by decide +kernel
theorem d_Sp_isAtWord_26 : decode prog_9_method_9_code 26 = .ok (.iload_n 2, 1) := by decide +kernel
theorem d_Sp_isAtWord_27 : decode prog_9_method_9_code 27 = .ok (.invokevirtual 43, 3) := by decide +kernel
theorem d_Sp_isAtWord_30 : decode prog_9_method_9_code 30 = .ok (.if_icmp .eq 5, 3) := by decide +kernel
theorem d_Sp_isAtWord_33 : decode prog_9_method_9_code 33 = .ok (.iconst 0, 1) := by decide +kernel
theorem d_Sp_isAtWord_34 : decode prog_9_method_9_code 34 = .ok (.ireturn, 1) := by decide +kernel
theorem d_Sp_isAtWord_35 : decode prog_9_method_9_code 35 = .ok (.iinc 2 1, 3) := by decide +kernel
theorem d_Sp_isAtWord_38 : decode prog_9_method_9_code 38 = .ok (.goto (-31), 3) := by decide +kernel
theorem d_Sp_isAtWord_41 : decode prog_9_method_9_code 41 = .ok (.aload_n 0, 1) := by decide +kernel
theorem d_Sp_isAtWord_42 : decode prog_9_method_9_code 42 = .ok (.aload_n 0, 1) := by decide +kernel
theorem d_Sp_isAtWord_43 : decode prog_9_method_9_code 43 = .ok (.getfield 25, 3) := by decide +kernel
theorem d_Sp_isAtWord_46 : decode prog_9_method_9_code 46 = .ok (.aload_n 1, 1) := by decide +kernel
theorem d_Sp_isAtWord_47 : decode prog_9_method_9_code 47 = .ok (.invokevirtual 35, 3) := by decide +kernel
theorem d_Sp_isAtWord_50 : decode prog_9_method_9_code 50 = .ok (.iadd, 1) := by decide +kernel
theorem d_Sp_isAtWord_51 : decode prog_9_method_9_code 51 = .ok (.invokevirtual 39, 3) := by decide +kernel
theorem d_Sp_isAtWord_54 : decode prog_9_method_9_code 54 = .ok (.istore_n 2, 1) := by decide +kernel
theorem d_Sp_isAtWord_55 : decode prog_9_method_9_code 55 = .ok (.iload_n 2, 1) := by decide +kernel
theorem d_Sp_isAtWord_56 : decode prog_9_method_9_code 56 = .ok (.bipush 97, 2) := by decide +kernel
theorem d_Sp_isAtWord_58 : decode prog_9_method_9_code 58 = .ok (.if_icmp .lt 9, 3) := by decide +kernel
theorem d_Sp_isAtWord_61 : decode prog_9_method_9_code 61 = .ok (.iload_n 2, 1) := by decide +kernel
theorem d_Sp_isAtWord_62 : decode prog_9_method_9_code 62 = .ok (.bipush 122, 2) := by decide +kernel
theorem d_Sp_isAtWord_64 : decode prog_9_method_9_code 64 = .ok (.if_icmp .le 7, 3) := by decide +kernel
theorem d_Sp_isAtWord_67 : decode prog_9_method_9_code 67 = .ok (.iconst 1, 1) := by decide +kernel
theorem d_Sp_isAtWord_68 : decode prog_9_method_9_code 68 = .ok (.goto 4, 3) := by decide +kernel
theorem d_Sp_isAtWord_71 : decode prog_9_method_9_code 71 = .ok (.iconst 0, 1) := by decide +kernel
theorem d_Sp_isAtWord_72 : decode prog_9_method_9_code 72 = .ok (.ireturn, 1) := by decide +kernel
theorem d_Sp_takeWord_0 : decode prog_9_method_10_code 0 = .ok (.aload_n 0, 1) := by decide +kernel
theorem d_Sp_takeWord_1 : decode prog_9_method_10_code 1 = .ok (.aload_n 1, 1) := by decide +kernel
theorem d_Sp_takeWord_2 : decode prog_9_method_10_code 2 = .ok (.invokevirtual 47, 3) := by decide +kernel
theorem d_Sp_takeWord_5 : decode prog_9_method_10_code 5 = .ok (.ifCond .ne 5, 3) := by decide +kernel
theorem d_Sp_takeWord_8 : decode prog_9_method_10_code 8 = .ok (.iconst 0, 1) := by decide +kernel
theorem d_Sp_takeWord_9 : decode prog_9_method_10_code 9 = .ok (.ireturn, 1) := by decide +kernel
theorem d_Sp_takeWord_10 : decode prog_9_method_10_code 10 = .ok (.aload_n 0, 1) := by decide +kernel
theorem d_Sp_takeWord_11 : decode prog_9_method_10_code 11 = .ok (.dup, 1) := by decide +kernel
theorem d_Sp_takeWord_12 : decode prog_9_method_10_code 12 = .ok (.getfield 25, 3) := by decide +kernel
theorem d_Sp_takeWord_15 : decode prog_9_method_10_code 15 = .ok (.aload_n 1, 1) := by decide +kernel
theorem d_Sp_takeWord_16 : decode prog_9_method_10_code 16 = .ok (.invokevirtual 35, 3) := by decide +kernel
theorem d_Sp_takeWord_19 : decode prog_9_method_10_code 19 = .ok (.iadd, 1) := by decide +kernel
theorem d_Sp_takeWord_20 : decode prog_9_method_10_code 20 = .ok (.putfield 25, 3) := by decide +kernel
theorem d_Sp_takeWord_23 : decode prog_9_method_10_code 23 = .ok (.iconst 1, 1) := by decide +kernel
theorem d_Sp_takeWord_24 : decode prog_9_method_10_code 24 = .ok (.ireturn, 1) := by decide +kernel
theorem d_Sp_takeNumber_0 : decode prog_9_method_11_code 0 = .ok (.aload_n 0, 1) := by decide +kernel
theorem d_Sp_takeNumber_1 : decode prog_9_method_11_code 1 = .ok (.invokevirtual 51, 3) := by decide +kernel
theorem d_Sp_takeNumber_4 : decode prog_9_method_11_code 4 = .ok (.ifCond .ne 14, 3) := by decide +kernel
theorem d_Sp_takeNumber_7 : decode prog_9_method_11_code 7 = .ok (.aload_n 0, 1) := by decide +kernel
theorem d_Sp_takeNumber_8 : decode prog_9_method_11_code 8 = .ok (.aload_n 0, 1) := by decide +kernel
theorem d_Sp_takeNumber_9 : decode prog_9_method_11_code 9 = .ok (.getfield 25, 3) := by decide +kernel
theorem d_Sp_takeNumber_12 : decode prog_9_method_11_code 12 = .ok (.iconst 0, 1) := by decide +kernel
theorem d_Sp_takeNumber_13 : decode prog_9_method_11_code 13 = .ok (.invokevirtual 55, 3) := by decide +kernel
theorem d_Sp_takeNumber_16 : decode prog_9_method_11_code 16 = .ok (.iconst (-1), 1) := by decide +kernel
theorem d_Sp_takeNumber_17 : decode prog_9_method_11_code 17 = .ok (.ireturn, 1) := by decide +kernel
theorem d_Sp_takeNumber_18 : decode prog_9_method_11_code 18 = .ok (.aload_n 0, 1) := by decide +kernel
theorem d_Sp_takeNumber_19 : decode prog_9_method_11_code 19 = .ok (.getfield 25, 3) := by decide +kernel
theorem d_Sp_takeNumber_22 : decode prog_9_method_11_code 22 = .ok (.istore_n 1, 1) := by decide +kernel
theorem d_Sp_takeNumber_23 : decode prog_9_method_11_code 23 = .ok (.iconst 0, 1) := by decide +kernel
theorem d_Sp_takeNumber_24 : decode prog_9_method_11_code 24 = .ok (.istore_n 2, 1) := by decide +kernel
theorem d_Sp_takeNumber_25 : decode prog_9_method_11_code 25 = .ok (.aload_n 0, 1) := by decide +kernel
theorem d_Sp_takeNumber_26 : decode prog_9_method_11_code 26 = .ok (.getfield 25, 3) := by decide +kernel
theorem d_Sp_takeNumber_29 : decode prog_9_method_11_code 29 = .ok (.aload_n 0, 1) := by decide +kernel
theorem d_Sp_takeNumber_30 : decode prog_9_method_11_code 30 = .ok (.getfield 21, 3) := by decide +kernel
theorem d_Sp_takeNumber_33 : decode prog_9_method_11_code 33 = .ok (.if_icmp .ge 72, 3) := by decide +kernel
theorem d_Sp_takeNumber_36 : decode prog_9_method_11_code 36 = .ok (.aload_n 0, 1) := by decide +kernel
theorem d_Sp_takeNumber_37 : decode prog_9_method_11_code 37 = .ok (.getfield 9, 3) := by decide +kernel
theorem d_Sp_takeNumber_40 : decode prog_9_method_11_code 40 = .ok (.aload_n 0, 1) := by decide +kernel
theorem d_Sp_takeNumber_41 : decode prog_9_method_11_code 41 = .ok (.getfield 25, 3) := by decide +kernel
theorem d_Sp_takeNumber_44 : decode prog_9_method_11_code 44 = .ok (.iaload, 1) := by decide +kernel
theorem d_Sp_takeNumber_45 : decode prog_9_method_11_code 45 = .ok (.bipush 48, 2) := by decide +kernel
theorem d_Sp_takeNumber_47 : decode prog_9_method_11_code 47 = .ok (.if_icmp .lt 58, 3) := by decide +kernel
theorem d_Sp_takeNumber_50 : decode prog_9_method_11_code 50 = .ok (.aload_n 0, 1) := by decide +kernel
theorem d_Sp_takeNumber_51 : decode prog_9_method_11_code 51 = .ok (.getfield 9, 3) := by decide +kernel
theorem d_Sp_takeNumber_54 : decode prog_9_method_11_code 54 = .ok (.aload_n 0, 1) := by decide +kernel
theorem d_Sp_takeNumber_55 : decode prog_9_method_11_code 55 = .ok (.getfield 25, 3) := by decide +kernel
theorem d_Sp_takeNumber_58 : decode prog_9_method_11_code 58 = .ok (.iaload, 1) := by decide +kernel
theorem d_Sp_takeNumber_59 : decode prog_9_method_11_code 59 = .ok (.bipush 57, 2) := by decide +kernel
theorem d_Sp_takeNumber_61 : decode prog_9_method_11_code 61 = .ok (.if_icmp .gt 44, 3) := by decide +kernel
theorem d_Sp_takeNumber_64 : decode prog_9_method_11_code 64 = .ok (.aload_n 0, 1) := by decide +kernel
theorem d_Sp_takeNumber_65 : decode prog_9_method_11_code 65 = .ok (.getfield 25, 3) := by decide +kernel
theorem d_Sp_takeNumber_68 : decode prog_9_method_11_code 68 = .ok (.iload_n 1, 1) := by decide +kernel
theorem d_Sp_takeNumber_69 : decode prog_9_method_11_code 69 = .ok (.isub, 1) := by decide +kernel
theorem d_Sp_takeNumber_70 : decode prog_9_method_11_code 70 = .ok (.iconst 5, 1) := by decide +kernel
theorem d_Sp_takeNumber_71 : decode prog_9_method_11_code 71 = .ok (.if_icmp .ge 21, 3) := by decide +kernel
theorem d_Sp_takeNumber_74 : decode prog_9_method_11_code 74 = .ok (.iload_n 2, 1) := by decide +kernel
theorem d_Sp_takeNumber_75 : decode prog_9_method_11_code 75 = .ok (.bipush 10, 2) := by decide +kernel
theorem d_Sp_takeNumber_77 : decode prog_9_method_11_code 77 = .ok (.imul, 1) := by decide +kernel
theorem d_Sp_takeNumber_78 : decode prog_9_method_11_code 78 = .ok (.aload_n 0, 1) := by decide +kernel
theorem d_Sp_takeNumber_79 : decode prog_9_method_11_code 79 = .ok (.getfield 9, 3) := by decide +kernel
theorem d_Sp_takeNumber_82 : decode prog_9_method_11_code 82 = .ok (.aload_n 0, 1) := by decide +kernel
theorem d_Sp_takeNumber_83 : decode prog_9_method_11_code 83 = .ok (.getfield 25, 3) := by decide +kernel
theorem d_Sp_takeNumber_86 : decode prog_9_method_11_code 86 = .ok (.iaload, 1) := by decide +kernel
theorem d_Sp_takeNumber_87 : decode prog_9_method_11_code 87 = .ok (.iadd, 1) := by decide +kernel
theorem d_Sp_takeNumber_88 : decode prog_9_method_11_code 88 = .ok (.bipush 48, 2) := by decide +kernel
theorem d_Sp_takeNumber_90 : decode prog_9_method_11_code 90 = .ok (.isub, 1) := by decide +kernel
theorem d_Sp_takeNumber_91 : decode prog_9_method_11_code 91 = .ok (.istore_n 2, 1) := by decide +kernel
theorem d_Sp_takeNumber_92 : decode prog_9_method_11_code 92 = .ok (.aload_n 0, 1) := by decide +kernel
theorem d_Sp_takeNumber_93 : decode prog_9_method_11_code 93 = .ok (.dup, 1) := by decide +kernel
theorem d_Sp_takeNumber_94 : decode prog_9_method_11_code 94 = .ok (.getfield 25, 3) := by decide +kernel
theorem d_Sp_takeNumber_97 : decode prog_9_method_11_code 97 = .ok (.iconst 1, 1) := by decide +kernel
theorem d_Sp_takeNumber_98 : decode prog_9_method_11_code 98 = .ok (.iadd, 1) := by decide +kernel
theorem d_Sp_takeNumber_99 : decode prog_9_method_11_code 99 = .ok (.putfield 25, 3) := by decide +kernel
theorem d_Sp_takeNumber_102 : decode prog_9_method_11_code 102 = .ok (.goto (-77), 3) := by decide +kernel
theorem d_Sp_takeNumber_105 : decode prog_9_method_11_code 105 = .ok (.aload_n 0, 1) := by decide +kernel
theorem d_Sp_takeNumber_106 : decode prog_9_method_11_code 106 = .ok (.getfield 25, 3) := by decide +kernel
theorem d_Sp_takeNumber_109 : decode prog_9_method_11_code 109 = .ok (.iload_n 1, 1) := by decide +kernel
theorem d_Sp_takeNumber_110 : decode prog_9_method_11_code 110 = .ok (.isub, 1) := by decide +kernel
theorem d_Sp_takeNumber_111 : decode prog_9_method_11_code 111 = .ok (.iconst 5, 1) := by decide +kernel
theorem d_Sp_takeNumber_112 : decode prog_9_method_11_code 112 = .ok (.if_icmp .le 11, 3) := by decide +kernel
theorem d_Sp_takeNumber_115 : decode prog_9_method_11_code 115 = .ok (.aload_n 0, 1) := by decide +kernel
theorem d_Sp_takeNumber_116 : decode prog_9_method_11_code 116 = .ok (.iload_n 1, 1) := by decide +kernel
theorem d_Sp_takeNumber_117 : decode prog_9_method_11_code 117 = .ok (.iconst 1, 1) := by decide +kernel
theorem d_Sp_takeNumber_118 : decode prog_9_method_11_code 118 = .ok (.invokevirtual 55, 3) := by decide +kernel
theorem d_Sp_takeNumber_121 : decode prog_9_method_11_code 121 = .ok (.iconst (-1), 1) := by decide +kernel
theorem d_Sp_takeNumber_122 : decode prog_9_method_11_code 122 = .ok (.ireturn, 1) := by decide +kernel
theorem d_Sp_takeNumber_123 : decode prog_9_method_11_code 123 = .ok (.iload_n 2, 1) := by decide +kernel
theorem d_Sp_takeNumber_124 : decode prog_9_method_11_code 124 = .ok (.ireturn, 1) := by decide +kernel
theorem d_Sp_takeClauseBreak_0 : decode prog_9_method_12_code 0 = .ok (.aload_n 0, 1) := by decide +kernel
theorem d_Sp_takeClauseBreak_1 : decode prog_9_method_12_code 1 = .ok (.bipush 59, 2) := by decide +kernel
theorem d_Sp_takeClauseBreak_3 : decode prog_9_method_12_code 3 = .ok (.invokevirtual 59, 3) := by decide +kernel
theorem d_Sp_takeClauseBreak_6 : decode prog_9_method_12_code 6 = .ok (.ifCond .eq 5, 3) := by decide +kernel
theorem d_Sp_takeClauseBreak_9 : decode prog_9_method_12_code 9 = .ok (.iconst 1, 1) := by decide +kernel
theorem d_Sp_takeClauseBreak_10 : decode prog_9_method_12_code 10 = .ok (.ireturn, 1) := by decide +kernel
theorem d_Sp_takeClauseBreak_11 : decode prog_9_method_12_code 11 = .ok (.aload_n 0, 1) := by decide +kernel
theorem d_Sp_takeClauseBreak_12 : decode prog_9_method_12_code 12 = .ok (.getfield 25, 3) := by decide +kernel
theorem d_Sp_takeClauseBreak_15 : decode prog_9_method_12_code 15 = .ok (.aload_n 0, 1) := by decide +kernel
theorem d_Sp_takeClauseBreak_16 : decode prog_9_method_12_code 16 = .ok (.getfield 21, 3) := by decide +kernel
theorem d_Sp_takeClauseBreak_19 : decode prog_9_method_12_code 19 = .ok (.if_icmp .ge 12, 3) := by decide +kernel
theorem d_Sp_takeClauseBreak_22 : decode prog_9_method_12_code 22 = .ok (.aload_n 0, 1) := by decide +kernel
theorem d_Sp_takeClauseBreak_23 : decode prog_9_method_12_code 23 = .ok (.aload_n 0, 1) := by decide +kernel
theorem d_Sp_takeClauseBreak_24 : decode prog_9_method_12_code 24 = .ok (.getfield 25, 3) := by decide +kernel
theorem d_Sp_takeClauseBreak_27 : decode prog_9_method_12_code 27 = .ok (.iconst 0, 1) := by decide +kernel
theorem d_Sp_takeClauseBreak_28 : decode prog_9_method_12_code 28 = .ok (.invokevirtual 55, 3) := by decide +kernel
theorem d_Sp_takeClauseBreak_31 : decode prog_9_method_12_code 31 = .ok (.iconst 0, 1) := by decide +kernel
theorem d_Sp_takeClauseBreak_32 : decode prog_9_method_12_code 32 = .ok (.ireturn, 1) := by decide +kernel
theorem d_Sr_read_0 : decode prog_10_method_2_code 0 = .ok (.aload_n 0, 1) := by decide +kernel
theorem d_Sr_read_1 : decode prog_10_method_2_code 1 = .ok (.getfield 15, 3) := by decide +kernel
theorem d_Sr_read_4 : decode prog_10_method_2_code 4 = .ok (.invokevirtual 19, 3) := by decide +kernel
theorem d_Sr_read_7 : decode prog_10_method_2_code 7 = .ok (.iconst 1, 1) := by decide +kernel
theorem d_Sr_read_8 : decode prog_10_method_2_code 8 = .ok (.istore_n 1, 1) := by decide +kernel
theorem d_Sr_read_9 : decode prog_10_method_2_code 9 = .ok (.iconst 0, 1) := by decide +kernel
theorem d_Sr_read_10 : decode prog_10_method_2_code 10 = .ok (.istore_n 2, 1) := by decide +kernel
theorem d_Sr_read_11 : decode prog_10_method_2_code 11 = .ok (.iload_n 2, 1) := by decide +kernel
theorem d_Sr_read_12 : decode prog_10_method_2_code 12 = .ok (.bipush 32, 2) := by decide +kernel
theorem d_Sr_read_14 : decode prog_10_method_2_code 14 = .ok (.if_icmp .gt 44, 3) := by decide +kernel
theorem d_Sr_read_17 : decode prog_10_method_2_code 17 = .ok (.iload_n 1, 1) := by decide +kernel
theorem d_Sr_read_18 : decode prog_10_method_2_code 18 = .ok (.ifCond .eq 40, 3) := by decide +kernel
theorem d_Sr_read_21 : decode prog_10_method_2_code 21 = .ok (.aload_n 0, 1) := by decide +kernel
theorem d_Sr_read_22 : decode prog_10_method_2_code 22 = .ok (.iload_n 2, 1) := by decide +kernel
theorem d_Sr_read_23 : decode prog_10_method_2_code 23 = .ok (.invokevirtual 24, 3) := by decide +kernel
theorem d_Sr_read_26 : decode prog_10_method_2_code 26 = .ok (.aload_n 0, 1) := by decide +kernel
theorem d_Sr_read_27 : decode prog_10_method_2_code 27 = .ok (.getfield 9, 3) := by decide +kernel
theorem d_Sr_read_30 : decode prog_10_method_2_code 30 = .ok (.invokevirtual 28, 3) := by decide +kernel
theorem d_Sr_read_33 : decode prog_10_method_2_code 33 = .ok (.ifCond .eq 17, 3) := by decide +kernel
theorem d_Sr_read_36 : decode prog_10_method_2_code 36 = .ok (.aload_n 0, 1) := by decide +kernel
theorem d_Sr_read_37 : decode prog_10_method_2_code 37 = .ok (.getfield 9, 3) := by decide +kernel
theorem d_Sr_read_40 : decode prog_10_method_2_code 40 = .ok (.invokevirtual 34, 3) := by decide +kernel
theorem d_Sr_read_43 : decode prog_10_method_2_code 43 = .ok (.ifCond .eq 7, 3) := by decide +kernel
theorem d_Sr_read_46 : decode prog_10_method_2_code 46 = .ok (.iconst 1, 1) := by decide +kernel
theorem d_Sr_read_47 : decode prog_10_method_2_code 47 = .ok (.goto 4, 3) := by decide +kernel
theorem d_Sr_read_50 : decode prog_10_method_2_code 50 = .ok (.iconst 0, 1) := by decide +kernel
theorem d_Sr_read_51 : decode prog_10_method_2_code 51 = .ok (.istore_n 1, 1) := by decide +kernel
theorem d_Sr_read_52 : decode prog_10_method_2_code 52 = .ok (.iinc 2 1, 3) := by decide +kernel
theorem d_Sr_read_55 : decode prog_10_method_2_code 55 = .ok (.goto (-44), 3) := by decide +kernel
theorem d_Sr_read_58 : decode prog_10_method_2_code 58 = .ok (.aload_n 0, 1) := by decide +kernel
theorem d_Sr_read_59 : decode prog_10_method_2_code 59 = .ok (.getfield 15, 3) := by decide +kernel
theorem d_Sr_read_62 : decode prog_10_method_2_code 62 = .ok (.getfield 37, 3) := by decide +kernel
theorem d_Sr_read_65 : decode prog_10_method_2_code 65 = .ok (.ifCond .ne 18, 3) := by decide +kernel
theorem d_Sr_read_68 : decode prog_10_method_2_code 68 = .ok (.aload_n 0, 1) := by decide +kernel
theorem d_Sr_read_69 : decode prog_10_method_2_code 69 = .ok (.getfield 9, 3) := by decide +kernel
theorem d_Sr_read_72 : decode prog_10_method_2_code 72 = .ok (.aload_n 0, 1) := by decide +kernel
theorem d_Sr_read_73 : decode prog_10_method_2_code 73 = .ok (.getfield 9, 3) := by decide +kernel
theorem d_Sr_read_76 : decode prog_10_method_2_code 76 = .ok (.getfield 41, 3) := by decide +kernel
theorem d_Sr_read_79 : decode prog_10_method_2_code 79 = .ok (.iconst 0, 1) := by decide +kernel
theorem d_Sr_read_80 : decode prog_10_method_2_code 80 = .ok (.invokevirtual 44, 3) := by decide +kernel
theorem d_Sr_read_83 : decode prog_10_method_2_code 83 = .ok (.return_, 1) := by decide +kernel
theorem d_Sr_readClause_0 : decode prog_10_method_3_code 0 = .ok (.aload_n 0, 1) := by decide +kernel
theorem d_Sr_readClause_1 : decode prog_10_method_3_code 1 = .ok (.invokevirtual 48, 3) := by decide +kernel
theorem d_Sr_readClause_4 : decode prog_10_method_3_code 4 = .ok (.istore_n 2, 1) := by decide +kernel
theorem d_Sr_readClause_5 : decode prog_10_method_3_code 5 = .ok (.iload_n 2, 1) := by decide +kernel
theorem d_Sr_readClause_6 : decode prog_10_method_3_code 6 = .ok (.iconst (-1), 1) := by decide +kernel
theorem d_Sr_readClause_7 : decode prog_10_method_3_code 7 = .ok (.if_icmp .ne 21, 3) := by decide +kernel
theorem d_Sr_readClause_10 : decode prog_10_method_3_code 10 = .ok (.aload_n 0, 1) := by decide +kernel
theorem d_Sr_readClause_11 : decode prog_10_method_3_code 11 = .ok (.getfield 9, 3) := by decide +kernel
theorem d_Sr_readClause_14 : decode prog_10_method_3_code 14 = .ok (.aload_n 0, 1) := by decide +kernel
theorem d_Sr_readClause_15 : decode prog_10_method_3_code 15 = .ok (.getfield 9, 3) := by decide +kernel
theorem d_Sr_readClause_18 : decode prog_10_method_3_code 18 = .ok (.getfield 52, 3) := by decide +kernel
theorem d_Sr_readClause_21 : decode prog_10_method_3_code 21 = .ok (.iconst 0, 1) := by decide +kernel
theorem d_Sr_readClause_22 : decode prog_10_method_3_code 22 = .ok (.invokevirtual 44, 3) := by decide +kernel
theorem d_Sr_readClause_25 : decode prog_10_method_3_code 25 = .ok (.goto 64, 3) := by decide +kernel
theorem d_Sr_readClause_28 : decode prog_10_method_3_code 28 = .ok (.iload_n 1, 1) := by decide +kernel
theorem d_Sr_readClause_29 : decode prog_10_method_3_code 29 = .ok (.bipush 32, 2) := by decide +kernel
theorem d_Sr_readClause_31 : decode prog_10_method_3_code 31 = .ok (.if_icmp .ge 11, 3) := by decide +kernel
theorem d_Sr_readClause_34 : decode prog_10_method_3_code 34 = .ok (.aload_n 0, 1) := by decide +kernel
theorem d_Sr_readClause_35 : decode prog_10_method_3_code 35 = .ok (.iload_n 2, 1) := by decide +kernel
theorem d_Sr_readClause_36 : decode prog_10_method_3_code 36 = .ok (.invokevirtual 55, 3) := by decide +kernel
theorem d_Sr_readClause_39 : decode prog_10_method_3_code 39 = .ok (.ifCond .eq 21, 3) := by decide +kernel
theorem d_Sr_readClause_42 : decode prog_10_method_3_code 42 = .ok (.aload_n 0, 1) := by decide +kernel
theorem d_Sr_readClause_43 : decode prog_10_method_3_code 43 = .ok (.getfield 9, 3) := by decide +kernel
theorem d_Sr_readClause_46 : decode prog_10_method_3_code 46 = .ok (.aload_n 0, 1) := by decide +kernel
theorem d_Sr_readClause_47 : decode prog_10_method_3_code 47 = .ok (.getfield 9, 3) := by decide +kernel
theorem d_Sr_readClause_50 : decode prog_10_method_3_code 50 = .ok (.getfield 52, 3) := by decide +kernel
theorem d_Sr_readClause_53 : decode prog_10_method_3_code 53 = .ok (.iconst 4, 1) := by decide +kernel
theorem d_Sr_readClause_54 : decode prog_10_method_3_code 54 = .ok (.invokevirtual 44, 3) := by decide +kernel
theorem d_Sr_readClause_57 : decode prog_10_method_3_code 57 = .ok (.goto 32, 3) := by decide +kernel
theorem d_Sr_readClause_60 : decode prog_10_method_3_code 60 = .ok (.iload_n 2, 1) := by decide +kernel
theorem d_Sr_readClause_61 : decode prog_10_method_3_code 61 = .ok (.iconst 3, 1) := by decide +kernel
theorem d_Sr_readClause_62 : decode prog_10_method_3_code 62 = .ok (.if_icmp .ne 10, 3) := by decide +kernel
theorem d_Sr_readClause_65 : decode prog_10_method_3_code 65 = .ok (.aload_n 0, 1) := by decide +kernel
theorem d_Sr_readClause_66 : decode prog_10_method_3_code 66 = .ok (.invokevirtual 59, 3) := by decide +kernel
theorem d_Sr_readClause_69 : decode prog_10_method_3_code 69 = .ok (.goto 20, 3) := by decide +kernel
theorem d_Sr_readClause_72 : decode prog_10_method_3_code 72 = .ok (.iload_n 2, 1) := by decide +kernel
theorem d_Sr_readClause_73 : decode prog_10_method_3_code 73 = .ok (.iconst 4, 1) := by decide +kernel
theorem d_Sr_readClause_74 : decode prog_10_method_3_code 74 = .ok (.if_icmp .ne 10, 3) := by decide +kernel
theorem d_Sr_readClause_77 : decode prog_10_method_3_code 77 = .ok (.aload_n 0, 1) := by decide +kernel
theorem d_Sr_readClause_78 : decode prog_10_method_3_code 78 = .ok (.invokevirtual 62, 3) := by decide +kernel
theorem d_Sr_readClause_81 : decode prog_10_method_3_code 81 = .ok (.goto 8, 3) := by decide +kernel
theorem d_Sr_readClause_84 : decode prog_10_method_3_code 84 = .ok (.aload_n 0, 1) := by decide +kernel
theorem d_Sr_readClause_85 : decode prog_10_method_3_code 85 = .ok (.iload_n 2, 1) := by decide +kernel
theorem d_Sr_readClause_86 : decode prog_10_method_3_code 86 = .ok (.invokevirtual 65, 3) := by decide +kernel
theorem d_Sr_readClause_89 : decode prog_10_method_3_code 89 = .ok (.return_, 1) := by decide +kernel
theorem d_Sr_clauseAtHand_0 : decode prog_10_method_4_code 0 = .ok (.aload_n 0, 1) := by decide +kernel
theorem d_Sr_clauseAtHand_1 : decode prog_10_method_4_code 1 = .ok (.getfield 9, 3) := by decide +kernel
theorem d_Sr_clauseAtHand_4 : decode prog_10_method_4_code 4 = .ok (.ldc 68, 2) := by decide +kernel
theorem d_Sr_clauseAtHand_6 : decode prog_10_method_4_code 6 = .ok (.invokevirtual 70, 3) := by decide +kernel
theorem d_Sr_clauseAtHand_9 : decode prog_10_method_4_code 9 = .ok (.ifCond .eq 5, 3) := by decide +kernel
theorem d_Sr_clauseAtHand_12 : decode prog_10_method_4_code 12 = .ok (.iconst 0, 1) := by decide +kernel
theorem d_Sr_clauseAtHand_13 : decode prog_10_method_4_code 13 = .ok (.ireturn, 1) := by decide +kernel
theorem d_Sr_clauseAtHand_14 : decode prog_10_method_4_code 14 = .ok (.aload_n 0, 1) := by decide +kernel
theorem d_Sr_clauseAtHand_15 : decode prog_10_method_4_code 15 = .ok (.getfield 9, 3) := by decide +kernel
theorem d_Sr_clauseAtHand_18 : decode prog_10_method_4_code 18 = .ok (.ldc 74, 2) := by decide +kernel
theorem d_Sr_clauseAtHand_20 : decode prog_10_method_4_code 20 = .ok (.invokevirtual 70, 3) := by decide +kernel
theorem d_Sr_clauseAtHand_23 : decode prog_10_method_4_code 23 = .ok (.ifCond .eq 5, 3) := by decide +kernel
theorem d_Sr_clauseAtHand_26 : decode prog_10_method_4_code 26 = .ok (.iconst 1, 1) := by decide +kernel
theorem d_Sr_clauseAtHand_27 : decode prog_10_method_4_code 27 = .ok (.ireturn, 1) := by decide +kernel
theorem d_Sr_clauseAtHand_28 : decode prog_10_method_4_code 28 = .ok (.aload_n 0, 1) := by decide +kernel
theorem d_Sr_clauseAtHand_29 : decode prog_10_method_4_code 29 = .ok (.getfield 9, 3) := by decide +kernel
theorem d_Sr_clauseAtHand_32 : decode prog_10_method_4_code 32 = .ok (.ldc 76, 2) := by decide +kernel
theorem d_Sr_clauseAtHand_34 : decode prog_10_method_4_code 34 = .ok (.invokevirtual 70, 3) := by decide +kernel
theorem d_Sr_clauseAtHand_37 : decode prog_10_method_4_code 37 = .ok (.ifCond .eq 5, 3) := by decide +kernel
theorem d_Sr_clauseAtHand_40 : decode prog_10_method_4_code 40 = .ok (.iconst 2, 1) := by decide +kernel
theorem d_Sr_clauseAtHand_41 : decode prog_10_method_4_code 41 = .ok (.ireturn, 1) := by decide +kernel
theorem d_Sr_clauseAtHand_42 : decode prog_10_method_4_code 42 = .ok (.aload_n 0, 1) := by decide +kernel
theorem d_Sr_clauseAtHand_43 : decode prog_10_method_4_code 43 = .ok (.getfield 9, 3) := by decide +kernel
theorem d_Sr_clauseAtHand_46 : decode prog_10_method_4_code 46 = .ok (.ldc 78, 2) := by decide +kernel
theorem d_Sr_clauseAtHand_48 : decode prog_10_method_4_code 48 = .ok (.invokevirtual 70, 3) := by decide +kernel
theorem d_Sr_clauseAtHand_51 : decode prog_10_method_4_code 51 = .ok (.ifCond .eq 5, 3) := by decide +kernel
theorem d_Sr_clauseAtHand_54 : decode prog_10_method_4_code 54 = .ok (.iconst 3, 1) := by decide +kernel
theorem d_Sr_clauseAtHand_55 : decode prog_10_method_4_code 55 = .ok (.ireturn, 1) := by decide +kernel
theorem d_Sr_clauseAtHand_56 : decode prog_10_method_4_code 56 = .ok (.aload_n 0, 1) := by decide +kernel
theorem d_Sr_clauseAtHand_57 : decode prog_10_method_4_code 57 = .ok (.getfield 9, 3) := by decide +kernel
theorem d_Sr_clauseAtHand_60 : decode prog_10_method_4_code 60 = .ok (.ldc 80, 2) := by decide +kernel
theorem d_Sr_clauseAtHand_62 : decode prog_10_method_4_code 62 = .ok (.invokevirtual 70, 3) := by decide +kernel
theorem d_Sr_clauseAtHand_65 : decode prog_10_method_4_code 65 = .ok (.ifCond .eq 7, 3) := by decide +kernel
theorem d_Sr_clauseAtHand_68 : decode prog_10_method_4_code 68 = .ok (.iconst 4, 1) := by decide +kernel
theorem d_Sr_clauseAtHand_69 : decode prog_10_method_4_code 69 = .ok (.goto 4, 3) := by decide +kernel
theorem d_Sr_clauseAtHand_72 : decode prog_10_method_4_code 72 = .ok (.iconst (-1), 1) := by decide +kernel
theorem d_Sr_clauseAtHand_73 : decode prog_10_method_4_code 73 = .ok (.ireturn, 1) := by decide +kernel
theorem d_Sr_isFullFor_0 : decode prog_10_method_5_code 0 = .ok (.iload_n 1, 1) := by decide +kernel
theorem d_Sr_isFullFor_1 : decode prog_10_method_5_code 1 = .ok (.iconst 4, 1) := by decide +kernel
theorem d_Sr_isFullFor_2 : decode prog_10_method_5_code 2 = .ok (.if_icmp .ne 5, 3) := by decide +kernel
theorem d_Sr_isFullFor_5 : decode prog_10_method_5_code 5 = .ok (.iconst 0, 1) := by decide +kernel
theorem d_Sr_isFullFor_6 : decode prog_10_method_5_code 6 = .ok (.ireturn, 1) := by decide +kernel
theorem d_Sr_isFullFor_7 : decode prog_10_method_5_code 7 = .ok (.iload_n 1, 1) := by decide +kernel
theorem d_Sr_isFullFor_8 : decode prog_10_method_5_code 8 = .ok (.iconst 3, 1) := by decide +kernel
theorem d_Sr_isFullFor_9 : decode prog_10_method_5_code 9 = .ok (.if_icmp .ne 21, 3) := by decide +kernel
theorem d_Sr_isFullFor_12 : decode prog_10_method_5_code 12 = .ok (.aload_n 0, 1) := by decide +kernel
theorem d_Sr_isFullFor_13 : decode prog_10_method_5_code 13 = .ok (.getfield 15, 3) := by decide +kernel
theorem d_Sr_isFullFor_16 : decode prog_10_method_5_code 16 = .ok (.getfield 37, 3) := by decide +kernel
theorem d_Sr_isFullFor_19 : decode prog_10_method_5_code 19 = .ok (.bipush 12, 2) := by decide +kernel
theorem d_Sr_isFullFor_21 : decode prog_10_method_5_code 21 = .ok (.if_icmp .lt 7, 3) := by decide +kernel
theorem d_Sr_isFullFor_24 : decode prog_10_method_5_code 24 = .ok (.iconst 1, 1) := by decide +kernel
theorem d_Sr_isFullFor_25 : decode prog_10_method_5_code 25 = .ok (.goto 4, 3) := by decide +kernel
theorem d_Sr_isFullFor_28 : decode prog_10_method_5_code 28 = .ok (.iconst 0, 1) := by decide +kernel
theorem d_Sr_isFullFor_29 : decode prog_10_method_5_code 29 = .ok (.ireturn, 1) := by decide +kernel
theorem d_Sr_isFullFor_30 : decode prog_10_method_5_code 30 = .ok (.aload_n 0, 1) := by decide +kernel
theorem d_Sr_isFullFor_31 : decode prog_10_method_5_code 31 = .ok (.getfield 15, 3) := by decide +kernel
theorem d_Sr_isFullFor_34 : decode prog_10_method_5_code 34 = .ok (.getfield 82, 3) := by decide +kernel
theorem d_Sr_isFullFor_37 : decode prog_10_method_5_code 37 = .ok (.bipush 16, 2) := by decide +kernel
theorem d_Sr_isFullFor_39 : decode prog_10_method_5_code 39 = .ok (.if_icmp .ge 19, 3) := by decide +kernel
theorem d_Sr_isFullFor_42 : decode prog_10_method_5_code 42 = .ok (.iload_n 1, 1) := by decide +kernel
theorem d_Sr_isFullFor_43 : decode prog_10_method_5_code 43 = .ok (.iconst 2, 1) := by decide +kernel
theorem d_Sr_isFullFor_44 : decode prog_10_method_5_code 44 = .ok (.if_icmp .ne 18, 3) := by decide +kernel
theorem d_Sr_isFullFor_47 : decode prog_10_method_5_code 47 = .ok (.aload_n 0, 1) := by decide +kernel
theorem d_Sr_isFullFor_48 : decode prog_10_method_5_code 48 = .ok (.getfield 15, 3) := by decide +kernel
theorem d_Sr_isFullFor_51 : decode prog_10_method_5_code 51 = .ok (.getfield 85, 3) := by decide +kernel
theorem d_Sr_isFullFor_54 : decode prog_10_method_5_code 54 = .ok (.iconst 3, 1) := by decide +kernel
theorem d_Sr_isFullFor_55 : decode prog_10_method_5_code 55 = .ok (.if_icmp .lt 7, 3) := by decide +kernel
theorem d_Sr_isFullFor_58 : decode prog_10_method_5_code 58 = .ok (.iconst 1, 1) := by decide +kernel
theorem d_Sr_isFullFor_59 : decode prog_10_method_5_code 59 = .ok (.goto 4, 3) := by decide +kernel
theorem d_Sr_isFullFor_62 : decode prog_10_method_5_code 62 = .ok (.iconst 0, 1) := by decide +kernel
theorem d_Sr_isFullFor_63 : decode prog_10_method_5_code 63 = .ok (.ireturn, 1) := by decide +kernel
theorem d_Sr_readDoor_0 : decode prog_10_method_6_code 0 = .ok (.aload_n 0, 1) := by decide +kernel
theorem d_Sr_readDoor_1 : decode prog_10_method_6_code 1 = .ok (.getfield 9, 3) := by decide +kernel
theorem d_Sr_readDoor_4 : decode prog_10_method_6_code 4 = .ok (.ldc 78, 2) := by decide +kernel
theorem d_Sr_readDoor_6 : decode prog_10_method_6_code 6 = .ok (.invokevirtual 88, 3) := by decide +kernel
theorem d_Sr_readDoor_9 : decode prog_10_method_6_code 9 = .ok (.pop, 1) := by decide +kernel
theorem d_Sr_readDoor_10 : decode prog_10_method_6_code 10 = .ok (.aload_n 0, 1) := by decide +kernel
theorem d_Sr_readDoor_11 : decode prog_10_method_6_code 11 = .ok (.iconst 4, 1) := by decide +kernel
theorem d_Sr_readDoor_12 : decode prog_10_method_6_code 12 = .ok (.bipush 60, 2) := by decide +kernel
theorem d_Sr_readDoor_14 : decode prog_10_method_6_code 14 = .ok (.iconst (-1), 1) := by decide +kernel
theorem d_Sr_readDoor_15 : decode prog_10_method_6_code 15 = .ok (.invokevirtual 91, 3) := by decide +kernel
theorem d_Sr_readDoor_18 : decode prog_10_method_6_code 18 = .ok (.istore_n 1, 1) := by decide +kernel
theorem d_Sr_readDoor_19 : decode prog_10_method_6_code 19 = .ok (.aload_n 0, 1) := by decide +kernel
theorem d_Sr_readDoor_20 : decode prog_10_method_6_code 20 = .ok (.getfield 9, 3) := by decide +kernel
theorem d_Sr_readDoor_23 : decode prog_10_method_6_code 23 = .ok (.invokevirtual 28, 3) := by decide +kernel
theorem d_Sr_readDoor_26 : decode prog_10_method_6_code 26 = .ok (.ifCond .eq 13, 3) := by decide +kernel
theorem d_Sr_readDoor_29 : decode prog_10_method_6_code 29 = .ok (.aload_n 0, 1) := by decide +kernel
theorem d_Sr_readDoor_30 : decode prog_10_method_6_code 30 = .ok (.iconst 0, 1) := by decide +kernel
theorem d_Sr_readDoor_31 : decode prog_10_method_6_code 31 = .ok (.iload_n 1, 1) := by decide +kernel
theorem d_Sr_readDoor_32 : decode prog_10_method_6_code 32 = .ok (.iconst (-1), 1) := by decide +kernel
theorem d_Sr_readDoor_33 : decode prog_10_method_6_code 33 = .ok (.invokevirtual 91, 3) := by decide +kernel
theorem d_Sr_readDoor_36 : decode prog_10_method_6_code 36 = .ok (.goto 4, 3) := by decide +kernel
theorem d_Sr_readDoor_39 : decode prog_10_method_6_code 39 = .ok (.iconst (-1), 1) := by decide +kernel
theorem d_Sr_readDoor_40 : decode prog_10_method_6_code 40 = .ok (.istore_n 2, 1) := by decide +kernel
theorem d_Sr_readDoor_41 : decode prog_10_method_6_code 41 = .ok (.aload_n 0, 1) := by decide +kernel
theorem d_Sr_readDoor_42 : decode prog_10_method_6_code 42 = .ok (.getfield 9, 3) := by decide +kernel
theorem d_Sr_readDoor_45 : decode prog_10_method_6_code 45 = .ok (.invokevirtual 28, 3) := by decide +kernel
theorem d_Sr_readDoor_48 : decode prog_10_method_6_code 48 = .ok (.ifCond .eq 12, 3) := by decide +kernel
theorem d_Sr_readDoor_51 : decode prog_10_method_6_code 51 = .ok (.aload_n 0, 1) := by decide +kernel
theorem d_Sr_readDoor_52 : decode prog_10_method_6_code 52 = .ok (.getfield 15, 3) := by decide +kernel
theorem d_Sr_readDoor_55 : decode prog_10_method_6_code 55 = .ok (.iload_n 1, 1) := by decide +kernel
theorem d_Sr_readDoor_56 : decode prog_10_method_6_code 56 = .ok (.iload_n 2, 1) := by decide +kernel
theorem d_Sr_readDoor_57 : decode prog_10_method_6_code 57 = .ok (.invokevirtual 95, 3) := by decide +kernel
theorem d_Sr_readDoor_60 : decode prog_10_method_6_code 60 = .ok (.return_, 1) := by decide +kernel
theorem d_Sr_readFixed_0 : decode prog_10_method_7_code 0 = .ok (.aload_n 0, 1) := by decide +kernel
theorem d_Sr_readFixed_1 : decode prog_10_method_7_code 1 = .ok (.getfield 9, 3) := by decide +kernel
theorem d_Sr_readFixed_4 : decode prog_10_method_7_code 4 = .ok (.ldc 80, 2) := by decide +kernel
theorem d_Sr_readFixed_6 : decode prog_10_method_7_code 6 = .ok (.invokevirtual 88, 3) := by decide +kernel
theorem d_Sr_readFixed_9 : decode prog_10_method_7_code 9 = .ok (.pop, 1) := by decide +kernel
theorem d_Sr_readFixed_10 : decode prog_10_method_7_code 10 = .ok (.aload_n 0, 1) := by decide +kernel
theorem d_Sr_readFixed_11 : decode prog_10_method_7_code 11 = .ok (.iconst 0, 1) := by decide +kernel
theorem d_Sr_readFixed_12 : decode prog_10_method_7_code 12 = .ok (.aload_n 0, 1) := by decide +kernel
theorem d_Sr_readFixed_13 : decode prog_10_method_7_code 13 = .ok (.getfield 15, 3) := by decide +kernel
theorem d_Sr_readFixed_16 : decode prog_10_method_7_code 16 = .ok (.getfield 37, 3) := by decide +kernel
theorem d_Sr_readFixed_19 : decode prog_10_method_7_code 19 = .ok (.iconst 1, 1) := by decide +kernel
theorem d_Sr_readFixed_20 : decode prog_10_method_7_code 20 = .ok (.isub, 1) := by decide +kernel
theorem d_Sr_readFixed_21 : decode prog_10_method_7_code 21 = .ok (.iconst (-1), 1) := by decide +kernel
theorem d_Sr_readFixed_22 : decode prog_10_method_7_code 22 = .ok (.invokevirtual 91, 3) := by decide +kernel
theorem d_Sr_readFixed_25 : decode prog_10_method_7_code 25 = .ok (.istore_n 1, 1) := by decide +kernel
theorem d_Sr_readFixed_26 : decode prog_10_method_7_code 26 = .ok (.aload_n 0, 1) := by decide +kernel
theorem d_Sr_readFixed_27 : decode prog_10_method_7_code 27 = .ok (.getfield 9, 3) := by decide +kernel
theorem d_Sr_readFixed_30 : decode prog_10_method_7_code 30 = .ok (.invokevirtual 28, 3) := by decide +kernel
theorem d_Sr_readFixed_33 : decode prog_10_method_7_code 33 = .ok (.ifCond .eq 18, 3) := by decide +kernel
theorem d_Sr_readFixed_36 : decode prog_10_method_7_code 36 = .ok (.aload_n 0, 1) := by decide +kernel
theorem d_Sr_readFixed_37 : decode prog_10_method_7_code 37 = .ok (.getfield 15, 3) := by decide +kernel
theorem d_Sr_readFixed_40 : decode prog_10_method_7_code 40 = .ok (.dup, 1) := by decide +kernel
theorem d_Sr_readFixed_41 : decode prog_10_method_7_code 41 = .ok (.getfield 98, 3) := by decide +kernel
theorem d_Sr_readFixed_44 : decode prog_10_method_7_code 44 = .ok (.iconst 1, 1) := by decide +kernel
theorem d_Sr_readFixed_45 : decode prog_10_method_7_code 45 = .ok (.iload_n 1, 1) := by decide +kernel
theorem d_Sr_readFixed_46 : decode prog_10_method_7_code 46 = .ok (.ishl, 1) := by decide +kernel
theorem d_Sr_readFixed_47 : decode prog_10_method_7_code 47 = .ok (.ior, 1) := by decide +kernel
theorem d_Sr_readFixed_48 : decode prog_10_method_7_code 48 = .ok (.putfield 98, 3) := by decide +kernel
theorem d_Sr_readFixed_51 : decode prog_10_method_7_code 51 = .ok (.return_, 1) := by decide +kernel
theorem d_Sr_readJoin_0 : decode prog_10_method_8_code 0 = .ok (.aload_n 0, 1) := by decide +kernel
theorem d_Sr_readJoin_1 : decode prog_10_method_8_code 1 = .ok (.getfield 9, 3) := by decide +kernel
theorem d_Sr_readJoin_4 : decode prog_10_method_8_code 4 = .ok (.dup, 1) := by decide +kernel
theorem d_Sr_readJoin_5 : decode prog_10_method_8_code 5 = .ok (.getfield 52, 3) := by decide +kernel
theorem d_Sr_readJoin_8 : decode prog_10_method_8_code 8 = .ok (.ldc 68, 2) := by decide +kernel
theorem d_Sr_readJoin_10 : decode prog_10_method_8_code 10 = .ok (.invokevirtual 100, 3) := by decide +kernel
theorem d_Sr_readJoin_13 : decode prog_10_method_8_code 13 = .ok (.iadd, 1) := by decide +kernel
theorem d_Sr_readJoin_14 : decode prog_10_method_8_code 14 = .ok (.putfield 52, 3) := by decide +kernel
theorem d_Sr_readJoin_17 : decode prog_10_method_8_code 17 = .ok (.aload_n 0, 1) := by decide +kernel
theorem d_Sr_readJoin_18 : decode prog_10_method_8_code 18 = .ok (.iconst 0, 1) := by decide +kernel
theorem d_Sr_readJoin_19 : decode prog_10_method_8_code 19 = .ok (.aload_n 0, 1) := by decide +kernel
theorem d_Sr_readJoin_20 : decode prog_10_method_8_code 20 = .ok (.getfield 15, 3) := by decide +kernel
theorem d_Sr_readJoin_23 : decode prog_10_method_8_code 23 = .ok (.getfield 37, 3) := by decide +kernel
theorem d_Sr_readJoin_26 : decode prog_10_method_8_code 26 = .ok (.iconst 1, 1) := by decide +kernel
theorem d_Sr_readJoin_27 : decode prog_10_method_8_code 27 = .ok (.isub, 1) := by decide +kernel
theorem d_Sr_readJoin_28 : decode prog_10_method_8_code 28 = .ok (.iconst (-1), 1) := by decide +kernel
theorem d_Sr_readJoin_29 : decode prog_10_method_8_code 29 = .ok (.invokevirtual 91, 3) := by decide +kernel
theorem d_Sr_readJoin_32 : decode prog_10_method_8_code 32 = .ok (.istore_n 2, 1) := by decide +kernel
theorem d_Sr_readJoin_33 : decode prog_10_method_8_code 33 = .ok (.aload_n 0, 1) := by decide +kernel
theorem d_Sr_readJoin_34 : decode prog_10_method_8_code 34 = .ok (.getfield 9, 3) := by decide +kernel
theorem d_Sr_readJoin_37 : decode prog_10_method_8_code 37 = .ok (.invokevirtual 28, 3) := by decide +kernel
theorem d_Sr_readJoin_40 : decode prog_10_method_8_code 40 = .ok (.ifCond .eq 21, 3) := by decide +kernel
theorem d_Sr_readJoin_43 : decode prog_10_method_8_code 43 = .ok (.aload_n 0, 1) := by decide +kernel
theorem d_Sr_readJoin_44 : decode prog_10_method_8_code 44 = .ok (.iconst 0, 1) := by decide +kernel
theorem d_Sr_readJoin_45 : decode prog_10_method_8_code 45 = .ok (.aload_n 0, 1) := by decide +kernel
theorem d_Sr_readJoin_46 : decode prog_10_method_8_code 46 = .ok (.getfield 15, 3) := by decide +kernel
theorem d_Sr_readJoin_49 : decode prog_10_method_8_code 49 = .ok (.getfield 37, 3) := by decide +kernel
theorem d_Sr_readJoin_52 : decode prog_10_method_8_code 52 = .ok (.iconst 1, 1) := by decide +kernel
theorem d_Sr_readJoin_53 : decode prog_10_method_8_code 53 = .ok (.isub, 1) := by decide +kernel
theorem d_Sr_readJoin_54 : decode prog_10_method_8_code 54 = .ok (.iload_n 2, 1) := by decide +kernel
theorem d_Sr_readJoin_55 : decode prog_10_method_8_code 55 = .ok (.invokevirtual 91, 3) := by decide +kernel
theorem d_Sr_readJoin_58 : decode prog_10_method_8_code 58 = .ok (.goto 4, 3) := by decide +kernel
theorem d_Sr_readJoin_61 : decode prog_10_method_8_code 61 = .ok (.iconst (-1), 1) := by decide +kernel
theorem d_Sr_readJoin_62 : decode prog_10_method_8_code 62 = .ok (.istore_n 3, 1) := by decide +kernel
theorem d_Sr_readJoin_63 : decode prog_10_method_8_code 63 = .ok (.aload_n 0, 1) := by decide +kernel
theorem d_Sr_readJoin_64 : decode prog_10_method_8_code 64 = .ok (.getfield 9, 3) := by decide +kernel
theorem d_Sr_readJoin_67 : decode prog_10_method_8_code 67 = .ok (.invokevirtual 28, 3) := by decide +kernel
theorem d_Sr_readJoin_70 : decode prog_10_method_8_code 70 = .ok (.ifCond .eq 13, 3) := by decide +kernel
theorem d_Sr_readJoin_73 : decode prog_10_method_8_code 73 = .ok (.aload_n 0, 1) := by decide +kernel
theorem d_Sr_readJoin_74 : decode prog_10_method_8_code 74 = .ok (.getfield 15, 3) := by decide +kernel
theorem d_Sr_readJoin_77 : decode prog_10_method_8_code 77 = .ok (.iload_n 2, 1) := by decide +kernel
theorem d_Sr_readJoin_78 : decode prog_10_method_8_code 78 = .ok (.iload_n 3, 1) := by decide +kernel
theorem d_Sr_readJoin_79 : decode prog_10_method_8_code 79 = .ok (.iload_n 1, 1) := by decide +kernel
theorem d_Sr_readJoin_80 : decode prog_10_method_8_code 80 = .ok (.invokevirtual 104, 3) := by decide +kernel
theorem d_Sr_readJoin_83 : decode prog_10_method_8_code 83 = .ok (.return_, 1) := by decide +kernel
theorem d_Sr_numberWithin_0 : decode prog_10_method_9_code 0 = .ok (.aload_n 0, 1) := by decide +kernel
theorem d_Sr_numberWithin_1 : decode prog_10_method_9_code 1 = .ok (.getfield 9, 3) := by decide +kernel
theorem d_Sr_numberWithin_4 : decode prog_10_method_9_code 4 = .ok (.invokevirtual 108, 3) := by decide +kernel
theorem d_Sr_numberWithin_7 : decode prog_10_method_9_code 7 = .ok (.pop, 1) := by decide +kernel
theorem d_Sr_numberWithin_8 : decode prog_10_method_9_code 8 = .ok (.aload_n 0, 1) := by decide +kernel
theorem d_Sr_numberWithin_9 : decode prog_10_method_9_code 9 = .ok (.getfield 9, 3) := by decide +kernel
theorem d_Sr_numberWithin_12 : decode prog_10_method_9_code 12 = .ok (.getfield 52, 3) := by decide +kernel
theorem d_Sr_numberWithin_15 : decode prog_10_method_9_code 15 = .ok (.istore 4, 2) := by decide +kernel
theorem d_Sr_numberWithin_17 : decode prog_10_method_9_code 17 = .ok (.aload_n 0, 1) := by decide +kernel
theorem d_Sr_numberWithin_18 : decode prog_10_method_9_code 18 = .ok (.getfield 9, 3) := by decide +kernel
theorem d_Sr_numberWithin_21 : decode prog_10_method_9_code 21 = .ok (.invokevirtual 111, 3) := by decide +kernel
theorem d_Sr_numberWithin_24 : decode prog_10_method_9_code 24 = .ok (.istore 5, 2) := by decide +kernel
theorem d_Sr_numberWithin_26 : decode prog_10_method_9_code 26 = .ok (.iload 5, 2) := by decide +kernel
theorem d_Sr_numberWithin_28 : decode prog_10_method_9_code 28 = .ok (.iload_n 1, 1) := by decide +kernel
theorem d_Sr_numberWithin_29 : decode prog_10_method_9_code 29 = .ok (.if_icmp .lt 15, 3) := by decide +kernel
theorem d_Sr_numberWithin_32 : decode prog_10_method_9_code 32 = .ok (.iload 5, 2) := by decide +kernel
theorem d_Sr_numberWithin_34 : decode prog_10_method_9_code 34 = .ok (.iload_n 2, 1) := by decide +kernel
theorem d_Sr_numberWithin_35 : decode prog_10_method_9_code 35 = .ok (.if_icmp .gt 9, 3) := by decide +kernel
theorem d_Sr_numberWithin_38 : decode prog_10_method_9_code 38 = .ok (.iload 5, 2) := by decide +kernel
theorem d_Sr_numberWithin_40 : decode prog_10_method_9_code 40 = .ok (.iload_n 3, 1) := by decide +kernel
theorem d_Sr_numberWithin_41 : decode prog_10_method_9_code 41 = .ok (.if_icmp .ne 13, 3) := by decide +kernel
theorem d_Sr_numberWithin_44 : decode prog_10_method_9_code 44 = .ok (.aload_n 0, 1) := by decide +kernel
theorem d_Sr_numberWithin_45 : decode prog_10_method_9_code 45 = .ok (.getfield 9, 3) := by decide +kernel
theorem d_Sr_numberWithin_48 : decode prog_10_method_9_code 48 = .ok (.iload 4, 2) := by decide +kernel
theorem d_Sr_numberWithin_50 : decode prog_10_method_9_code 50 = .ok (.iconst 1, 1) := by decide +kernel
theorem d_Sr_numberWithin_51 : decode prog_10_method_9_code 51 = .ok (.invokevirtual 44, 3) := by decide +kernel
theorem d_Sr_numberWithin_54 : decode prog_10_method_9_code 54 = .ok (.iload 5, 2) := by decide +kernel
theorem d_Sr_numberWithin_56 : decode prog_10_method_9_code 56 = .ok (.ireturn, 1) := by decide +kernel
theorem d_D_feed_0 : decode prog_1_method_2_code 0 = .ok (.aload_n 0, 1) := by decide +kernel
theorem d_D_feed_1 : decode prog_1_method_2_code 1 = .ok (.getfield 104, 3) := by decide +kernel
theorem d_D_feed_4 : decode prog_1_method_2_code 4 = .ok (.bipush 20, 2) := by decide +kernel
theorem d_D_feed_6 : decode prog_1_method_2_code 6 = .ok (.iadd, 1) := by decide +kernel
theorem d_D_feed_7 : decode prog_1_method_2_code 7 = .ok (.sipush 400, 3) := by decide +kernel
theorem d_D_feed_10 : decode prog_1_method_2_code 10 = .ok (.if_icmp .le 5, 3) := by decide +kernel
theorem d_D_feed_13 : decode prog_1_method_2_code 13 = .ok (.iconst (-1), 1) := by decide +kernel
theorem d_D_feed_14 : decode prog_1_method_2_code 14 = .ok (.ireturn, 1) := by decide +kernel
theorem d_D_feed_15 : decode prog_1_method_2_code 15 = .ok (.aload_n 0, 1) := by decide +kernel
theorem d_D_feed_16 : decode prog_1_method_2_code 16 = .ok (.iload_n 1, 1) := by decide +kernel
theorem d_D_feed_17 : decode prog_1_method_2_code 17 = .ok (.invokevirtual 108, 3) := by decide +kernel
theorem d_D_feed_20 : decode prog_1_method_2_code 20 = .ok (.aload_n 0, 1) := by decide +kernel
theorem d_D_feed_21 : decode prog_1_method_2_code 21 = .ok (.iload_n 2, 1) := by decide +kernel
theorem d_D_feed_22 : decode prog_1_method_2_code 22 = .ok (.invokevirtual 108, 3) := by decide +kernel
theorem d_D_feed_25 : decode prog_1_method_2_code 25 = .ok (.aload_n 0, 1) := by decide +kernel
theorem d_D_feed_26 : decode prog_1_method_2_code 26 = .ok (.iload_n 3, 1) := by decide +kernel
theorem d_D_feed_27 : decode prog_1_method_2_code 27 = .ok (.invokevirtual 108, 3) := by decide +kernel
theorem d_D_feed_30 : decode prog_1_method_2_code 30 = .ok (.aload_n 0, 1) := by decide +kernel
theorem d_D_feed_31 : decode prog_1_method_2_code 31 = .ok (.iload 4, 2) := by decide +kernel
theorem d_D_feed_33 : decode prog_1_method_2_code 33 = .ok (.invokevirtual 108, 3) := by decide +kernel
theorem d_D_feed_36 : decode prog_1_method_2_code 36 = .ok (.aload_n 0, 1) := by decide +kernel
theorem d_D_feed_37 : decode prog_1_method_2_code 37 = .ok (.iload 5, 2) := by decide +kernel
theorem d_D_feed_39 : decode prog_1_method_2_code 39 = .ok (.invokevirtual 108, 3) := by decide +kernel
theorem d_D_feed_42 : decode prog_1_method_2_code 42 = .ok (.aload_n 0, 1) := by decide +kernel
theorem d_D_feed_43 : decode prog_1_method_2_code 43 = .ok (.getfield 104, 3) := by decide +kernel
theorem d_D_feed_46 : decode prog_1_method_2_code 46 = .ok (.ireturn, 1) := by decide +kernel
theorem d_D_feedNumber_0 : decode prog_1_method_3_code 0 = .ok (.bipush 24, 2) := by decide +kernel
theorem d_D_feedNumber_2 : decode prog_1_method_3_code 2 = .ok (.istore_n 2, 1) := by decide +kernel
theorem d_D_feedNumber_3 : decode prog_1_method_3_code 3 = .ok (.iload_n 2, 1) := by decide +kernel
theorem d_D_feedNumber_4 : decode prog_1_method_3_code 4 = .ok (.ifCond .lt 45, 3) := by decide +kernel
theorem d_D_feedNumber_7 : decode prog_1_method_3_code 7 = .ok (.aload_n 0, 1) := by decide +kernel
theorem d_D_feedNumber_8 : decode prog_1_method_3_code 8 = .ok (.getfield 104, 3) := by decide +kernel
theorem d_D_feedNumber_11 : decode prog_1_method_3_code 11 = .ok (.sipush 400, 3) := by decide +kernel
theorem d_D_feedNumber_14 : decode prog_1_method_3_code 14 = .ok (.if_icmp .ge 35, 3) := by decide +kernel
theorem d_D_feedNumber_17 : decode prog_1_method_3_code 17 = .ok (.aload_n 0, 1) := by decide +kernel
theorem d_D_feedNumber_18 : decode prog_1_method_3_code 18 = .ok (.getfield 9, 3) := by decide +kernel
theorem d_D_feedNumber_21 : decode prog_1_method_3_code 21 = .ok (.aload_n 0, 1) := by decide +kernel
theorem d_D_feedNumber_22 : decode prog_1_method_3_code 22 = .ok (.getfield 104, 3) := by decide +kernel
theorem d_D_feedNumber_25 : decode prog_1_method_3_code 25 = .ok (.iload_n 1, 1) := by decide +kernel
theorem d_D_feedNumber_26 : decode prog_1_method_3_code 26 = .ok (.iload_n 2, 1) := by decide +kernel
theorem d_D_feedNumber_27 : decode prog_1_method_3_code 27 = .ok (.iushr, 1) := by decide +kernel
theorem d_D_feedNumber_28 : decode prog_1_method_3_code 28 = .ok (.sipush 255, 3) := by decide +kernel
theorem d_D_feedNumber_31 : decode prog_1_method_3_code 31 = .ok (.iand, 1) := by decide +kernel
theorem d_D_feedNumber_32 : decode prog_1_method_3_code 32 = .ok (.iastore, 1) := by decide +kernel
theorem d_D_feedNumber_33 : decode prog_1_method_3_code 33 = .ok (.aload_n 0, 1) := by decide +kernel
theorem d_D_feedNumber_34 : decode prog_1_method_3_code 34 = .ok (.dup, 1) := by decide +kernel
theorem d_D_feedNumber_35 : decode prog_1_method_3_code 35 = .ok (.getfield 104, 3) := by decide +kernel
theorem d_D_feedNumber_38 : decode prog_1_method_3_code 38 = .ok (.iconst 1, 1) := by decide +kernel
theorem d_D_feedNumber_39 : decode prog_1_method_3_code 39 = .ok (.iadd, 1) := by decide +kernel
theorem d_D_feedNumber_40 : decode prog_1_method_3_code 40 = .ok (.putfield 104, 3) := by decide +kernel
theorem d_D_feedNumber_43 : decode prog_1_method_3_code 43 = .ok (.iinc 2 (-8), 3) := by decide +kernel
theorem d_D_feedNumber_46 : decode prog_1_method_3_code 46 = .ok (.goto (-43), 3) := by decide +kernel
theorem d_D_feedNumber_49 : decode prog_1_method_3_code 49 = .ok (.return_, 1) := by decide +kernel
theorem d_D_end_0 : decode prog_1_method_4_code 0 = .ok (.iload_n 1, 1) := by decide +kernel
theorem d_D_end_1 : decode prog_1_method_4_code 1 = .ok (.ifCond .lt 11, 3) := by decide +kernel
theorem d_D_end_4 : decode prog_1_method_4_code 4 = .ok (.iload_n 1, 1) := by decide +kernel
theorem d_D_end_5 : decode prog_1_method_4_code 5 = .ok (.aload_n 0, 1) := by decide +kernel
theorem d_D_end_6 : decode prog_1_method_4_code 6 = .ok (.getfield 104, 3) := by decide +kernel
theorem d_D_end_9 : decode prog_1_method_4_code 9 = .ok (.if_icmp .le 5, 3) := by decide +kernel
theorem d_D_end_12 : decode prog_1_method_4_code 12 = .ok (.iconst (-1), 1) := by decide +kernel
theorem d_D_end_13 : decode prog_1_method_4_code 13 = .ok (.ireturn, 1) := by decide +kernel
theorem d_D_end_14 : decode prog_1_method_4_code 14 = .ok (.aload_n 0, 1) := by decide +kernel
theorem d_D_end_15 : decode prog_1_method_4_code 15 = .ok (.iload_n 1, 1) := by decide +kernel
theorem d_D_end_16 : decode prog_1_method_4_code 16 = .ok (.putfield 104, 3) := by decide +kernel
theorem d_D_end_19 : decode prog_1_method_4_code 19 = .ok (.iload_n 1, 1) := by decide +kernel
theorem d_D_end_20 : decode prog_1_method_4_code 20 = .ok (.ireturn, 1) := by decide +kernel
theorem d_D_street_0 : decode prog_1_method_5_code 0 = .ok (.aload_n 0, 1) := by decide +kernel
theorem d_D_street_1 : decode prog_1_method_5_code 1 = .ok (.getfield 18, 3) := by decide +kernel
theorem d_D_street_4 : decode prog_1_method_5_code 4 = .ok (.aload_n 0, 1) := by decide +kernel
theorem d_D_street_5 : decode prog_1_method_5_code 5 = .ok (.getfield 104, 3) := by decide +kernel
theorem d_D_street_8 : decode prog_1_method_5_code 8 = .ok (.invokevirtual 112, 3) := by decide +kernel
theorem d_D_street_11 : decode prog_1_method_5_code 11 = .ok (.aload_n 0, 1) := by decide +kernel
theorem d_D_street_12 : decode prog_1_method_5_code 12 = .ok (.getfield 79, 3) := by decide +kernel
theorem d_D_street_15 : decode prog_1_method_5_code 15 = .ok (.invokevirtual 115, 3) := by decide +kernel
theorem d_D_street_18 : decode prog_1_method_5_code 18 = .ok (.aload_n 0, 1) := by decide +kernel
theorem d_D_street_19 : decode prog_1_method_5_code 19 = .ok (.iconst 0, 1) := by decide +kernel
theorem d_D_street_20 : decode prog_1_method_5_code 20 = .ok (.putfield 104, 3) := by decide +kernel
theorem d_D_street_23 : decode prog_1_method_5_code 23 = .ok (.aload_n 0, 1) := by decide +kernel
theorem d_D_street_24 : decode prog_1_method_5_code 24 = .ok (.getfield 18, 3) := by decide +kernel
theorem d_D_street_27 : decode prog_1_method_5_code 27 = .ok (.getfield 118, 3) := by decide +kernel
theorem d_D_street_30 : decode prog_1_method_5_code 30 = .ok (.ifCond .eq 14, 3) := by decide +kernel
theorem d_D_street_33 : decode prog_1_method_5_code 33 = .ok (.bipush (-2), 2) := by decide +kernel
theorem d_D_street_35 : decode prog_1_method_5_code 35 = .ok (.aload_n 0, 1) := by decide +kernel
theorem d_D_street_36 : decode prog_1_method_5_code 36 = .ok (.getfield 18, 3) := by decide +kernel
theorem d_D_street_39 : decode prog_1_method_5_code 39 = .ok (.getfield 118, 3) := by decide +kernel
theorem d_D_street_42 : decode prog_1_method_5_code 42 = .ok (.isub, 1) := by decide +kernel
theorem d_D_street_43 : decode prog_1_method_5_code 43 = .ok (.ireturn, 1) := by decide +kernel
theorem d_D_street_44 : decode prog_1_method_5_code 44 = .ok (.aload_n 0, 1) := by decide +kernel
theorem d_D_street_45 : decode prog_1_method_5_code 45 = .ok (.getfield 29, 3) := by decide +kernel
theorem d_D_street_48 : decode prog_1_method_5_code 48 = .ok (.aload_n 0, 1) := by decide +kernel
theorem d_D_street_49 : decode prog_1_method_5_code 49 = .ok (.getfield 25, 3) := by decide +kernel
theorem d_D_street_52 : decode prog_1_method_5_code 52 = .ok (.getfield 121, 3) := by decide +kernel
theorem d_D_street_55 : decode prog_1_method_5_code 55 = .ok (.putfield 121, 3) := by decide +kernel
theorem d_D_street_58 : decode prog_1_method_5_code 58 = .ok (.aload_n 0, 1) := by decide +kernel
theorem d_D_street_59 : decode prog_1_method_5_code 59 = .ok (.getfield 25, 3) := by decide +kernel
theorem d_D_street_62 : decode prog_1_method_5_code 62 = .ok (.aload_n 0, 1) := by decide +kernel
theorem d_D_street_63 : decode prog_1_method_5_code 63 = .ok (.getfield 29, 3) := by decide +kernel
theorem d_D_street_66 : decode prog_1_method_5_code 66 = .ok (.invokevirtual 124, 3) := by decide +kernel
theorem d_D_street_69 : decode prog_1_method_5_code 69 = .ok (.aload_n 0, 1) := by decide +kernel
theorem d_D_street_70 : decode prog_1_method_5_code 70 = .ok (.getfield 45, 3) := by decide +kernel
theorem d_D_street_73 : decode prog_1_method_5_code 73 = .ok (.invokevirtual 127, 3) := by decide +kernel
theorem d_D_street_76 : decode prog_1_method_5_code 76 = .ok (.aload_n 0, 1) := by decide +kernel
theorem d_D_street_77 : decode prog_1_method_5_code 77 = .ok (.getfield 25, 3) := by decide +kernel
theorem d_D_street_80 : decode prog_1_method_5_code 80 = .ok (.getfield 130, 3) := by decide +kernel
theorem d_D_street_83 : decode prog_1_method_5_code 83 = .ok (.ireturn, 1) := by decide +kernel
theorem d_D_rule_0 : decode prog_1_method_6_code 0 = .ok (.aload_n 0, 1) := by decide +kernel
theorem d_D_rule_1 : decode prog_1_method_6_code 1 = .ok (.getfield 70, 3) := by decide +kernel
theorem d_D_rule_4 : decode prog_1_method_6_code 4 = .ok (.getfield 133, 3) := by decide +kernel
theorem d_D_rule_7 : decode prog_1_method_6_code 7 = .ok (.bipush 6, 2) := by decide +kernel
theorem d_D_rule_9 : decode prog_1_method_6_code 9 = .ok (.if_icmp .lt 5, 3) := by decide +kernel
theorem d_D_rule_12 : decode prog_1_method_6_code 12 = .ok (.iconst (-1), 1) := by decide +kernel
theorem d_D_rule_13 : decode prog_1_method_6_code 13 = .ok (.ireturn, 1) := by decide +kernel
theorem d_D_rule_14 : decode prog_1_method_6_code 14 = .ok (.aload_n 0, 1) := by decide +kernel
theorem d_D_rule_15 : decode prog_1_method_6_code 15 = .ok (.getfield 18, 3) := by decide +kernel
theorem d_D_rule_18 : decode prog_1_method_6_code 18 = .ok (.aload_n 0, 1) := by decide +kernel
theorem d_D_rule_19 : decode prog_1_method_6_code 19 = .ok (.getfield 104, 3) := by decide +kernel
theorem d_D_rule_22 : decode prog_1_method_6_code 22 = .ok (.invokevirtual 112, 3) := by decide +kernel
theorem d_D_rule_25 : decode prog_1_method_6_code 25 = .ok (.aload_n 0, 1) := by decide +kernel
theorem d_D_rule_26 : decode prog_1_method_6_code 26 = .ok (.getfield 70, 3) := by decide +kernel
theorem d_D_rule_29 : decode prog_1_method_6_code 29 = .ok (.invokevirtual 136, 3) := by decide +kernel
theorem d_D_rule_32 : decode prog_1_method_6_code 32 = .ok (.aload_n 0, 1) := by decide +kernel
theorem d_D_rule_33 : decode prog_1_method_6_code 33 = .ok (.getfield 88, 3) := by decide +kernel
theorem d_D_rule_36 : decode prog_1_method_6_code 36 = .ok (.invokevirtual 139, 3) := by decide +kernel
theorem d_D_rule_39 : decode prog_1_method_6_code 39 = .ok (.aload_n 0, 1) := by decide +kernel
theorem d_D_rule_40 : decode prog_1_method_6_code 40 = .ok (.iconst 0, 1) := by decide +kernel
theorem d_D_rule_41 : decode prog_1_method_6_code 41 = .ok (.putfield 104, 3) := by decide +kernel
theorem d_D_rule_44 : decode prog_1_method_6_code 44 = .ok (.aload_n 0, 1) := by decide +kernel
theorem d_D_rule_45 : decode prog_1_method_6_code 45 = .ok (.getfield 18, 3) := by decide +kernel
theorem d_D_rule_48 : decode prog_1_method_6_code 48 = .ok (.getfield 118, 3) := by decide +kernel
theorem d_D_rule_51 : decode prog_1_method_6_code 51 = .ok (.ifCond .eq 14, 3) := by decide +kernel
theorem d_D_rule_54 : decode prog_1_method_6_code 54 = .ok (.bipush (-2), 2) := by decide +kernel
theorem d_D_rule_56 : decode prog_1_method_6_code 56 = .ok (.aload_n 0, 1) := by decide +kernel
theorem d_D_rule_57 : decode prog_1_method_6_code 57 = .ok (.getfield 18, 3) := by decide +kernel
theorem d_D_rule_60 : decode prog_1_method_6_code 60 = .ok (.getfield 118, 3) := by decide +kernel
theorem d_D_rule_63 : decode prog_1_method_6_code 63 = .ok (.isub, 1) := by decide +kernel
theorem d_D_rule_64 : decode prog_1_method_6_code 64 = .ok (.ireturn, 1) := by decide +kernel
theorem d_D_rule_65 : decode prog_1_method_6_code 65 = .ok (.aload_n 0, 1) := by decide +kernel
theorem d_D_rule_66 : decode prog_1_method_6_code 66 = .ok (.getfield 70, 3) := by decide +kernel
theorem d_D_rule_69 : decode prog_1_method_6_code 69 = .ok (.invokevirtual 140, 3) := by decide +kernel
theorem d_D_rule_72 : decode prog_1_method_6_code 72 = .ok (.ireturn, 1) := by decide +kernel
theorem d_D_door_0 : decode prog_1_method_7_code 0 = .ok (.aload_n 0, 1) := by decide +kernel
theorem d_D_door_1 : decode prog_1_method_7_code 1 = .ok (.getfield 25, 3) := by decide +kernel
theorem d_D_door_4 : decode prog_1_method_7_code 4 = .ok (.iload_n 1, 1) := by decide +kernel
theorem d_D_door_5 : decode prog_1_method_7_code 5 = .ok (.invokevirtual 144, 3) := by decide +kernel
theorem d_D_door_8 : decode prog_1_method_7_code 8 = .ok (.ifCond .ne 5, 3) := by decide +kernel
theorem d_D_door_11 : decode prog_1_method_7_code 11 = .ok (.iconst (-1), 1) := by decide +kernel
theorem d_D_door_12 : decode prog_1_method_7_code 12 = .ok (.ireturn, 1) := by decide +kernel
theorem d_D_door_13 : decode prog_1_method_7_code 13 = .ok (.iload_n 2, 1) := by decide +kernel
theorem d_D_door_14 : decode prog_1_method_7_code 14 = .ok (.tableswitch 109 0 5 #[38, 48, 58, 70, 87, 99], 38) := by decide +kernel
theorem d_D_door_52 : decode prog_1_method_7_code 52 = .ok (.aload_n 0, 1) := by decide +kernel
theorem d_D_door_53 : decode prog_1_method_7_code 53 = .ok (.getfield 25, 3) := by decide +kernel
theorem d_D_door_56 : decode prog_1_method_7_code 56 = .ok (.getfield 148, 3) := by decide +kernel
theorem d_D_door_59 : decode prog_1_method_7_code 59 = .ok (.iload_n 1, 1) := by decide +kernel
theorem d_D_door_60 : decode prog_1_method_7_code 60 = .ok (.iaload, 1) := by decide +kernel
theorem d_D_door_61 : decode prog_1_method_7_code 61 = .ok (.ireturn, 1) := by decide +kernel
theorem d_D_door_62 : decode prog_1_method_7_code 62 = .ok (.aload_n 0, 1) := by decide +kernel
theorem d_D_door_63 : decode prog_1_method_7_code 63 = .ok (.getfield 25, 3) := by decide +kernel
theorem d_D_door_66 : decode prog_1_method_7_code 66 = .ok (.getfield 151, 3) := by decide +kernel
theorem d_D_door_69 : decode prog_1_method_7_code 69 = .ok (.iload_n 1, 1) := by decide +kernel
theorem d_D_door_70 : decode prog_1_method_7_code 70 = .ok (.iaload, 1) := by decide +kernel
theorem d_D_door_71 : decode prog_1_method_7_code 71 = .ok (.ireturn, 1) := by decide +kernel
theorem d_D_door_72 : decode prog_1_method_7_code 72 = .ok (.aload_n 0, 1) := by decide +kernel
theorem d_D_door_73 : decode prog_1_method_7_code 73 = .ok (.getfield 25, 3) := by decide +kernel
theorem d_D_door_76 : decode prog_1_method_7_code 76 = .ok (.getfield 154, 3) := by decide +kernel
theorem d_D_door_79 : decode prog_1_method_7_code 79 = .ok (.iload_n 1, 1) := by decide +kernel
theorem d_D_door_80 : decode prog_1_method_7_code 80 = .ok (.invokestatic 157, 3) := by decide +kernel
theorem d_D_door_83 : decode prog_1_method_7_code 83 = .ok (.ireturn, 1) := by decide +kernel
theorem d_D_door_84 : decode prog_1_method_7_code 84 = .ok (.aload_n 0, 1) := by decide +kernel
theorem d_D_door_85 : decode prog_1_method_7_code 85 = .ok (.getfield 45, 3) := by decide +kernel
theorem d_D_door_88 : decode prog_1_method_7_code 88 = .ok (.iload_n 1, 1) := by decide +kernel
theorem d_D_door_89 : decode prog_1_method_7_code 89 = .ok (.invokevirtual 161, 3) := by decide +kernel
theorem d_D_door_92 : decode prog_1_method_7_code 92 = .ok (.ifCond .eq 7, 3) := by decide +kernel
theorem d_D_door_95 : decode prog_1_method_7_code 95 = .ok (.iconst 1, 1) := by decide +kernel
theorem d_D_door_96 : decode prog_1_method_7_code 96 = .ok (.goto 4, 3) := by decide +kernel
theorem d_D_door_99 : decode prog_1_method_7_code 99 = .ok (.iconst 0, 1) := by decide +kernel
theorem d_D_door_100 : decode prog_1_method_7_code 100 = .ok (.ireturn, 1) := by decide +kernel
theorem d_D_door_101 : decode prog_1_method_7_code 101 = .ok (.aload_n 0, 1) := by decide +kernel
theorem d_D_door_102 : decode prog_1_method_7_code 102 = .ok (.getfield 45, 3) := by decide +kernel
theorem d_D_door_105 : decode prog_1_method_7_code 105 = .ok (.getfield 164, 3) := by decide +kernel
theorem d_D_door_108 : decode prog_1_method_7_code 108 = .ok (.iload_n 1, 1) := by decide +kernel
theorem d_D_door_109 : decode prog_1_method_7_code 109 = .ok (.invokestatic 157, 3) := by decide +kernel
theorem d_D_door_112 : decode prog_1_method_7_code 112 = .ok (.ireturn, 1) := by decide +kernel
theorem d_D_door_113 : decode prog_1_method_7_code 113 = .ok (.aload_n 0, 1) := by decide +kernel
theorem d_D_door_114 : decode prog_1_method_7_code 114 = .ok (.getfield 45, 3) := by decide +kernel
theorem d_D_door_117 : decode prog_1_method_7_code 117 = .ok (.getfield 167, 3) := by decide +kernel
theorem d_D_door_120 : decode prog_1_method_7_code 120 = .ok (.iload_n 1, 1) := by decide +kernel
theorem d_D_door_121 : decode prog_1_method_7_code 121 = .ok (.iaload, 1) := by decide +kernel
theorem d_D_door_122 : decode prog_1_method_7_code 122 = .ok (.ireturn, 1) := by decide +kernel
theorem d_D_door_123 : decode prog_1_method_7_code 123 = .ok (.iconst (-1), 1) := by decide +kernel
theorem d_D_door_124 : decode prog_1_method_7_code 124 = .ok (.ireturn, 1) := by decide +kernel
theorem d_D_place_0 : decode prog_1_method_8_code 0 = .ok (.aload_n 0, 1) := by decide +kernel
theorem d_D_place_1 : decode prog_1_method_8_code 1 = .ok (.getfield 25, 3) := by decide +kernel
theorem d_D_place_4 : decode prog_1_method_8_code 4 = .ok (.iload_n 1, 1) := by decide +kernel
theorem d_D_place_5 : decode prog_1_method_8_code 5 = .ok (.invokevirtual 144, 3) := by decide +kernel
theorem d_D_place_8 : decode prog_1_method_8_code 8 = .ok (.ifCond .eq 10, 3) := by decide +kernel
theorem d_D_place_11 : decode prog_1_method_8_code 11 = .ok (.iload_n 2, 1) := by decide +kernel
theorem d_D_place_12 : decode prog_1_method_8_code 12 = .ok (.invokestatic 170, 3) := by decide +kernel
theorem d_D_place_15 : decode prog_1_method_8_code 15 = .ok (.ifCond .ne 7, 3) := by decide +kernel
theorem d_D_place_18 : decode prog_1_method_8_code 18 = .ok (.ldc2_w 173, 3) := by decide +kernel
theorem d_D_place_21 : decode prog_1_method_8_code 21 = .ok (.lreturn, 1) := by decide +kernel
theorem d_D_place_22 : decode prog_1_method_8_code 22 = .ok (.aload_n 0, 1) := by decide +kernel
theorem d_D_place_23 : decode prog_1_method_8_code 23 = .ok (.getfield 25, 3) := by decide +kernel
theorem d_D_place_26 : decode prog_1_method_8_code 26 = .ok (.getfield 175, 3) := by decide +kernel
theorem d_D_place_29 : decode prog_1_method_8_code 29 = .ok (.iload_n 1, 1) := by decide +kernel
theorem d_D_place_30 : decode prog_1_method_8_code 30 = .ok (.laload, 1) := by decide +kernel
theorem d_D_place_31 : decode prog_1_method_8_code 31 = .ok (.aload_n 0, 1) := by decide +kernel
theorem d_D_place_32 : decode prog_1_method_8_code 32 = .ok (.getfield 45, 3) := by decide +kernel
theorem d_D_place_35 : decode prog_1_method_8_code 35 = .ok (.getfield 179, 3) := by decide +kernel
theorem d_D_place_38 : decode prog_1_method_8_code 38 = .ok (.iload_n 1, 1) := by decide +kernel
theorem d_D_place_39 : decode prog_1_method_8_code 39 = .ok (.laload, 1) := by decide +kernel
theorem d_D_place_40 : decode prog_1_method_8_code 40 = .ok (.iload_n 2, 1) := by decide +kernel
theorem d_D_place_41 : decode prog_1_method_8_code 41 = .ok (.invokestatic 182, 3) := by decide +kernel
theorem d_D_place_44 : decode prog_1_method_8_code 44 = .ok (.lreturn, 1) := by decide +kernel
theorem d_D_join_0 : decode prog_1_method_9_code 0 = .ok (.iload_n 1, 1) := by decide +kernel
theorem d_D_join_1 : decode prog_1_method_9_code 1 = .ok (.ifCond .lt 14, 3) := by decide +kernel
theorem d_D_join_4 : decode prog_1_method_9_code 4 = .ok (.iload_n 1, 1) := by decide +kernel
theorem d_D_join_5 : decode prog_1_method_9_code 5 = .ok (.aload_n 0, 1) := by decide +kernel
theorem d_D_join_6 : decode prog_1_method_9_code 6 = .ok (.getfield 25, 3) := by decide +kernel
theorem d_D_join_9 : decode prog_1_method_9_code 9 = .ok (.getfield 186, 3) := by decide +kernel
theorem d_D_join_12 : decode prog_1_method_9_code 12 = .ok (.if_icmp .lt 5, 3) := by decide +kernel
theorem d_D_join_15 : decode prog_1_method_9_code 15 = .ok (.iconst (-1), 1) := by decide +kernel
theorem d_D_join_16 : decode prog_1_method_9_code 16 = .ok (.ireturn, 1) := by decide +kernel
theorem d_D_join_17 : decode prog_1_method_9_code 17 = .ok (.iload_n 2, 1) := by decide +kernel
theorem d_D_join_18 : decode prog_1_method_9_code 18 = .ok (.tableswitch 56 0 2 #[26, 36, 46], 26) := by decide +kernel
theorem d_D_join_44 : decode prog_1_method_9_code 44 = .ok (.aload_n 0, 1) := by decide +kernel
theorem d_D_join_45 : decode prog_1_method_9_code 45 = .ok (.getfield 25, 3) := by decide +kernel
theorem d_D_join_48 : decode prog_1_method_9_code 48 = .ok (.getfield 189, 3) := by decide +kernel
theorem d_D_join_51 : decode prog_1_method_9_code 51 = .ok (.iload_n 1, 1) := by decide +kernel
theorem d_D_join_52 : decode prog_1_method_9_code 52 = .ok (.iaload, 1) := by decide +kernel
theorem d_D_join_53 : decode prog_1_method_9_code 53 = .ok (.ireturn, 1) := by decide +kernel
theorem d_D_join_54 : decode prog_1_method_9_code 54 = .ok (.aload_n 0, 1) := by decide +kernel
theorem d_D_join_55 : decode prog_1_method_9_code 55 = .ok (.getfield 25, 3) := by decide +kernel
theorem d_D_join_58 : decode prog_1_method_9_code 58 = .ok (.getfield 192, 3) := by decide +kernel
theorem d_D_join_61 : decode prog_1_method_9_code 61 = .ok (.iload_n 1, 1) := by decide +kernel
theorem d_D_join_62 : decode prog_1_method_9_code 62 = .ok (.iaload, 1) := by decide +kernel
theorem d_D_join_63 : decode prog_1_method_9_code 63 = .ok (.ireturn, 1) := by decide +kernel
theorem d_D_join_64 : decode prog_1_method_9_code 64 = .ok (.aload_n 0, 1) := by decide +kernel
theorem d_D_join_65 : decode prog_1_method_9_code 65 = .ok (.getfield 25, 3) := by decide +kernel
theorem d_D_join_68 : decode prog_1_method_9_code 68 = .ok (.getfield 195, 3) := by decide +kernel
theorem d_D_join_71 : decode prog_1_method_9_code 71 = .ok (.iload_n 1, 1) := by decide +kernel
theorem d_D_join_72 : decode prog_1_method_9_code 72 = .ok (.iaload, 1) := by decide +kernel
theorem d_D_join_73 : decode prog_1_method_9_code 73 = .ok (.ireturn, 1) := by decide +kernel
theorem d_D_join_74 : decode prog_1_method_9_code 74 = .ok (.iconst (-1), 1) := by decide +kernel
theorem d_D_join_75 : decode prog_1_method_9_code 75 = .ok (.ireturn, 1) := by decide +kernel
theorem d_D_ratio_0 : decode prog_1_method_10_code 0 = .ok (.aload_n 0, 1) := by decide +kernel
theorem d_D_ratio_1 : decode prog_1_method_10_code 1 = .ok (.getfield 25, 3) := by decide +kernel
theorem d_D_ratio_4 : decode prog_1_method_10_code 4 = .ok (.iload_n 1, 1) := by decide +kernel
theorem d_D_ratio_5 : decode prog_1_method_10_code 5 = .ok (.invokevirtual 144, 3) := by decide +kernel
theorem d_D_ratio_8 : decode prog_1_method_10_code 8 = .ok (.ifCond .eq 21, 3) := by decide +kernel
theorem d_D_ratio_11 : decode prog_1_method_10_code 11 = .ok (.aload_n 0, 1) := by decide +kernel
theorem d_D_ratio_12 : decode prog_1_method_10_code 12 = .ok (.getfield 25, 3) := by decide +kernel
theorem d_D_ratio_15 : decode prog_1_method_10_code 15 = .ok (.iload_n 2, 1) := by decide +kernel
theorem d_D_ratio_16 : decode prog_1_method_10_code 16 = .ok (.invokevirtual 144, 3) := by decide +kernel
theorem d_D_ratio_19 : decode prog_1_method_10_code 19 = .ok (.ifCond .eq 10, 3) := by decide +kernel
theorem d_D_ratio_22 : decode prog_1_method_10_code 22 = .ok (.iload_n 3, 1) := by decide +kernel
theorem d_D_ratio_23 : decode prog_1_method_10_code 23 = .ok (.invokestatic 170, 3) := by decide +kernel
theorem d_D_ratio_26 : decode prog_1_method_10_code 26 = .ok (.ifCond .ne 7, 3) := by decide +kernel
theorem d_D_ratio_29 : decode prog_1_method_10_code 29 = .ok (.ldc2_w 173, 3) := by decide +kernel
theorem d_D_ratio_32 : decode prog_1_method_10_code 32 = .ok (.lreturn, 1) := by decide +kernel
theorem d_D_ratio_33 : decode prog_1_method_10_code 33 = .ok (.aload_n 0, 1) := by decide +kernel
theorem d_D_ratio_34 : decode prog_1_method_10_code 34 = .ok (.getfield 45, 3) := by decide +kernel
theorem d_D_ratio_37 : decode prog_1_method_10_code 37 = .ok (.getfield 167, 3) := by decide +kernel
theorem d_D_ratio_40 : decode prog_1_method_10_code 40 = .ok (.iload_n 1, 1) := by decide +kernel
theorem d_D_ratio_41 : decode prog_1_method_10_code 41 = .ok (.iaload, 1) := by decide +kernel
theorem d_D_ratio_42 : decode prog_1_method_10_code 42 = .ok (.aload_n 0, 1) := by decide +kernel
theorem d_D_ratio_43 : decode prog_1_method_10_code 43 = .ok (.getfield 45, 3) := by decide +kernel
theorem d_D_ratio_46 : decode prog_1_method_10_code 46 = .ok (.getfield 167, 3) := by decide +kernel
theorem d_D_ratio_49 : decode prog_1_method_10_code 49 = .ok (.iload_n 2, 1) := by decide +kernel
theorem d_D_ratio_50 : decode prog_1_method_10_code 50 = .ok (.iaload, 1) := by decide +kernel
theorem d_D_ratio_51 : decode prog_1_method_10_code 51 = .ok (.if_icmp .eq 6, 3) := by decide +kernel
theorem d_D_ratio_54 : decode prog_1_method_10_code 54 = .ok (.iload_n 3, 1) := by decide +kernel
theorem d_D_ratio_55 : decode prog_1_method_10_code 55 = .ok (.i2l, 1) := by decide +kernel
theorem d_D_ratio_56 : decode prog_1_method_10_code 56 = .ok (.lreturn, 1) := by decide +kernel
theorem d_D_ratio_57 : decode prog_1_method_10_code 57 = .ok (.aload_n 0, 1) := by decide +kernel
theorem d_D_ratio_58 : decode prog_1_method_10_code 58 = .ok (.getfield 45, 3) := by decide +kernel
theorem d_D_ratio_61 : decode prog_1_method_10_code 61 = .ok (.getfield 164, 3) := by decide +kernel
theorem d_D_ratio_64 : decode prog_1_method_10_code 64 = .ok (.iload_n 1, 1) := by decide +kernel
theorem d_D_ratio_65 : decode prog_1_method_10_code 65 = .ok (.invokestatic 157, 3) := by decide +kernel
theorem d_D_ratio_68 : decode prog_1_method_10_code 68 = .ok (.iconst 1, 1) := by decide +kernel
theorem d_D_ratio_69 : decode prog_1_method_10_code 69 = .ok (.if_icmp .ne 7, 3) := by decide +kernel
theorem d_D_ratio_72 : decode prog_1_method_10_code 72 = .ok (.ldc2_w 173, 3) := by decide +kernel
theorem d_D_ratio_75 : decode prog_1_method_10_code 75 = .ok (.lreturn, 1) := by decide +kernel
theorem d_D_ratio_76 : decode prog_1_method_10_code 76 = .ok (.aload_n 0, 1) := by decide +kernel
theorem d_D_ratio_77 : decode prog_1_method_10_code 77 = .ok (.getfield 45, 3) := by decide +kernel
theorem d_D_ratio_80 : decode prog_1_method_10_code 80 = .ok (.iload_n 1, 1) := by decide +kernel
theorem d_D_ratio_81 : decode prog_1_method_10_code 81 = .ok (.iload_n 2, 1) := by decide +kernel
theorem d_D_ratio_82 : decode prog_1_method_10_code 82 = .ok (.invokevirtual 198, 3) := by decide +kernel
theorem d_D_ratio_85 : decode prog_1_method_10_code 85 = .ok (.aload_n 0, 1) := by decide +kernel
theorem d_D_ratio_86 : decode prog_1_method_10_code 86 = .ok (.getfield 45, 3) := by decide +kernel
theorem d_D_ratio_89 : decode prog_1_method_10_code 89 = .ok (.getfield 179, 3) := by decide +kernel
theorem d_D_ratio_92 : decode prog_1_method_10_code 92 = .ok (.iload_n 2, 1) := by decide +kernel
theorem d_D_ratio_93 : decode prog_1_method_10_code 93 = .ok (.laload, 1) := by decide +kernel
theorem d_D_ratio_94 : decode prog_1_method_10_code 94 = .ok (.iload_n 3, 1) := by decide +kernel
theorem d_D_ratio_95 : decode prog_1_method_10_code 95 = .ok (.invokestatic 182, 3) := by decide +kernel
theorem d_D_ratio_98 : decode prog_1_method_10_code 98 = .ok (.lreturn, 1) := by decide +kernel
theorem d_D_push_0 : decode prog_1_method_11_code 0 = .ok (.aload_n 0, 1) := by decide +kernel
theorem d_D_push_1 : decode prog_1_method_11_code 1 = .ok (.iload_n 1, 1) := by decide +kernel
theorem d_D_push_2 : decode prog_1_method_11_code 2 = .ok (.iload_n 2, 1) := by decide +kernel
theorem d_D_push_3 : decode prog_1_method_11_code 3 = .ok (.invokevirtual 202, 3) := by decide +kernel
theorem d_D_push_6 : decode prog_1_method_11_code 6 = .ok (.istore_n 3, 1) := by decide +kernel
theorem d_D_push_7 : decode prog_1_method_11_code 7 = .ok (.iload_n 3, 1) := by decide +kernel
theorem d_D_push_8 : decode prog_1_method_11_code 8 = .ok (.ifCond .le 12, 3) := by decide +kernel
theorem d_D_push_11 : decode prog_1_method_11_code 11 = .ok (.aload_n 0, 1) := by decide +kernel
theorem d_D_push_12 : decode prog_1_method_11_code 12 = .ok (.getfield 45, 3) := by decide +kernel
theorem d_D_push_15 : decode prog_1_method_11_code 15 = .ok (.iload_n 1, 1) := by decide +kernel
theorem d_D_push_16 : decode prog_1_method_11_code 16 = .ok (.iload_n 2, 1) := by decide +kernel
theorem d_D_push_17 : decode prog_1_method_11_code 17 = .ok (.invokevirtual 205, 3) := by decide +kernel
theorem d_D_push_20 : decode prog_1_method_11_code 20 = .ok (.iload_n 3, 1) := by decide +kernel
theorem d_D_push_21 : decode prog_1_method_11_code 21 = .ok (.ireturn, 1) := by decide +kernel
theorem d_D_can_0 : decode prog_1_method_12_code 0 = .ok (.aload_n 0, 1) := by decide +kernel
theorem d_D_can_1 : decode prog_1_method_12_code 1 = .ok (.getfield 25, 3) := by decide +kernel
theorem d_D_can_4 : decode prog_1_method_12_code 4 = .ok (.iload_n 1, 1) := by decide +kernel
theorem d_D_can_5 : decode prog_1_method_12_code 5 = .ok (.invokevirtual 144, 3) := by decide +kernel
theorem d_D_can_8 : decode prog_1_method_12_code 8 = .ok (.ifCond .eq 16, 3) := by decide +kernel
theorem d_D_can_11 : decode prog_1_method_12_code 11 = .ok (.iload_n 2, 1) := by decide +kernel
theorem d_D_can_12 : decode prog_1_method_12_code 12 = .ok (.ifCond .eq 12, 3) := by decide +kernel
theorem d_D_can_15 : decode prog_1_method_12_code 15 = .ok (.iload_n 2, 1) := by decide +kernel
theorem d_D_can_16 : decode prog_1_method_12_code 16 = .ok (.bipush 60, 2) := by decide +kernel
theorem d_D_can_18 : decode prog_1_method_12_code 18 = .ok (.invokestatic 209, 3) := by decide +kernel
theorem d_D_can_21 : decode prog_1_method_12_code 21 = .ok (.ifCond .ne 5, 3) := by decide +kernel
theorem d_D_can_24 : decode prog_1_method_12_code 24 = .ok (.iconst (-1), 1) := by decide +kernel
theorem d_D_can_25 : decode prog_1_method_12_code 25 = .ok (.ireturn, 1) := by decide +kernel
theorem d_D_can_26 : decode prog_1_method_12_code 26 = .ok (.aload_n 0, 1) := by decide +kernel
theorem d_D_can_27 : decode prog_1_method_12_code 27 = .ok (.getfield 45, 3) := by decide +kernel
theorem d_D_can_30 : decode prog_1_method_12_code 30 = .ok (.iload_n 1, 1) := by decide +kernel
theorem d_D_can_31 : decode prog_1_method_12_code 31 = .ok (.iload_n 2, 1) := by decide +kernel
theorem d_D_can_32 : decode prog_1_method_12_code 32 = .ok (.invokevirtual 213, 3) := by decide +kernel
theorem d_D_can_35 : decode prog_1_method_12_code 35 = .ok (.ireturn, 1) := by decide +kernel
theorem d_D_reach_0 : decode prog_1_method_13_code 0 = .ok (.aload_n 0, 1) := by decide +kernel
theorem d_D_reach_1 : decode prog_1_method_13_code 1 = .ok (.getfield 25, 3) := by decide +kernel
theorem d_D_reach_4 : decode prog_1_method_13_code 4 = .ok (.iload_n 1, 1) := by decide +kernel
theorem d_D_reach_5 : decode prog_1_method_13_code 5 = .ok (.invokevirtual 144, 3) := by decide +kernel
theorem d_D_reach_8 : decode prog_1_method_13_code 8 = .ok (.ifCond .ne 6, 3) := by decide +kernel
theorem d_D_reach_11 : decode prog_1_method_13_code 11 = .ok (.bipush (-100), 2) := by decide +kernel
theorem d_D_reach_13 : decode prog_1_method_13_code 13 = .ok (.ireturn, 1) := by decide +kernel
theorem d_D_reach_14 : decode prog_1_method_13_code 14 = .ok (.iload_n 2, 1) := by decide +kernel
theorem d_D_reach_15 : decode prog_1_method_13_code 15 = .ok (.ifCond .eq 7, 3) := by decide +kernel
theorem d_D_reach_18 : decode prog_1_method_13_code 18 = .ok (.iconst (-1), 1) := by decide +kernel
theorem d_D_reach_19 : decode prog_1_method_13_code 19 = .ok (.goto 4, 3) := by decide +kernel
theorem d_D_reach_22 : decode prog_1_method_13_code 22 = .ok (.iconst 1, 1) := by decide +kernel
theorem d_D_reach_23 : decode prog_1_method_13_code 23 = .ok (.istore_n 3, 1) := by decide +kernel
theorem d_D_reach_24 : decode prog_1_method_13_code 24 = .ok (.iconst 0, 1) := by decide +kernel
theorem d_D_reach_25 : decode prog_1_method_13_code 25 = .ok (.istore 4, 2) := by decide +kernel
theorem d_D_reach_27 : decode prog_1_method_13_code 27 = .ok (.iconst 1, 1) := by decide +kernel
theorem d_D_reach_28 : decode prog_1_method_13_code 28 = .ok (.istore 5, 2) := by decide +kernel
theorem d_D_reach_30 : decode prog_1_method_13_code 30 = .ok (.iload 5, 2) := by decide +kernel
theorem d_D_reach_32 : decode prog_1_method_13_code 32 = .ok (.bipush 60, 2) := by decide +kernel
theorem d_D_reach_34 : decode prog_1_method_13_code 34 = .ok (.if_icmp .gt 30, 3) := by decide +kernel
theorem d_D_reach_37 : decode prog_1_method_13_code 37 = .ok (.aload_n 0, 1) := by decide +kernel
theorem d_D_reach_38 : decode prog_1_method_13_code 38 = .ok (.getfield 45, 3) := by decide +kernel
theorem d_D_reach_41 : decode prog_1_method_13_code 41 = .ok (.iload_n 1, 1) := by decide +kernel
theorem d_D_reach_42 : decode prog_1_method_13_code 42 = .ok (.iload 5, 2) := by decide +kernel
theorem d_D_reach_44 : decode prog_1_method_13_code 44 = .ok (.iload_n 3, 1) := by decide +kernel
theorem d_D_reach_45 : decode prog_1_method_13_code 45 = .ok (.imul, 1) := by decide +kernel
theorem d_D_reach_46 : decode prog_1_method_13_code 46 = .ok (.invokevirtual 213, 3) := by decide +kernel
theorem d_D_reach_49 : decode prog_1_method_13_code 49 = .ok (.ifCond .le 15, 3) := by decide +kernel
theorem d_D_reach_52 : decode prog_1_method_13_code 52 = .ok (.iload 5, 2) := by decide +kernel
theorem d_D_reach_54 : decode prog_1_method_13_code 54 = .ok (.iload_n 3, 1) := by decide +kernel
theorem d_D_reach_55 : decode prog_1_method_13_code 55 = .ok (.imul, 1) := by decide +kernel
theorem d_D_reach_56 : decode prog_1_method_13_code 56 = .ok (.istore 4, 2) := by decide +kernel
theorem d_D_reach_58 : decode prog_1_method_13_code 58 = .ok (.iinc 5 1, 3) := by decide +kernel
theorem d_D_reach_61 : decode prog_1_method_13_code 61 = .ok (.goto (-31), 3) := by decide +kernel
theorem d_D_reach_64 : decode prog_1_method_13_code 64 = .ok (.iload 4, 2) := by decide +kernel
theorem d_D_reach_66 : decode prog_1_method_13_code 66 = .ok (.ireturn, 1) := by decide +kernel
theorem d_D_slip_0 : decode prog_1_method_14_code 0 = .ok (.aload_n 0, 1) := by decide +kernel
theorem d_D_slip_1 : decode prog_1_method_14_code 1 = .ok (.getfield 25, 3) := by decide +kernel
theorem d_D_slip_4 : decode prog_1_method_14_code 4 = .ok (.iload_n 1, 1) := by decide +kernel
theorem d_D_slip_5 : decode prog_1_method_14_code 5 = .ok (.invokevirtual 144, 3) := by decide +kernel
theorem d_D_slip_8 : decode prog_1_method_14_code 8 = .ok (.ifCond .eq 12, 3) := by decide +kernel
theorem d_D_slip_11 : decode prog_1_method_14_code 11 = .ok (.iload_n 2, 1) := by decide +kernel
theorem d_D_slip_12 : decode prog_1_method_14_code 12 = .ok (.bipush 60, 2) := by decide +kernel
theorem d_D_slip_14 : decode prog_1_method_14_code 14 = .ok (.invokestatic 209, 3) := by decide +kernel
theorem d_D_slip_17 : decode prog_1_method_14_code 17 = .ok (.ifCond .ne 5, 3) := by decide +kernel
theorem d_D_slip_20 : decode prog_1_method_14_code 20 = .ok (.iconst 0, 1) := by decide +kernel
theorem d_D_slip_21 : decode prog_1_method_14_code 21 = .ok (.ireturn, 1) := by decide +kernel
theorem d_D_slip_22 : decode prog_1_method_14_code 22 = .ok (.aload_n 0, 1) := by decide +kernel
theorem d_D_slip_23 : decode prog_1_method_14_code 23 = .ok (.getfield 25, 3) := by decide +kernel
theorem d_D_slip_26 : decode prog_1_method_14_code 26 = .ok (.getfield 175, 3) := by decide +kernel
theorem d_D_slip_29 : decode prog_1_method_14_code 29 = .ok (.iload_n 1, 1) := by decide +kernel
theorem d_D_slip_30 : decode prog_1_method_14_code 30 = .ok (.laload, 1) := by decide +kernel
theorem d_D_slip_31 : decode prog_1_method_14_code 31 = .ok (.iload_n 2, 1) := by decide +kernel
theorem d_D_slip_32 : decode prog_1_method_14_code 32 = .ok (.i2l, 1) := by decide +kernel
theorem d_D_slip_33 : decode prog_1_method_14_code 33 = .ok (.aload_n 0, 1) := by decide +kernel
theorem d_D_slip_34 : decode prog_1_method_14_code 34 = .ok (.getfield 45, 3) := by decide +kernel
theorem d_D_slip_37 : decode prog_1_method_14_code 37 = .ok (.getfield 179, 3) := by decide +kernel
theorem d_D_slip_40 : decode prog_1_method_14_code 40 = .ok (.iload_n 1, 1) := by decide +kernel
theorem d_D_slip_41 : decode prog_1_method_14_code 41 = .ok (.laload, 1) := by decide +kernel
theorem d_D_slip_42 : decode prog_1_method_14_code 42 = .ok (.lmul, 1) := by decide +kernel
theorem d_D_slip_43 : decode prog_1_method_14_code 43 = .ok (.ladd, 1) := by decide +kernel
theorem d_D_slip_44 : decode prog_1_method_14_code 44 = .ok (.lstore_n 3, 1) := by decide +kernel
theorem d_D_slip_45 : decode prog_1_method_14_code 45 = .ok (.aload_n 0, 1) := by decide +kernel
theorem d_D_slip_46 : decode prog_1_method_14_code 46 = .ok (.getfield 45, 3) := by decide +kernel
theorem d_D_slip_49 : decode prog_1_method_14_code 49 = .ok (.iload_n 1, 1) := by decide +kernel
theorem d_D_slip_50 : decode prog_1_method_14_code 50 = .ok (.lload_n 3, 1) := by decide +kernel
theorem d_D_slip_51 : decode prog_1_method_14_code 51 = .ok (.invokevirtual 216, 3) := by decide +kernel
theorem d_D_slip_54 : decode prog_1_method_14_code 54 = .ok (.ifCond .eq 5, 3) := by decide +kernel
theorem d_D_slip_57 : decode prog_1_method_14_code 57 = .ok (.iconst 0, 1) := by decide +kernel
theorem d_D_slip_58 : decode prog_1_method_14_code 58 = .ok (.ireturn, 1) := by decide +kernel
theorem d_D_slip_59 : decode prog_1_method_14_code 59 = .ok (.aload_n 0, 1) := by decide +kernel
theorem d_D_slip_60 : decode prog_1_method_14_code 60 = .ok (.getfield 25, 3) := by decide +kernel
theorem d_D_slip_63 : decode prog_1_method_14_code 63 = .ok (.getfield 175, 3) := by decide +kernel
theorem d_D_slip_66 : decode prog_1_method_14_code 66 = .ok (.iload_n 1, 1) := by decide +kernel
theorem d_D_slip_67 : decode prog_1_method_14_code 67 = .ok (.lload_n 3, 1) := by decide +kernel
theorem d_D_slip_68 : decode prog_1_method_14_code 68 = .ok (.lastore, 1) := by decide +kernel
theorem d_D_slip_69 : decode prog_1_method_14_code 69 = .ok (.iconst 1, 1) := by decide +kernel
theorem d_D_slip_70 : decode prog_1_method_14_code 70 = .ok (.ireturn, 1) := by decide +kernel
theorem d_D_want_0 : decode prog_1_method_15_code 0 = .ok (.aload_n 0, 1) := by decide +kernel
theorem d_D_want_1 : decode prog_1_method_15_code 1 = .ok (.getfield 25, 3) := by decide +kernel
theorem d_D_want_4 : decode prog_1_method_15_code 4 = .ok (.iload_n 1, 1) := by decide +kernel
theorem d_D_want_5 : decode prog_1_method_15_code 5 = .ok (.invokevirtual 220, 3) := by decide +kernel
theorem d_D_want_8 : decode prog_1_method_15_code 8 = .ok (.ifCond .eq 20, 3) := by decide +kernel
theorem d_D_want_11 : decode prog_1_method_15_code 11 = .ok (.aload_n 0, 1) := by decide +kernel
theorem d_D_want_12 : decode prog_1_method_15_code 12 = .ok (.getfield 25, 3) := by decide +kernel
theorem d_D_want_15 : decode prog_1_method_15_code 15 = .ok (.iload_n 2, 1) := by decide +kernel
theorem d_D_want_16 : decode prog_1_method_15_code 16 = .ok (.invokevirtual 220, 3) := by decide +kernel
theorem d_D_want_19 : decode prog_1_method_15_code 19 = .ok (.ifCond .eq 9, 3) := by decide +kernel
theorem d_D_want_22 : decode prog_1_method_15_code 22 = .ok (.iload_n 1, 1) := by decide +kernel
theorem d_D_want_23 : decode prog_1_method_15_code 23 = .ok (.iload_n 2, 1) := by decide +kernel
theorem d_D_want_24 : decode prog_1_method_15_code 24 = .ok (.iand, 1) := by decide +kernel
theorem d_D_want_25 : decode prog_1_method_15_code 25 = .ok (.ifCond .eq 5, 3) := by decide +kernel
theorem d_D_want_28 : decode prog_1_method_15_code 28 = .ok (.iconst 0, 1) := by decide +kernel
theorem d_D_want_29 : decode prog_1_method_15_code 29 = .ok (.ireturn, 1) := by decide +kernel
theorem d_D_want_30 : decode prog_1_method_15_code 30 = .ok (.aload_n 0, 1) := by decide +kernel
theorem d_D_want_31 : decode prog_1_method_15_code 31 = .ok (.getfield 25, 3) := by decide +kernel
theorem d_D_want_34 : decode prog_1_method_15_code 34 = .ok (.iload_n 1, 1) := by decide +kernel
theorem d_D_want_35 : decode prog_1_method_15_code 35 = .ok (.putfield 223, 3) := by decide +kernel
theorem d_D_want_38 : decode prog_1_method_15_code 38 = .ok (.aload_n 0, 1) := by decide +kernel
theorem d_D_want_39 : decode prog_1_method_15_code 39 = .ok (.getfield 25, 3) := by decide +kernel
theorem d_D_want_42 : decode prog_1_method_15_code 42 = .ok (.iload_n 2, 1) := by decide +kernel
theorem d_D_want_43 : decode prog_1_method_15_code 43 = .ok (.putfield 226, 3) := by decide +kernel
theorem d_D_want_46 : decode prog_1_method_15_code 46 = .ok (.iconst 1, 1) := by decide +kernel
theorem d_D_want_47 : decode prog_1_method_15_code 47 = .ok (.ireturn, 1) := by decide +kernel
theorem d_D_planned_0 : decode prog_1_method_16_code 0 = .ok (.aload_n 0, 1) := by decide +kernel
theorem d_D_planned_1 : decode prog_1_method_16_code 1 = .ok (.iload_n 1, 1) := by decide +kernel
theorem d_D_planned_2 : decode prog_1_method_16_code 2 = .ok (.iload_n 2, 1) := by decide +kernel
theorem d_D_planned_3 : decode prog_1_method_16_code 3 = .ok (.invokevirtual 229, 3) := by decide +kernel
theorem d_D_planned_6 : decode prog_1_method_16_code 6 = .ok (.ifCond .ne 5, 3) := by decide +kernel
theorem d_D_planned_9 : decode prog_1_method_16_code 9 = .ok (.iconst (-1), 1) := by decide +kernel
theorem d_D_planned_10 : decode prog_1_method_16_code 10 = .ok (.ireturn, 1) := by decide +kernel
theorem d_D_planned_11 : decode prog_1_method_16_code 11 = .ok (.aload_n 0, 1) := by decide +kernel
theorem d_D_planned_12 : decode prog_1_method_16_code 12 = .ok (.getfield 61, 3) := by decide +kernel
theorem d_D_planned_15 : decode prog_1_method_16_code 15 = .ok (.iload_n 1, 1) := by decide +kernel
theorem d_D_planned_16 : decode prog_1_method_16_code 16 = .ok (.iload_n 2, 1) := by decide +kernel
theorem d_D_planned_17 : decode prog_1_method_16_code 17 = .ok (.iconst 0, 1) := by decide +kernel
theorem d_D_planned_18 : decode prog_1_method_16_code 18 = .ok (.invokevirtual 232, 3) := by decide +kernel
theorem d_D_planned_21 : decode prog_1_method_16_code 21 = .ok (.ireturn, 1) := by decide +kernel
theorem d_D_row_0 : decode prog_1_method_17_code 0 = .ok (.aload_n 0, 1) := by decide +kernel
theorem d_D_row_1 : decode prog_1_method_17_code 1 = .ok (.iload_n 1, 1) := by decide +kernel
theorem d_D_row_2 : decode prog_1_method_17_code 2 = .ok (.iload_n 2, 1) := by decide +kernel
theorem d_D_row_3 : decode prog_1_method_17_code 3 = .ok (.invokevirtual 229, 3) := by decide +kernel
theorem d_D_row_6 : decode prog_1_method_17_code 6 = .ok (.ifCond .eq 7, 3) := by decide +kernel
theorem d_D_row_9 : decode prog_1_method_17_code 9 = .ok (.iload_n 3, 1) := by decide +kernel
theorem d_D_row_10 : decode prog_1_method_17_code 10 = .ok (.ifCond .ge 5, 3) := by decide +kernel
theorem d_D_row_13 : decode prog_1_method_17_code 13 = .ok (.iconst (-1), 1) := by decide +kernel
theorem d_D_row_14 : decode prog_1_method_17_code 14 = .ok (.ireturn, 1) := by decide +kernel
theorem d_D_row_15 : decode prog_1_method_17_code 15 = .ok (.aload_n 0, 1) := by decide +kernel
theorem d_D_row_16 : decode prog_1_method_17_code 16 = .ok (.getfield 61, 3) := by decide +kernel
theorem d_D_row_19 : decode prog_1_method_17_code 19 = .ok (.iload_n 1, 1) := by decide +kernel
theorem d_D_row_20 : decode prog_1_method_17_code 20 = .ok (.iload_n 2, 1) := by decide +kernel
theorem d_D_row_21 : decode prog_1_method_17_code 21 = .ok (.iload_n 3, 1) := by decide +kernel
theorem d_D_row_22 : decode prog_1_method_17_code 22 = .ok (.invokevirtual 232, 3) := by decide +kernel
theorem d_D_row_25 : decode prog_1_method_17_code 25 = .ok (.istore 4, 2) := by decide +kernel
theorem d_D_row_27 : decode prog_1_method_17_code 27 = .ok (.iload 4, 2) := by decide +kernel
theorem d_D_row_29 : decode prog_1_method_17_code 29 = .ok (.ifCond .ge 8, 3) := by decide +kernel
theorem d_D_row_32 : decode prog_1_method_17_code 32 = .ok (.iload 4, 2) := by decide +kernel
theorem d_D_row_34 : decode prog_1_method_17_code 34 = .ok (.goto 10, 3) := by decide +kernel
theorem d_D_row_37 : decode prog_1_method_17_code 37 = .ok (.aload_n 0, 1) := by decide +kernel
theorem d_D_row_38 : decode prog_1_method_17_code 38 = .ok (.getfield 61, 3) := by decide +kernel
theorem d_D_row_41 : decode prog_1_method_17_code 41 = .ok (.getfield 236, 3) := by decide +kernel
theorem d_D_row_44 : decode prog_1_method_17_code 44 = .ok (.ireturn, 1) := by decide +kernel
theorem d_D_isPlanOf_0 : decode prog_1_method_18_code 0 = .ok (.aload_n 0, 1) := by decide +kernel
theorem d_D_isPlanOf_1 : decode prog_1_method_18_code 1 = .ok (.getfield 25, 3) := by decide +kernel
theorem d_D_isPlanOf_4 : decode prog_1_method_18_code 4 = .ok (.getfield 130, 3) := by decide +kernel
theorem d_D_isPlanOf_7 : decode prog_1_method_18_code 7 = .ok (.ifCond .le 29, 3) := by decide +kernel
theorem d_D_isPlanOf_10 : decode prog_1_method_18_code 10 = .ok (.aload_n 0, 1) := by decide +kernel
theorem d_D_isPlanOf_11 : decode prog_1_method_18_code 11 = .ok (.getfield 25, 3) := by decide +kernel
theorem d_D_isPlanOf_14 : decode prog_1_method_18_code 14 = .ok (.iload_n 1, 1) := by decide +kernel
theorem d_D_isPlanOf_15 : decode prog_1_method_18_code 15 = .ok (.invokevirtual 220, 3) := by decide +kernel
theorem d_D_isPlanOf_18 : decode prog_1_method_18_code 18 = .ok (.ifCond .eq 18, 3) := by decide +kernel
theorem d_D_isPlanOf_21 : decode prog_1_method_18_code 21 = .ok (.aload_n 0, 1) := by decide +kernel
theorem d_D_isPlanOf_22 : decode prog_1_method_18_code 22 = .ok (.getfield 25, 3) := by decide +kernel
theorem d_D_isPlanOf_25 : decode prog_1_method_18_code 25 = .ok (.iload_n 2, 1) := by decide +kernel
theorem d_D_isPlanOf_26 : decode prog_1_method_18_code 26 = .ok (.invokevirtual 220, 3) := by decide +kernel
theorem d_D_isPlanOf_29 : decode prog_1_method_18_code 29 = .ok (.ifCond .eq 7, 3) := by decide +kernel
theorem d_D_isPlanOf_32 : decode prog_1_method_18_code 32 = .ok (.iconst 1, 1) := by decide +kernel
theorem d_D_isPlanOf_33 : decode prog_1_method_18_code 33 = .ok (.goto 4, 3) := by decide +kernel
theorem d_D_isPlanOf_36 : decode prog_1_method_18_code 36 = .ok (.iconst 0, 1) := by decide +kernel
theorem d_D_isPlanOf_37 : decode prog_1_method_18_code 37 = .ok (.ireturn, 1) := by decide +kernel
theorem d_D_cut_0 : decode prog_1_method_19_code 0 = .ok (.aload_n 0, 1) := by decide +kernel
theorem d_D_cut_1 : decode prog_1_method_19_code 1 = .ok (.getfield 25, 3) := by decide +kernel
theorem d_D_cut_4 : decode prog_1_method_19_code 4 = .ok (.iload_n 1, 1) := by decide +kernel
theorem d_D_cut_5 : decode prog_1_method_19_code 5 = .ok (.invokevirtual 144, 3) := by decide +kernel
theorem d_D_cut_8 : decode prog_1_method_19_code 8 = .ok (.ifCond .eq 19, 3) := by decide +kernel
theorem d_D_cut_11 : decode prog_1_method_19_code 11 = .ok (.aload_n 0, 1) := by decide +kernel
theorem d_D_cut_12 : decode prog_1_method_19_code 12 = .ok (.getfield 25, 3) := by decide +kernel
theorem d_D_cut_15 : decode prog_1_method_19_code 15 = .ok (.iload_n 2, 1) := by decide +kernel
theorem d_D_cut_16 : decode prog_1_method_19_code 16 = .ok (.invokevirtual 144, 3) := by decide +kernel
theorem d_D_cut_19 : decode prog_1_method_19_code 19 = .ok (.ifCond .eq 8, 3) := by decide +kernel
theorem d_D_cut_22 : decode prog_1_method_19_code 22 = .ok (.iload_n 1, 1) := by decide +kernel
theorem d_D_cut_23 : decode prog_1_method_19_code 23 = .ok (.iload_n 2, 1) := by decide +kernel
theorem d_D_cut_24 : decode prog_1_method_19_code 24 = .ok (.if_icmp .ne 5, 3) := by decide +kernel
theorem d_D_cut_27 : decode prog_1_method_19_code 27 = .ok (.iconst (-1), 1) := by decide +kernel
theorem d_D_cut_28 : decode prog_1_method_19_code 28 = .ok (.ireturn, 1) := by decide +kernel
theorem d_D_cut_29 : decode prog_1_method_19_code 29 = .ok (.aload_n 0, 1) := by decide +kernel
theorem d_D_cut_30 : decode prog_1_method_19_code 30 = .ok (.getfield 45, 3) := by decide +kernel
theorem d_D_cut_33 : decode prog_1_method_19_code 33 = .ok (.getfield 167, 3) := by decide +kernel
theorem d_D_cut_36 : decode prog_1_method_19_code 36 = .ok (.iload_n 1, 1) := by decide +kernel
theorem d_D_cut_37 : decode prog_1_method_19_code 37 = .ok (.iaload, 1) := by decide +kernel
theorem d_D_cut_38 : decode prog_1_method_19_code 38 = .ok (.aload_n 0, 1) := by decide +kernel
theorem d_D_cut_39 : decode prog_1_method_19_code 39 = .ok (.getfield 45, 3) := by decide +kernel
theorem d_D_cut_42 : decode prog_1_method_19_code 42 = .ok (.getfield 167, 3) := by decide +kernel
theorem d_D_cut_45 : decode prog_1_method_19_code 45 = .ok (.iload_n 2, 1) := by decide +kernel
theorem d_D_cut_46 : decode prog_1_method_19_code 46 = .ok (.iaload, 1) := by decide +kernel
theorem d_D_cut_47 : decode prog_1_method_19_code 47 = .ok (.if_icmp .eq 5, 3) := by decide +kernel
theorem d_D_cut_50 : decode prog_1_method_19_code 50 = .ok (.iconst (-1), 1) := by decide +kernel
theorem d_D_cut_51 : decode prog_1_method_19_code 51 = .ok (.ireturn, 1) := by decide +kernel
theorem d_D_cut_52 : decode prog_1_method_19_code 52 = .ok (.aload_n 0, 1) := by decide +kernel
theorem d_D_cut_53 : decode prog_1_method_19_code 53 = .ok (.getfield 52, 3) := by decide +kernel
theorem d_D_cut_56 : decode prog_1_method_19_code 56 = .ok (.iload_n 1, 1) := by decide +kernel
theorem d_D_cut_57 : decode prog_1_method_19_code 57 = .ok (.iload_n 2, 1) := by decide +kernel
theorem d_D_cut_58 : decode prog_1_method_19_code 58 = .ok (.invokevirtual 239, 3) := by decide +kernel
theorem d_D_cut_61 : decode prog_1_method_19_code 61 = .ok (.ireturn, 1) := by decide +kernel
theorem d_D_freed_0 : decode prog_1_method_20_code 0 = .ok (.aload_n 0, 1) := by decide +kernel
theorem d_D_freed_1 : decode prog_1_method_20_code 1 = .ok (.getfield 25, 3) := by decide +kernel
theorem d_D_freed_4 : decode prog_1_method_20_code 4 = .ok (.iload_n 1, 1) := by decide +kernel
theorem d_D_freed_5 : decode prog_1_method_20_code 5 = .ok (.invokevirtual 144, 3) := by decide +kernel
theorem d_D_freed_8 : decode prog_1_method_20_code 8 = .ok (.ifCond .eq 17, 3) := by decide +kernel
theorem d_D_freed_11 : decode prog_1_method_20_code 11 = .ok (.aload_n 0, 1) := by decide +kernel
theorem d_D_freed_12 : decode prog_1_method_20_code 12 = .ok (.getfield 45, 3) := by decide +kernel
theorem d_D_freed_15 : decode prog_1_method_20_code 15 = .ok (.getfield 164, 3) := by decide +kernel
theorem d_D_freed_18 : decode prog_1_method_20_code 18 = .ok (.iload_n 1, 1) := by decide +kernel
theorem d_D_freed_19 : decode prog_1_method_20_code 19 = .ok (.invokestatic 157, 3) := by decide +kernel
theorem d_D_freed_22 : decode prog_1_method_20_code 22 = .ok (.ifCond .ne 5, 3) := by decide +kernel
theorem d_D_freed_25 : decode prog_1_method_20_code 25 = .ok (.iconst (-1), 1) := by decide +kernel
theorem d_D_freed_26 : decode prog_1_method_20_code 26 = .ok (.ireturn, 1) := by decide +kernel
theorem d_D_freed_27 : decode prog_1_method_20_code 27 = .ok (.aload_n 0, 1) := by decide +kernel
theorem d_D_freed_28 : decode prog_1_method_20_code 28 = .ok (.getfield 52, 3) := by decide +kernel
theorem d_D_freed_31 : decode prog_1_method_20_code 31 = .ok (.iload_n 1, 1) := by decide +kernel
theorem d_D_freed_32 : decode prog_1_method_20_code 32 = .ok (.iconst (-1), 1) := by decide +kernel
theorem d_D_freed_33 : decode prog_1_method_20_code 33 = .ok (.invokevirtual 239, 3) := by decide +kernel
theorem d_D_freed_36 : decode prog_1_method_20_code 36 = .ok (.ireturn, 1) := by decide +kernel
theorem d_D_seen_0 : decode prog_1_method_21_code 0 = .ok (.iload_n 1, 1) := by decide +kernel
theorem d_D_seen_1 : decode prog_1_method_21_code 1 = .ok (.iconst (-1), 1) := by decide +kernel
theorem d_D_seen_2 : decode prog_1_method_21_code 2 = .ok (.if_icmp .ne 13, 3) := by decide +kernel
theorem d_D_seen_5 : decode prog_1_method_21_code 5 = .ok (.aload_n 0, 1) := by decide +kernel
theorem d_D_seen_6 : decode prog_1_method_21_code 6 = .ok (.getfield 25, 3) := by decide +kernel
theorem d_D_seen_9 : decode prog_1_method_21_code 9 = .ok (.iconst 0, 1) := by decide +kernel
theorem d_D_seen_10 : decode prog_1_method_21_code 10 = .ok (.putfield 242, 3) := by decide +kernel
theorem d_D_seen_13 : decode prog_1_method_21_code 13 = .ok (.iconst 1, 1) := by decide +kernel
theorem d_D_seen_14 : decode prog_1_method_21_code 14 = .ok (.ireturn, 1) := by decide +kernel
theorem d_D_seen_15 : decode prog_1_method_21_code 15 = .ok (.aload_n 0, 1) := by decide +kernel
theorem d_D_seen_16 : decode prog_1_method_21_code 16 = .ok (.getfield 25, 3) := by decide +kernel
theorem d_D_seen_19 : decode prog_1_method_21_code 19 = .ok (.iload_n 1, 1) := by decide +kernel
theorem d_D_seen_20 : decode prog_1_method_21_code 20 = .ok (.invokevirtual 144, 3) := by decide +kernel
theorem d_D_seen_23 : decode prog_1_method_21_code 23 = .ok (.ifCond .eq 13, 3) := by decide +kernel
theorem d_D_seen_26 : decode prog_1_method_21_code 26 = .ok (.iload_n 2, 1) := by decide +kernel
theorem d_D_seen_27 : decode prog_1_method_21_code 27 = .ok (.sipush 9999, 3) := by decide +kernel
theorem d_D_seen_30 : decode prog_1_method_21_code 30 = .ok (.invokestatic 209, 3) := by decide +kernel
theorem d_D_seen_33 : decode prog_1_method_21_code 33 = .ok (.ifCond .ne 5, 3) := by decide +kernel
theorem d_D_seen_36 : decode prog_1_method_21_code 36 = .ok (.iconst 0, 1) := by decide +kernel
theorem d_D_seen_37 : decode prog_1_method_21_code 37 = .ok (.ireturn, 1) := by decide +kernel
theorem d_D_seen_38 : decode prog_1_method_21_code 38 = .ok (.aload_n 0, 1) := by decide +kernel
theorem d_D_seen_39 : decode prog_1_method_21_code 39 = .ok (.getfield 25, 3) := by decide +kernel
theorem d_D_seen_42 : decode prog_1_method_21_code 42 = .ok (.dup, 1) := by decide +kernel
theorem d_D_seen_43 : decode prog_1_method_21_code 43 = .ok (.getfield 242, 3) := by decide +kernel
theorem d_D_seen_46 : decode prog_1_method_21_code 46 = .ok (.iconst 1, 1) := by decide +kernel
theorem d_D_seen_47 : decode prog_1_method_21_code 47 = .ok (.iload_n 1, 1) := by decide +kernel
theorem d_D_seen_48 : decode prog_1_method_21_code 48 = .ok (.ishl, 1) := by decide +kernel
theorem d_D_seen_49 : decode prog_1_method_21_code 49 = .ok (.ior, 1) := by decide +kernel
theorem d_D_seen_50 : decode prog_1_method_21_code 50 = .ok (.putfield 242, 3) := by decide +kernel
theorem d_D_seen_53 : decode prog_1_method_21_code 53 = .ok (.aload_n 0, 1) := by decide +kernel
theorem d_D_seen_54 : decode prog_1_method_21_code 54 = .ok (.getfield 25, 3) := by decide +kernel
theorem d_D_seen_57 : decode prog_1_method_21_code 57 = .ok (.getfield 245, 3) := by decide +kernel
theorem d_D_seen_60 : decode prog_1_method_21_code 60 = .ok (.iload_n 1, 1) := by decide +kernel
theorem d_D_seen_61 : decode prog_1_method_21_code 61 = .ok (.iload_n 2, 1) := by decide +kernel
theorem d_D_seen_62 : decode prog_1_method_21_code 62 = .ok (.iastore, 1) := by decide +kernel
theorem d_D_seen_63 : decode prog_1_method_21_code 63 = .ok (.iconst 1, 1) := by decide +kernel
theorem d_D_seen_64 : decode prog_1_method_21_code 64 = .ok (.ireturn, 1) := by decide +kernel
theorem d_D_slipped_0 : decode prog_1_method_22_code 0 = .ok (.aload_n 0, 1) := by decide +kernel
theorem d_D_slipped_1 : decode prog_1_method_22_code 1 = .ok (.getfield 25, 3) := by decide +kernel
theorem d_D_slipped_4 : decode prog_1_method_22_code 4 = .ok (.getfield 130, 3) := by decide +kernel
theorem d_D_slipped_7 : decode prog_1_method_22_code 7 = .ok (.ifCond .eq 12, 3) := by decide +kernel
theorem d_D_slipped_10 : decode prog_1_method_22_code 10 = .ok (.iload_n 1, 1) := by decide +kernel
theorem d_D_slipped_11 : decode prog_1_method_22_code 11 = .ok (.ifCond .lt 8, 3) := by decide +kernel
theorem d_D_slipped_14 : decode prog_1_method_22_code 14 = .ok (.iload_n 1, 1) := by decide +kernel
theorem d_D_slipped_15 : decode prog_1_method_22_code 15 = .ok (.iconst 2, 1) := by decide +kernel
theorem d_D_slipped_16 : decode prog_1_method_22_code 16 = .ok (.if_icmp .le 5, 3) := by decide +kernel
theorem d_D_slipped_19 : decode prog_1_method_22_code 19 = .ok (.iconst (-1), 1) := by decide +kernel
theorem d_D_slipped_20 : decode prog_1_method_22_code 20 = .ok (.ireturn, 1) := by decide +kernel
theorem d_D_slipped_21 : decode prog_1_method_22_code 21 = .ok (.iconst 0, 1) := by decide +kernel
theorem d_D_slipped_22 : decode prog_1_method_22_code 22 = .ok (.istore_n 2, 1) := by decide +kernel
theorem d_D_slipped_23 : decode prog_1_method_22_code 23 = .ok (.iconst (-1), 1) := by decide +kernel
theorem d_D_slipped_24 : decode prog_1_method_22_code 24 = .ok (.istore_n 3, 1) := by decide +kernel
theorem d_D_slipped_25 : decode prog_1_method_22_code 25 = .ok (.iconst 0, 1) := by decide +kernel
theorem d_D_slipped_26 : decode prog_1_method_22_code 26 = .ok (.istore 4, 2) := by decide +kernel
theorem d_D_slipped_28 : decode prog_1_method_22_code 28 = .ok (.iload 4, 2) := by decide +kernel
theorem d_D_slipped_30 : decode prog_1_method_22_code 30 = .ok (.aload_n 0, 1) := by decide +kernel
theorem d_D_slipped_31 : decode prog_1_method_22_code 31 = .ok (.getfield 25, 3) := by decide +kernel
theorem d_D_slipped_34 : decode prog_1_method_22_code 34 = .ok (.getfield 130, 3) := by decide +kernel
theorem d_D_slipped_37 : decode prog_1_method_22_code 37 = .ok (.if_icmp .ge 26, 3) := by decide +kernel
theorem d_D_slipped_40 : decode prog_1_method_22_code 40 = .ok (.aload_n 0, 1) := by decide +kernel
theorem d_D_slipped_41 : decode prog_1_method_22_code 41 = .ok (.iload 4, 2) := by decide +kernel
theorem d_D_slipped_43 : decode prog_1_method_22_code 43 = .ok (.invokevirtual 248, 3) := by decide +kernel
theorem d_D_slipped_46 : decode prog_1_method_22_code 46 = .ok (.lconst 0, 1) := by decide +kernel
theorem d_D_slipped_47 : decode prog_1_method_22_code 47 = .ok (.lcmp, 1) := by decide +kernel
theorem d_D_slipped_48 : decode prog_1_method_22_code 48 = .ok (.ifCond .eq 9, 3) := by decide +kernel
theorem d_D_slipped_51 : decode prog_1_method_22_code 51 = .ok (.iinc 2 1, 3) := by decide +kernel
theorem d_D_slipped_54 : decode prog_1_method_22_code 54 = .ok (.iload 4, 2) := by decide +kernel
theorem d_D_slipped_56 : decode prog_1_method_22_code 56 = .ok (.istore_n 3, 1) := by decide +kernel
theorem d_D_slipped_57 : decode prog_1_method_22_code 57 = .ok (.iinc 4 1, 3) := by decide +kernel
theorem d_D_slipped_60 : decode prog_1_method_22_code 60 = .ok (.goto (-32), 3) := by decide +kernel
theorem d_D_slipped_63 : decode prog_1_method_22_code 63 = .ok (.iload_n 2, 1) := by decide +kernel
theorem d_D_slipped_64 : decode prog_1_method_22_code 64 = .ok (.iconst 1, 1) := by decide +kernel
theorem d_D_slipped_65 : decode prog_1_method_22_code 65 = .ok (.if_icmp .ne 22, 3) := by decide +kernel
theorem d_D_slipped_68 : decode prog_1_method_22_code 68 = .ok (.aload_n 0, 1) := by decide +kernel
theorem d_D_slipped_69 : decode prog_1_method_22_code 69 = .ok (.iload_n 3, 1) := by decide +kernel
theorem d_D_slipped_70 : decode prog_1_method_22_code 70 = .ok (.invokevirtual 248, 3) := by decide +kernel
theorem d_D_slipped_73 : decode prog_1_method_22_code 73 = .ok (.invokestatic 252, 3) := by decide +kernel
theorem d_D_slipped_76 : decode prog_1_method_22_code 76 = .ok (.ldc2_w 258, 3) := by decide +kernel
theorem d_D_slipped_79 : decode prog_1_method_22_code 79 = .ok (.lcmp, 1) := by decide +kernel
theorem d_D_slipped_80 : decode prog_1_method_22_code 80 = .ok (.ifCond .gt 7, 3) := by decide +kernel
theorem d_D_slipped_83 : decode prog_1_method_22_code 83 = .ok (.iconst 1, 1) := by decide +kernel
theorem d_D_slipped_84 : decode prog_1_method_22_code 84 = .ok (.goto 4, 3) := by decide +kernel
theorem d_D_slipped_87 : decode prog_1_method_22_code 87 = .ok (.iconst 0, 1) := by decide +kernel
theorem d_D_slipped_88 : decode prog_1_method_22_code 88 = .ok (.istore 4, 2) := by decide +kernel
theorem d_D_slipped_90 : decode prog_1_method_22_code 90 = .ok (.iload_n 1, 1) := by decide +kernel
theorem d_D_slipped_91 : decode prog_1_method_22_code 91 = .ok (.ifCond .ne 14, 3) := by decide +kernel
theorem d_D_slipped_94 : decode prog_1_method_22_code 94 = .ok (.iload 4, 2) := by decide +kernel
theorem d_D_slipped_96 : decode prog_1_method_22_code 96 = .ok (.ifCond .eq 7, 3) := by decide +kernel
theorem d_D_slipped_99 : decode prog_1_method_22_code 99 = .ok (.iconst 1, 1) := by decide +kernel
theorem d_D_slipped_100 : decode prog_1_method_22_code 100 = .ok (.goto 4, 3) := by decide +kernel
theorem d_D_slipped_103 : decode prog_1_method_22_code 103 = .ok (.iconst 0, 1) := by decide +kernel
theorem d_D_slipped_104 : decode prog_1_method_22_code 104 = .ok (.ireturn, 1) := by decide +kernel
theorem d_D_slipped_105 : decode prog_1_method_22_code 105 = .ok (.iload_n 1, 1) := by decide +kernel
theorem d_D_slipped_106 : decode prog_1_method_22_code 106 = .ok (.iconst 1, 1) := by decide +kernel
theorem d_D_slipped_107 : decode prog_1_method_22_code 107 = .ok (.if_icmp .ne 15, 3) := by decide +kernel
theorem d_D_slipped_110 : decode prog_1_method_22_code 110 = .ok (.iload 4, 2) := by decide +kernel
theorem d_D_slipped_112 : decode prog_1_method_22_code 112 = .ok (.ifCond .eq 7, 3) := by decide +kernel
theorem d_D_slipped_115 : decode prog_1_method_22_code 115 = .ok (.iload_n 3, 1) := by decide +kernel
theorem d_D_slipped_116 : decode prog_1_method_22_code 116 = .ok (.goto 5, 3) := by decide +kernel
theorem d_D_slipped_119 : decode prog_1_method_22_code 119 = .ok (.bipush (-2), 2) := by decide +kernel
theorem d_D_slipped_121 : decode prog_1_method_22_code 121 = .ok (.ireturn, 1) := by decide +kernel
theorem d_D_slipped_122 : decode prog_1_method_22_code 122 = .ok (.iload 4, 2) := by decide +kernel
theorem d_D_slipped_124 : decode prog_1_method_22_code 124 = .ok (.ifCond .eq 12, 3) := by decide +kernel
theorem d_D_slipped_127 : decode prog_1_method_22_code 127 = .ok (.aload_n 0, 1) := by decide +kernel
theorem d_D_slipped_128 : decode prog_1_method_22_code 128 = .ok (.iload_n 3, 1) := by decide +kernel
theorem d_D_slipped_129 : decode prog_1_method_22_code 129 = .ok (.invokevirtual 248, 3) := by decide +kernel
theorem d_D_slipped_132 : decode prog_1_method_22_code 132 = .ok (.l2i, 1) := by decide +kernel
theorem d_D_slipped_133 : decode prog_1_method_22_code 133 = .ok (.goto 4, 3) := by decide +kernel
theorem d_D_slipped_136 : decode prog_1_method_22_code 136 = .ok (.iconst 0, 1) := by decide +kernel
theorem d_D_slipped_137 : decode prog_1_method_22_code 137 = .ok (.ireturn, 1) := by decide +kernel
theorem d_D_strayOf_0 : decode prog_1_method_23_code 0 = .ok (.aload_n 0, 1) := by decide +kernel
theorem d_D_strayOf_1 : decode prog_1_method_23_code 1 = .ok (.getfield 25, 3) := by decide +kernel
theorem d_D_strayOf_4 : decode prog_1_method_23_code 4 = .ok (.iload_n 1, 1) := by decide +kernel
theorem d_D_strayOf_5 : decode prog_1_method_23_code 5 = .ok (.invokevirtual 144, 3) := by decide +kernel
theorem d_D_strayOf_8 : decode prog_1_method_23_code 8 = .ok (.ifCond .eq 17, 3) := by decide +kernel
theorem d_D_strayOf_11 : decode prog_1_method_23_code 11 = .ok (.aload_n 0, 1) := by decide +kernel
theorem d_D_strayOf_12 : decode prog_1_method_23_code 12 = .ok (.getfield 25, 3) := by decide +kernel
theorem d_D_strayOf_15 : decode prog_1_method_23_code 15 = .ok (.getfield 242, 3) := by decide +kernel
theorem d_D_strayOf_18 : decode prog_1_method_23_code 18 = .ok (.iload_n 1, 1) := by decide +kernel
theorem d_D_strayOf_19 : decode prog_1_method_23_code 19 = .ok (.invokestatic 157, 3) := by decide +kernel
theorem d_D_strayOf_22 : decode prog_1_method_23_code 22 = .ok (.ifCond .ne 5, 3) := by decide +kernel
theorem d_D_strayOf_25 : decode prog_1_method_23_code 25 = .ok (.lconst 0, 1) := by decide +kernel
theorem d_D_strayOf_26 : decode prog_1_method_23_code 26 = .ok (.lreturn, 1) := by decide +kernel
theorem d_D_strayOf_27 : decode prog_1_method_23_code 27 = .ok (.aload_n 0, 1) := by decide +kernel
theorem d_D_strayOf_28 : decode prog_1_method_23_code 28 = .ok (.getfield 25, 3) := by decide +kernel
theorem d_D_strayOf_31 : decode prog_1_method_23_code 31 = .ok (.getfield 245, 3) := by decide +kernel
theorem d_D_strayOf_34 : decode prog_1_method_23_code 34 = .ok (.iload_n 1, 1) := by decide +kernel
theorem d_D_strayOf_35 : decode prog_1_method_23_code 35 = .ok (.iaload, 1) := by decide +kernel
theorem d_D_strayOf_36 : decode prog_1_method_23_code 36 = .ok (.i2l, 1) := by decide +kernel
theorem d_D_strayOf_37 : decode prog_1_method_23_code 37 = .ok (.aload_n 0, 1) := by decide +kernel
theorem d_D_strayOf_38 : decode prog_1_method_23_code 38 = .ok (.getfield 45, 3) := by decide +kernel
theorem d_D_strayOf_41 : decode prog_1_method_23_code 41 = .ok (.iload_n 1, 1) := by decide +kernel
theorem d_D_strayOf_42 : decode prog_1_method_23_code 42 = .ok (.invokevirtual 260, 3) := by decide +kernel
theorem d_D_strayOf_45 : decode prog_1_method_23_code 45 = .ok (.lsub, 1) := by decide +kernel
theorem d_D_strayOf_46 : decode prog_1_method_23_code 46 = .ok (.lreturn, 1) := by decide +kernel
theorem d_D_coming_0 : decode prog_1_method_24_code 0 = .ok (.iload_n 1, 1) := by decide +kernel
theorem d_D_coming_1 : decode prog_1_method_24_code 1 = .ok (.iconst (-1), 1) := by decide +kernel
theorem d_D_coming_2 : decode prog_1_method_24_code 2 = .ok (.if_icmp .ne 13, 3) := by decide +kernel
theorem d_D_coming_5 : decode prog_1_method_24_code 5 = .ok (.aload_n 0, 1) := by decide +kernel
theorem d_D_coming_6 : decode prog_1_method_24_code 6 = .ok (.getfield 25, 3) := by decide +kernel
theorem d_D_coming_9 : decode prog_1_method_24_code 9 = .ok (.iconst 0, 1) := by decide +kernel
theorem d_D_coming_10 : decode prog_1_method_24_code 10 = .ok (.putfield 263, 3) := by decide +kernel
theorem d_D_coming_13 : decode prog_1_method_24_code 13 = .ok (.iconst 0, 1) := by decide +kernel
theorem d_D_coming_14 : decode prog_1_method_24_code 14 = .ok (.ireturn, 1) := by decide +kernel
theorem d_D_coming_15 : decode prog_1_method_24_code 15 = .ok (.aload_n 0, 1) := by decide +kernel
theorem d_D_coming_16 : decode prog_1_method_24_code 16 = .ok (.getfield 25, 3) := by decide +kernel
theorem d_D_coming_19 : decode prog_1_method_24_code 19 = .ok (.iload_n 1, 1) := by decide +kernel
theorem d_D_coming_20 : decode prog_1_method_24_code 20 = .ok (.invokevirtual 144, 3) := by decide +kernel
theorem d_D_coming_23 : decode prog_1_method_24_code 23 = .ok (.ifCond .eq 15, 3) := by decide +kernel
theorem d_D_coming_26 : decode prog_1_method_24_code 26 = .ok (.aload_n 0, 1) := by decide +kernel
theorem d_D_coming_27 : decode prog_1_method_24_code 27 = .ok (.getfield 25, 3) := by decide +kernel
theorem d_D_coming_30 : decode prog_1_method_24_code 30 = .ok (.getfield 263, 3) := by decide +kernel
theorem d_D_coming_33 : decode prog_1_method_24_code 33 = .ok (.bipush 40, 2) := by decide +kernel
theorem d_D_coming_35 : decode prog_1_method_24_code 35 = .ok (.if_icmp .lt 6, 3) := by decide +kernel
theorem d_D_coming_38 : decode prog_1_method_24_code 38 = .ok (.bipush (-2), 2) := by decide +kernel
theorem d_D_coming_40 : decode prog_1_method_24_code 40 = .ok (.ireturn, 1) := by decide +kernel
theorem d_D_coming_41 : decode prog_1_method_24_code 41 = .ok (.aload_n 0, 1) := by decide +kernel
theorem d_D_coming_42 : decode prog_1_method_24_code 42 = .ok (.getfield 25, 3) := by decide +kernel
theorem d_D_coming_45 : decode prog_1_method_24_code 45 = .ok (.getfield 266, 3) := by decide +kernel
theorem d_D_coming_48 : decode prog_1_method_24_code 48 = .ok (.aload_n 0, 1) := by decide +kernel
theorem d_D_coming_49 : decode prog_1_method_24_code 49 = .ok (.getfield 25, 3) := by decide +kernel
theorem d_D_coming_52 : decode prog_1_method_24_code 52 = .ok (.getfield 263, 3) := by decide +kernel
theorem d_D_coming_55 : decode prog_1_method_24_code 55 = .ok (.iload_n 1, 1) := by decide +kernel
theorem d_D_coming_56 : decode prog_1_method_24_code 56 = .ok (.iastore, 1) := by decide +kernel
theorem d_D_coming_57 : decode prog_1_method_24_code 57 = .ok (.aload_n 0, 1) := by decide +kernel
theorem d_D_coming_58 : decode prog_1_method_24_code 58 = .ok (.getfield 25, 3) := by decide +kernel
theorem d_D_coming_61 : decode prog_1_method_24_code 61 = .ok (.dup, 1) := by decide +kernel
theorem d_D_coming_62 : decode prog_1_method_24_code 62 = .ok (.getfield 263, 3) := by decide +kernel
theorem d_D_coming_65 : decode prog_1_method_24_code 65 = .ok (.iconst 1, 1) := by decide +kernel
theorem d_D_coming_66 : decode prog_1_method_24_code 66 = .ok (.iadd, 1) := by decide +kernel
theorem d_D_coming_67 : decode prog_1_method_24_code 67 = .ok (.putfield 263, 3) := by decide +kernel
theorem d_D_coming_70 : decode prog_1_method_24_code 70 = .ok (.aload_n 0, 1) := by decide +kernel
theorem d_D_coming_71 : decode prog_1_method_24_code 71 = .ok (.getfield 25, 3) := by decide +kernel
theorem d_D_coming_74 : decode prog_1_method_24_code 74 = .ok (.getfield 263, 3) := by decide +kernel
theorem d_D_coming_77 : decode prog_1_method_24_code 77 = .ok (.ireturn, 1) := by decide +kernel
theorem d_D_day_0 : decode prog_1_method_25_code 0 = .ok (.aload_n 0, 1) := by decide +kernel
theorem d_D_day_1 : decode prog_1_method_25_code 1 = .ok (.iload_n 1, 1) := by decide +kernel
theorem d_D_day_2 : decode prog_1_method_25_code 2 = .ok (.invokevirtual 269, 3) := by decide +kernel
theorem d_D_day_5 : decode prog_1_method_25_code 5 = .ok (.ifCond .ne 5, 3) := by decide +kernel
theorem d_D_day_8 : decode prog_1_method_25_code 8 = .ok (.iconst (-1), 1) := by decide +kernel
theorem d_D_day_9 : decode prog_1_method_25_code 9 = .ok (.ireturn, 1) := by decide +kernel
theorem d_D_day_10 : decode prog_1_method_25_code 10 = .ok (.aload_n 0, 1) := by decide +kernel
theorem d_D_day_11 : decode prog_1_method_25_code 11 = .ok (.getfield 97, 3) := by decide +kernel
theorem d_D_day_14 : decode prog_1_method_25_code 14 = .ok (.invokevirtual 272, 3) := by decide +kernel
theorem d_D_day_17 : decode prog_1_method_25_code 17 = .ok (.aload_n 0, 1) := by decide +kernel
theorem d_D_day_18 : decode prog_1_method_25_code 18 = .ok (.getfield 97, 3) := by decide +kernel
theorem d_D_day_21 : decode prog_1_method_25_code 21 = .ok (.iload_n 1, 1) := by decide +kernel
theorem d_D_day_22 : decode prog_1_method_25_code 22 = .ok (.aload_n 0, 1) := by decide +kernel
theorem d_D_day_23 : decode prog_1_method_25_code 23 = .ok (.getfield 25, 3) := by decide +kernel
theorem d_D_day_26 : decode prog_1_method_25_code 26 = .ok (.getfield 266, 3) := by decide +kernel
theorem d_D_day_29 : decode prog_1_method_25_code 29 = .ok (.aload_n 0, 1) := by decide +kernel
theorem d_D_day_30 : decode prog_1_method_25_code 30 = .ok (.getfield 25, 3) := by decide +kernel
theorem d_D_day_33 : decode prog_1_method_25_code 33 = .ok (.getfield 263, 3) := by decide +kernel
theorem d_D_day_36 : decode prog_1_method_25_code 36 = .ok (.invokevirtual 275, 3) := by decide +kernel
theorem d_D_day_39 : decode prog_1_method_25_code 39 = .ok (.aload_n 0, 1) := by decide +kernel
theorem d_D_day_40 : decode prog_1_method_25_code 40 = .ok (.getfield 97, 3) := by decide +kernel
theorem d_D_day_43 : decode prog_1_method_25_code 43 = .ok (.getfield 279, 3) := by decide +kernel
theorem d_D_day_46 : decode prog_1_method_25_code 46 = .ok (.ireturn, 1) := by decide +kernel
theorem d_D_would_0 : decode prog_1_method_26_code 0 = .ok (.aload_n 0, 1) := by decide +kernel
theorem d_D_would_1 : decode prog_1_method_26_code 1 = .ok (.iload_n 1, 1) := by decide +kernel
theorem d_D_would_2 : decode prog_1_method_26_code 2 = .ok (.invokevirtual 269, 3) := by decide +kernel
theorem d_D_would_5 : decode prog_1_method_26_code 5 = .ok (.ifCond .eq 12, 3) := by decide +kernel
theorem d_D_would_8 : decode prog_1_method_26_code 8 = .ok (.iload_n 2, 1) := by decide +kernel
theorem d_D_would_9 : decode prog_1_method_26_code 9 = .ok (.ifCond .lt 8, 3) := by decide +kernel
theorem d_D_would_12 : decode prog_1_method_26_code 12 = .ok (.iload_n 2, 1) := by decide +kernel
theorem d_D_would_13 : decode prog_1_method_26_code 13 = .ok (.iconst 3, 1) := by decide +kernel
theorem d_D_would_14 : decode prog_1_method_26_code 14 = .ok (.if_icmp .le 5, 3) := by decide +kernel
theorem d_D_would_17 : decode prog_1_method_26_code 17 = .ok (.iconst (-1), 1) := by decide +kernel
theorem d_D_would_18 : decode prog_1_method_26_code 18 = .ok (.ireturn, 1) := by decide +kernel
theorem d_D_would_19 : decode prog_1_method_26_code 19 = .ok (.aload_n 0, 1) := by decide +kernel
theorem d_D_would_20 : decode prog_1_method_26_code 20 = .ok (.iload_n 1, 1) := by decide +kernel
theorem d_D_would_21 : decode prog_1_method_26_code 21 = .ok (.invokevirtual 282, 3) := by decide +kernel
theorem d_D_would_24 : decode prog_1_method_26_code 24 = .ok (.istore_n 3, 1) := by decide +kernel
theorem d_D_would_25 : decode prog_1_method_26_code 25 = .ok (.iload_n 2, 1) := by decide +kernel
theorem d_D_would_26 : decode prog_1_method_26_code 26 = .ok (.iconst 3, 1) := by decide +kernel
theorem d_D_would_27 : decode prog_1_method_26_code 27 = .ok (.if_icmp .ne 7, 3) := by decide +kernel
theorem d_D_would_30 : decode prog_1_method_26_code 30 = .ok (.iload_n 3, 1) := by decide +kernel
theorem d_D_would_31 : decode prog_1_method_26_code 31 = .ok (.goto 11, 3) := by decide +kernel
theorem d_D_would_34 : decode prog_1_method_26_code 34 = .ok (.aload_n 0, 1) := by decide +kernel
theorem d_D_would_35 : decode prog_1_method_26_code 35 = .ok (.getfield 97, 3) := by decide +kernel
theorem d_D_would_38 : decode prog_1_method_26_code 38 = .ok (.iload_n 2, 1) := by decide +kernel
theorem d_D_would_39 : decode prog_1_method_26_code 39 = .ok (.invokevirtual 286, 3) := by decide +kernel
theorem d_D_would_42 : decode prog_1_method_26_code 42 = .ok (.ireturn, 1) := by decide +kernel
theorem d_D_worn_0 : decode prog_1_method_27_code 0 = .ok (.aload_n 0, 1) := by decide +kernel
theorem d_D_worn_1 : decode prog_1_method_27_code 1 = .ok (.iload_n 1, 1) := by decide +kernel
theorem d_D_worn_2 : decode prog_1_method_27_code 2 = .ok (.invokevirtual 269, 3) := by decide +kernel
theorem d_D_worn_5 : decode prog_1_method_27_code 5 = .ok (.ifCond .eq 21, 3) := by decide +kernel
theorem d_D_worn_8 : decode prog_1_method_27_code 8 = .ok (.aload_n 0, 1) := by decide +kernel
theorem d_D_worn_9 : decode prog_1_method_27_code 9 = .ok (.getfield 25, 3) := by decide +kernel
theorem d_D_worn_12 : decode prog_1_method_27_code 12 = .ok (.iload_n 2, 1) := by decide +kernel
theorem d_D_worn_13 : decode prog_1_method_27_code 13 = .ok (.invokevirtual 144, 3) := by decide +kernel
theorem d_D_worn_16 : decode prog_1_method_27_code 16 = .ok (.ifCond .eq 10, 3) := by decide +kernel
theorem d_D_worn_19 : decode prog_1_method_27_code 19 = .ok (.iload_n 3, 1) := by decide +kernel
theorem d_D_worn_20 : decode prog_1_method_27_code 20 = .ok (.invokestatic 170, 3) := by decide +kernel
theorem d_D_worn_23 : decode prog_1_method_27_code 23 = .ok (.ifCond .ne 7, 3) := by decide +kernel
theorem d_D_worn_26 : decode prog_1_method_27_code 26 = .ok (.ldc2_w 289, 3) := by decide +kernel
theorem d_D_worn_29 : decode prog_1_method_27_code 29 = .ok (.lreturn, 1) := by decide +kernel
theorem d_D_worn_30 : decode prog_1_method_27_code 30 = .ok (.aload_n 0, 1) := by decide +kernel
theorem d_D_worn_31 : decode prog_1_method_27_code 31 = .ok (.iload_n 1, 1) := by decide +kernel
theorem d_D_worn_32 : decode prog_1_method_27_code 32 = .ok (.invokevirtual 282, 3) := by decide +kernel
theorem d_D_worn_35 : decode prog_1_method_27_code 35 = .ok (.pop, 1) := by decide +kernel
theorem d_D_worn_36 : decode prog_1_method_27_code 36 = .ok (.aload_n 0, 1) := by decide +kernel
theorem d_D_worn_37 : decode prog_1_method_27_code 37 = .ok (.getfield 97, 3) := by decide +kernel
theorem d_D_worn_40 : decode prog_1_method_27_code 40 = .ok (.getfield 291, 3) := by decide +kernel
theorem d_D_worn_43 : decode prog_1_method_27_code 43 = .ok (.iload_n 2, 1) := by decide +kernel
theorem d_D_worn_44 : decode prog_1_method_27_code 44 = .ok (.laload, 1) := by decide +kernel
theorem d_D_worn_45 : decode prog_1_method_27_code 45 = .ok (.aload_n 0, 1) := by decide +kernel
theorem d_D_worn_46 : decode prog_1_method_27_code 46 = .ok (.getfield 45, 3) := by decide +kernel
theorem d_D_worn_49 : decode prog_1_method_27_code 49 = .ok (.getfield 179, 3) := by decide +kernel
theorem d_D_worn_52 : decode prog_1_method_27_code 52 = .ok (.iload_n 2, 1) := by decide +kernel
theorem d_D_worn_53 : decode prog_1_method_27_code 53 = .ok (.laload, 1) := by decide +kernel
theorem d_D_worn_54 : decode prog_1_method_27_code 54 = .ok (.iload_n 3, 1) := by decide +kernel
theorem d_D_worn_55 : decode prog_1_method_27_code 55 = .ok (.invokestatic 182, 3) := by decide +kernel
theorem d_D_worn_58 : decode prog_1_method_27_code 58 = .ok (.lreturn, 1) := by decide +kernel
theorem d_D_isDayBy_0 : decode prog_1_method_28_code 0 = .ok (.aload_n 0, 1) := by decide +kernel
theorem d_D_isDayBy_1 : decode prog_1_method_28_code 1 = .ok (.getfield 25, 3) := by decide +kernel
theorem d_D_isDayBy_4 : decode prog_1_method_28_code 4 = .ok (.getfield 130, 3) := by decide +kernel
theorem d_D_isDayBy_7 : decode prog_1_method_28_code 7 = .ok (.ifCond .le 22, 3) := by decide +kernel
theorem d_D_isDayBy_10 : decode prog_1_method_28_code 10 = .ok (.iload_n 1, 1) := by decide +kernel
theorem d_D_isDayBy_11 : decode prog_1_method_28_code 11 = .ok (.ifCond .lt 18, 3) := by decide +kernel
theorem d_D_isDayBy_14 : decode prog_1_method_28_code 14 = .ok (.iload_n 1, 1) := by decide +kernel
theorem d_D_isDayBy_15 : decode prog_1_method_28_code 15 = .ok (.aload_n 0, 1) := by decide +kernel
theorem d_D_isDayBy_16 : decode prog_1_method_28_code 16 = .ok (.getfield 70, 3) := by decide +kernel
theorem d_D_isDayBy_19 : decode prog_1_method_28_code 19 = .ok (.getfield 133, 3) := by decide +kernel
theorem d_D_isDayBy_22 : decode prog_1_method_28_code 22 = .ok (.if_icmp .ge 7, 3) := by decide +kernel
theorem d_D_isDayBy_25 : decode prog_1_method_28_code 25 = .ok (.iconst 1, 1) := by decide +kernel
theorem d_D_isDayBy_26 : decode prog_1_method_28_code 26 = .ok (.goto 4, 3) := by decide +kernel
theorem d_D_isDayBy_29 : decode prog_1_method_28_code 29 = .ok (.iconst 0, 1) := by decide +kernel
theorem d_D_isDayBy_30 : decode prog_1_method_28_code 30 = .ok (.ireturn, 1) := by decide +kernel
theorem d_D_imagineDay_0 : decode prog_1_method_29_code 0 = .ok (.aload_n 0, 1) := by decide +kernel
theorem d_D_imagineDay_1 : decode prog_1_method_29_code 1 = .ok (.getfield 97, 3) := by decide +kernel
theorem d_D_imagineDay_4 : decode prog_1_method_29_code 4 = .ok (.invokevirtual 272, 3) := by decide +kernel
theorem d_D_imagineDay_7 : decode prog_1_method_29_code 7 = .ok (.aload_n 0, 1) := by decide +kernel
theorem d_D_imagineDay_8 : decode prog_1_method_29_code 8 = .ok (.getfield 45, 3) := by decide +kernel
theorem d_D_imagineDay_11 : decode prog_1_method_29_code 11 = .ok (.invokevirtual 294, 3) := by decide +kernel
theorem d_D_imagineDay_14 : decode prog_1_method_29_code 14 = .ok (.aload_n 0, 1) := by decide +kernel
theorem d_D_imagineDay_15 : decode prog_1_method_29_code 15 = .ok (.getfield 97, 3) := by decide +kernel
theorem d_D_imagineDay_18 : decode prog_1_method_29_code 18 = .ok (.iload_n 1, 1) := by decide +kernel
theorem d_D_imagineDay_19 : decode prog_1_method_29_code 19 = .ok (.aload_n 0, 1) := by decide +kernel
theorem d_D_imagineDay_20 : decode prog_1_method_29_code 20 = .ok (.getfield 25, 3) := by decide +kernel
theorem d_D_imagineDay_23 : decode prog_1_method_29_code 23 = .ok (.getfield 266, 3) := by decide +kernel
theorem d_D_imagineDay_26 : decode prog_1_method_29_code 26 = .ok (.aload_n 0, 1) := by decide +kernel
theorem d_D_imagineDay_27 : decode prog_1_method_29_code 27 = .ok (.getfield 25, 3) := by decide +kernel
theorem d_D_imagineDay_30 : decode prog_1_method_29_code 30 = .ok (.getfield 263, 3) := by decide +kernel
theorem d_D_imagineDay_33 : decode prog_1_method_29_code 33 = .ok (.invokevirtual 275, 3) := by decide +kernel
theorem d_D_imagineDay_36 : decode prog_1_method_29_code 36 = .ok (.aload_n 0, 1) := by decide +kernel
theorem d_D_imagineDay_37 : decode prog_1_method_29_code 37 = .ok (.getfield 45, 3) := by decide +kernel
theorem d_D_imagineDay_40 : decode prog_1_method_29_code 40 = .ok (.invokevirtual 297, 3) := by decide +kernel
theorem d_D_imagineDay_43 : decode prog_1_method_29_code 43 = .ok (.istore_n 2, 1) := by decide +kernel
theorem d_D_imagineDay_44 : decode prog_1_method_29_code 44 = .ok (.aload_n 0, 1) := by decide +kernel
theorem d_D_imagineDay_45 : decode prog_1_method_29_code 45 = .ok (.getfield 45, 3) := by decide +kernel
theorem d_D_imagineDay_48 : decode prog_1_method_29_code 48 = .ok (.invokevirtual 300, 3) := by decide +kernel
theorem d_D_imagineDay_51 : decode prog_1_method_29_code 51 = .ok (.iload_n 2, 1) := by decide +kernel
theorem d_D_imagineDay_52 : decode prog_1_method_29_code 52 = .ok (.ireturn, 1) := by decide +kernel
theorem d_D_seed_0 : decode prog_1_method_30_code 0 = .ok (.iload_n 1, 1) := by decide +kernel
theorem d_D_seed_1 : decode prog_1_method_30_code 1 = .ok (.ifCond .ge 5, 3) := by decide +kernel
theorem d_D_seed_4 : decode prog_1_method_30_code 4 = .ok (.iconst (-1), 1) := by decide +kernel
theorem d_D_seed_5 : decode prog_1_method_30_code 5 = .ok (.ireturn, 1) := by decide +kernel
theorem d_D_seed_6 : decode prog_1_method_30_code 6 = .ok (.aload_n 0, 1) := by decide +kernel
theorem d_D_seed_7 : decode prog_1_method_30_code 7 = .ok (.getfield 25, 3) := by decide +kernel
theorem d_D_seed_10 : decode prog_1_method_30_code 10 = .ok (.getfield 121, 3) := by decide +kernel
theorem d_D_seed_13 : decode prog_1_method_30_code 13 = .ok (.istore_n 2, 1) := by decide +kernel
theorem d_D_seed_14 : decode prog_1_method_30_code 14 = .ok (.aload_n 0, 1) := by decide +kernel
theorem d_D_seed_15 : decode prog_1_method_30_code 15 = .ok (.getfield 25, 3) := by decide +kernel
theorem d_D_seed_18 : decode prog_1_method_30_code 18 = .ok (.iload_n 1, 1) := by decide +kernel
theorem d_D_seed_19 : decode prog_1_method_30_code 19 = .ok (.putfield 121, 3) := by decide +kernel
theorem d_D_seed_22 : decode prog_1_method_30_code 22 = .ok (.iload_n 2, 1) := by decide +kernel
theorem d_D_seed_23 : decode prog_1_method_30_code 23 = .ok (.ireturn, 1) := by decide +kernel
theorem d_D_drawn_0 : decode prog_1_method_31_code 0 = .ok (.aload_n 0, 1) := by decide +kernel
theorem d_D_drawn_1 : decode prog_1_method_31_code 1 = .ok (.iload_n 1, 1) := by decide +kernel
theorem d_D_drawn_2 : decode prog_1_method_31_code 2 = .ok (.invokevirtual 269, 3) := by decide +kernel
theorem d_D_drawn_5 : decode prog_1_method_31_code 5 = .ok (.ifCond .eq 14, 3) := by decide +kernel
theorem d_D_drawn_8 : decode prog_1_method_31_code 8 = .ok (.iload_n 2, 1) := by decide +kernel
theorem d_D_drawn_9 : decode prog_1_method_31_code 9 = .ok (.iconst 1, 1) := by decide +kernel
theorem d_D_drawn_10 : decode prog_1_method_31_code 10 = .ok (.if_icmp .lt 9, 3) := by decide +kernel
theorem d_D_drawn_13 : decode prog_1_method_31_code 13 = .ok (.iload_n 2, 1) := by decide +kernel
theorem d_D_drawn_14 : decode prog_1_method_31_code 14 = .ok (.bipush 20, 2) := by decide +kernel
theorem d_D_drawn_16 : decode prog_1_method_31_code 16 = .ok (.if_icmp .le 5, 3) := by decide +kernel
theorem d_D_drawn_19 : decode prog_1_method_31_code 19 = .ok (.iconst (-1), 1) := by decide +kernel
theorem d_D_drawn_20 : decode prog_1_method_31_code 20 = .ok (.ireturn, 1) := by decide +kernel
theorem d_D_drawn_21 : decode prog_1_method_31_code 21 = .ok (.iload_n 3, 1) := by decide +kernel
theorem d_D_drawn_22 : decode prog_1_method_31_code 22 = .ok (.iconst 1, 1) := by decide +kernel
theorem d_D_drawn_23 : decode prog_1_method_31_code 23 = .ok (.if_icmp .lt 20, 3) := by decide +kernel
theorem d_D_drawn_26 : decode prog_1_method_31_code 26 = .ok (.iload_n 3, 1) := by decide +kernel
theorem d_D_drawn_27 : decode prog_1_method_31_code 27 = .ok (.bipush 60, 2) := by decide +kernel
theorem d_D_drawn_29 : decode prog_1_method_31_code 29 = .ok (.if_icmp .gt 14, 3) := by decide +kernel
theorem d_D_drawn_32 : decode prog_1_method_31_code 32 = .ok (.iload 4, 2) := by decide +kernel
theorem d_D_drawn_34 : decode prog_1_method_31_code 34 = .ok (.ifCond .lt 9, 3) := by decide +kernel
theorem d_D_drawn_37 : decode prog_1_method_31_code 37 = .ok (.iload 4, 2) := by decide +kernel
theorem d_D_drawn_39 : decode prog_1_method_31_code 39 = .ok (.iconst 2, 1) := by decide +kernel
theorem d_D_drawn_40 : decode prog_1_method_31_code 40 = .ok (.if_icmp .le 5, 3) := by decide +kernel
theorem d_D_drawn_43 : decode prog_1_method_31_code 43 = .ok (.iconst (-1), 1) := by decide +kernel
theorem d_D_drawn_44 : decode prog_1_method_31_code 44 = .ok (.ireturn, 1) := by decide +kernel
theorem d_D_drawn_45 : decode prog_1_method_31_code 45 = .ok (.aload_n 0, 1) := by decide +kernel
theorem d_D_drawn_46 : decode prog_1_method_31_code 46 = .ok (.getfield 97, 3) := by decide +kernel
theorem d_D_drawn_49 : decode prog_1_method_31_code 49 = .ok (.invokevirtual 272, 3) := by decide +kernel
theorem d_D_drawn_52 : decode prog_1_method_31_code 52 = .ok (.aload_n 0, 1) := by decide +kernel
theorem d_D_drawn_53 : decode prog_1_method_31_code 53 = .ok (.getfield 45, 3) := by decide +kernel
theorem d_D_drawn_56 : decode prog_1_method_31_code 56 = .ok (.invokevirtual 294, 3) := by decide +kernel
theorem d_D_drawn_59 : decode prog_1_method_31_code 59 = .ok (.aload_n 0, 1) := by decide +kernel
theorem d_D_drawn_60 : decode prog_1_method_31_code 60 = .ok (.getfield 25, 3) := by decide +kernel
theorem d_D_drawn_63 : decode prog_1_method_31_code 63 = .ok (.getfield 121, 3) := by decide +kernel
theorem d_D_drawn_66 : decode prog_1_method_31_code 66 = .ok (.i2l, 1) := by decide +kernel
theorem d_D_drawn_67 : decode prog_1_method_31_code 67 = .ok (.lstore 5, 2) := by decide +kernel
theorem d_D_drawn_69 : decode prog_1_method_31_code 69 = .ok (.iconst 0, 1) := by decide +kernel
theorem d_D_drawn_70 : decode prog_1_method_31_code 70 = .ok (.istore 7, 2) := by decide +kernel
theorem d_D_drawn_72 : decode prog_1_method_31_code 72 = .ok (.iload 7, 2) := by decide +kernel
theorem d_D_drawn_74 : decode prog_1_method_31_code 74 = .ok (.iload_n 2, 1) := by decide +kernel
theorem d_D_drawn_75 : decode prog_1_method_31_code 75 = .ok (.if_icmp .ge 38, 3) := by decide +kernel
theorem d_D_drawn_78 : decode prog_1_method_31_code 78 = .ok (.aload_n 0, 1) := by decide +kernel
theorem d_D_drawn_79 : decode prog_1_method_31_code 79 = .ok (.lload 5, 2) := by decide +kernel
theorem d_D_drawn_81 : decode prog_1_method_31_code 81 = .ok (.iload_n 3, 1) := by decide +kernel
theorem d_D_drawn_82 : decode prog_1_method_31_code 82 = .ok (.invokevirtual 303, 3) := by decide +kernel
theorem d_D_drawn_85 : decode prog_1_method_31_code 85 = .ok (.lstore 5, 2) := by decide +kernel
theorem d_D_drawn_87 : decode prog_1_method_31_code 87 = .ok (.aload_n 0, 1) := by decide +kernel
theorem d_D_drawn_88 : decode prog_1_method_31_code 88 = .ok (.getfield 97, 3) := by decide +kernel
theorem d_D_drawn_91 : decode prog_1_method_31_code 91 = .ok (.iload_n 1, 1) := by decide +kernel
theorem d_D_drawn_92 : decode prog_1_method_31_code 92 = .ok (.aload_n 0, 1) := by decide +kernel
theorem d_D_drawn_93 : decode prog_1_method_31_code 93 = .ok (.getfield 101, 3) := by decide +kernel
theorem d_D_drawn_96 : decode prog_1_method_31_code 96 = .ok (.iload_n 3, 1) := by decide +kernel
theorem d_D_drawn_97 : decode prog_1_method_31_code 97 = .ok (.invokevirtual 275, 3) := by decide +kernel
theorem d_D_drawn_100 : decode prog_1_method_31_code 100 = .ok (.aload_n 0, 1) := by decide +kernel
theorem d_D_drawn_101 : decode prog_1_method_31_code 101 = .ok (.getfield 45, 3) := by decide +kernel
theorem d_D_drawn_104 : decode prog_1_method_31_code 104 = .ok (.invokevirtual 300, 3) := by decide +kernel
theorem d_D_drawn_107 : decode prog_1_method_31_code 107 = .ok (.iinc 7 1, 3) := by decide +kernel
theorem d_D_drawn_110 : decode prog_1_method_31_code 110 = .ok (.goto (-38), 3) := by decide +kernel
theorem d_D_drawn_113 : decode prog_1_method_31_code 113 = .ok (.aload_n 0, 1) := by decide +kernel
theorem d_D_drawn_114 : decode prog_1_method_31_code 114 = .ok (.getfield 97, 3) := by decide +kernel
theorem d_D_drawn_117 : decode prog_1_method_31_code 117 = .ok (.iload 4, 2) := by decide +kernel
theorem d_D_drawn_119 : decode prog_1_method_31_code 119 = .ok (.invokevirtual 286, 3) := by decide +kernel
theorem d_D_drawn_122 : decode prog_1_method_31_code 122 = .ok (.ireturn, 1) := by decide +kernel
theorem d_D_drawComings_0 : decode prog_1_method_32_code 0 = .ok (.lload_n 1, 1) := by decide +kernel
theorem d_D_drawComings_1 : decode prog_1_method_32_code 1 = .ok (.lstore 4, 2) := by decide +kernel
theorem d_D_drawComings_3 : decode prog_1_method_32_code 3 = .ok (.iconst 0, 1) := by decide +kernel
theorem d_D_drawComings_4 : decode prog_1_method_32_code 4 = .ok (.istore 6, 2) := by decide +kernel
theorem d_D_drawComings_6 : decode prog_1_method_32_code 6 = .ok (.iload 6, 2) := by decide +kernel
theorem d_D_drawComings_8 : decode prog_1_method_32_code 8 = .ok (.iload_n 3, 1) := by decide +kernel
theorem d_D_drawComings_9 : decode prog_1_method_32_code 9 = .ok (.if_icmp .ge 69, 3) := by decide +kernel
theorem d_D_drawComings_12 : decode prog_1_method_32_code 12 = .ok (.iload 6, 2) := by decide +kernel
theorem d_D_drawComings_14 : decode prog_1_method_32_code 14 = .ok (.bipush 60, 2) := by decide +kernel
theorem d_D_drawComings_16 : decode prog_1_method_32_code 16 = .ok (.if_icmp .ge 62, 3) := by decide +kernel
theorem d_D_drawComings_19 : decode prog_1_method_32_code 19 = .ok (.lload 4, 2) := by decide +kernel
theorem d_D_drawComings_21 : decode prog_1_method_32_code 21 = .ok (.ldc2_w 307, 3) := by decide +kernel
theorem d_D_drawComings_24 : decode prog_1_method_32_code 24 = .ok (.lmul, 1) := by decide +kernel
theorem d_D_drawComings_25 : decode prog_1_method_32_code 25 = .ok (.ldc2_w 309, 3) := by decide +kernel
theorem d_D_drawComings_28 : decode prog_1_method_32_code 28 = .ok (.ladd, 1) := by decide +kernel
theorem d_D_drawComings_29 : decode prog_1_method_32_code 29 = .ok (.ldc2_w 311, 3) := by decide +kernel
theorem d_D_drawComings_32 : decode prog_1_method_32_code 32 = .ok (.land, 1) := by decide +kernel
theorem d_D_drawComings_33 : decode prog_1_method_32_code 33 = .ok (.lstore 4, 2) := by decide +kernel
theorem d_D_drawComings_35 : decode prog_1_method_32_code 35 = .ok (.aload_n 0, 1) := by decide +kernel
theorem d_D_drawComings_36 : decode prog_1_method_32_code 36 = .ok (.getfield 101, 3) := by decide +kernel
theorem d_D_drawComings_39 : decode prog_1_method_32_code 39 = .ok (.iload 6, 2) := by decide +kernel
theorem d_D_drawComings_41 : decode prog_1_method_32_code 41 = .ok (.aload_n 0, 1) := by decide +kernel
theorem d_D_drawComings_42 : decode prog_1_method_32_code 42 = .ok (.getfield 25, 3) := by decide +kernel
theorem d_D_drawComings_45 : decode prog_1_method_32_code 45 = .ok (.getfield 130, 3) := by decide +kernel
theorem d_D_drawComings_48 : decode prog_1_method_32_code 48 = .ok (.ifCond .le 22, 3) := by decide +kernel
theorem d_D_drawComings_51 : decode prog_1_method_32_code 51 = .ok (.lload 4, 2) := by decide +kernel
theorem d_D_drawComings_53 : decode prog_1_method_32_code 53 = .ok (.ldc2_w 313, 3) := by decide +kernel
theorem d_D_drawComings_56 : decode prog_1_method_32_code 56 = .ok (.ldiv, 1) := by decide +kernel
theorem d_D_drawComings_57 : decode prog_1_method_32_code 57 = .ok (.aload_n 0, 1) := by decide +kernel
theorem d_D_drawComings_58 : decode prog_1_method_32_code 58 = .ok (.getfield 25, 3) := by decide +kernel
theorem d_D_drawComings_61 : decode prog_1_method_32_code 61 = .ok (.getfield 130, 3) := by decide +kernel
theorem d_D_drawComings_64 : decode prog_1_method_32_code 64 = .ok (.i2l, 1) := by decide +kernel
theorem d_D_drawComings_65 : decode prog_1_method_32_code 65 = .ok (.lrem, 1) := by decide +kernel
theorem d_D_drawComings_66 : decode prog_1_method_32_code 66 = .ok (.l2i, 1) := by decide +kernel
theorem d_D_drawComings_67 : decode prog_1_method_32_code 67 = .ok (.goto 4, 3) := by decide +kernel
theorem d_D_drawComings_70 : decode prog_1_method_32_code 70 = .ok (.iconst 0, 1) := by decide +kernel
theorem d_D_drawComings_71 : decode prog_1_method_32_code 71 = .ok (.iastore, 1) := by decide +kernel
theorem d_D_drawComings_72 : decode prog_1_method_32_code 72 = .ok (.iinc 6 1, 3) := by decide +kernel
theorem d_D_drawComings_75 : decode prog_1_method_32_code 75 = .ok (.goto (-69), 3) := by decide +kernel
theorem d_D_drawComings_78 : decode prog_1_method_32_code 78 = .ok (.lload 4, 2) := by decide +kernel
theorem d_D_drawComings_80 : decode prog_1_method_32_code 80 = .ok (.lreturn, 1) := by decide +kernel
theorem d_D_count_0 : decode prog_1_method_33_code 0 = .ok (.iload_n 1, 1) := by decide +kernel
theorem d_D_count_1 : decode prog_1_method_33_code 1 = .ok (.tableswitch 156 0 11 #[63, 71, 79, 87, 95, 103, 111, 119, 127, 135, 140, 148], 63) := by decide +kernel
theorem d_D_count_64 : decode prog_1_method_33_code 64 = .ok (.aload_n 0, 1) := by decide +kernel
theorem d_D_count_65 : decode prog_1_method_33_code 65 = .ok (.getfield 25, 3) := by decide +kernel
theorem d_D_count_68 : decode prog_1_method_33_code 68 = .ok (.getfield 130, 3) := by decide +kernel
theorem d_D_count_71 : decode prog_1_method_33_code 71 = .ok (.ireturn, 1) := by decide +kernel
theorem d_D_count_72 : decode prog_1_method_33_code 72 = .ok (.aload_n 0, 1) := by decide +kernel
theorem d_D_count_73 : decode prog_1_method_33_code 73 = .ok (.getfield 25, 3) := by decide +kernel
theorem d_D_count_76 : decode prog_1_method_33_code 76 = .ok (.getfield 186, 3) := by decide +kernel
theorem d_D_count_79 : decode prog_1_method_33_code 79 = .ok (.ireturn, 1) := by decide +kernel
theorem d_D_count_80 : decode prog_1_method_33_code 80 = .ok (.aload_n 0, 1) := by decide +kernel
theorem d_D_count_81 : decode prog_1_method_33_code 81 = .ok (.getfield 70, 3) := by decide +kernel
theorem d_D_count_84 : decode prog_1_method_33_code 84 = .ok (.getfield 133, 3) := by decide +kernel
theorem d_D_count_87 : decode prog_1_method_33_code 87 = .ok (.ireturn, 1) := by decide +kernel
theorem d_D_count_88 : decode prog_1_method_33_code 88 = .ok (.aload_n 0, 1) := by decide +kernel
theorem d_D_count_89 : decode prog_1_method_33_code 89 = .ok (.getfield 45, 3) := by decide +kernel
theorem d_D_count_92 : decode prog_1_method_33_code 92 = .ok (.invokevirtual 297, 3) := by decide +kernel
theorem d_D_count_95 : decode prog_1_method_33_code 95 = .ok (.ireturn, 1) := by decide +kernel
theorem d_D_count_96 : decode prog_1_method_33_code 96 = .ok (.aload_n 0, 1) := by decide +kernel
theorem d_D_count_97 : decode prog_1_method_33_code 97 = .ok (.getfield 45, 3) := by decide +kernel
theorem d_D_count_100 : decode prog_1_method_33_code 100 = .ok (.getfield 164, 3) := by decide +kernel
theorem d_D_count_103 : decode prog_1_method_33_code 103 = .ok (.ireturn, 1) := by decide +kernel
theorem d_D_count_104 : decode prog_1_method_33_code 104 = .ok (.aload_n 0, 1) := by decide +kernel
theorem d_D_count_105 : decode prog_1_method_33_code 105 = .ok (.getfield 45, 3) := by decide +kernel
theorem d_D_count_108 : decode prog_1_method_33_code 108 = .ok (.getfield 315, 3) := by decide +kernel
theorem d_D_count_111 : decode prog_1_method_33_code 111 = .ok (.ireturn, 1) := by decide +kernel
theorem d_D_count_112 : decode prog_1_method_33_code 112 = .ok (.aload_n 0, 1) := by decide +kernel
theorem d_D_count_113 : decode prog_1_method_33_code 113 = .ok (.getfield 25, 3) := by decide +kernel
theorem d_D_count_116 : decode prog_1_method_33_code 116 = .ok (.getfield 263, 3) := by decide +kernel
theorem d_D_count_119 : decode prog_1_method_33_code 119 = .ok (.ireturn, 1) := by decide +kernel
theorem d_D_count_120 : decode prog_1_method_33_code 120 = .ok (.aload_n 0, 1) := by decide +kernel
theorem d_D_count_121 : decode prog_1_method_33_code 121 = .ok (.getfield 25, 3) := by decide +kernel
theorem d_D_count_124 : decode prog_1_method_33_code 124 = .ok (.getfield 242, 3) := by decide +kernel
theorem d_D_count_127 : decode prog_1_method_33_code 127 = .ok (.ireturn, 1) := by decide +kernel
theorem d_D_count_128 : decode prog_1_method_33_code 128 = .ok (.aload_n 0, 1) := by decide +kernel
theorem d_D_count_129 : decode prog_1_method_33_code 129 = .ok (.getfield 25, 3) := by decide +kernel
theorem d_D_count_132 : decode prog_1_method_33_code 132 = .ok (.getfield 121, 3) := by decide +kernel
theorem d_D_count_135 : decode prog_1_method_33_code 135 = .ok (.ireturn, 1) := by decide +kernel
theorem d_D_count_136 : decode prog_1_method_33_code 136 = .ok (.aload_n 0, 1) := by decide +kernel
theorem d_D_count_137 : decode prog_1_method_33_code 137 = .ok (.getfield 104, 3) := by decide +kernel
theorem d_D_count_140 : decode prog_1_method_33_code 140 = .ok (.ireturn, 1) := by decide +kernel
theorem d_D_count_141 : decode prog_1_method_33_code 141 = .ok (.aload_n 0, 1) := by decide +kernel
theorem d_D_count_142 : decode prog_1_method_33_code 142 = .ok (.getfield 25, 3) := by decide +kernel
theorem d_D_count_145 : decode prog_1_method_33_code 145 = .ok (.getfield 223, 3) := by decide +kernel
theorem d_D_count_148 : decode prog_1_method_33_code 148 = .ok (.ireturn, 1) := by decide +kernel
theorem d_D_count_149 : decode prog_1_method_33_code 149 = .ok (.aload_n 0, 1) := by decide +kernel
theorem d_D_count_150 : decode prog_1_method_33_code 150 = .ok (.getfield 25, 3) := by decide +kernel
theorem d_D_count_153 : decode prog_1_method_33_code 153 = .ok (.getfield 226, 3) := by decide +kernel
theorem d_D_count_156 : decode prog_1_method_33_code 156 = .ok (.ireturn, 1) := by decide +kernel
theorem d_D_count_157 : decode prog_1_method_33_code 157 = .ok (.iconst (-1), 1) := by decide +kernel
theorem d_D_count_158 : decode prog_1_method_33_code 158 = .ok (.ireturn, 1) := by decide +kernel
theorem d_D_image_0 : decode prog_1_method_34_code 0 = .ok (.iload_n 1, 1) := by decide +kernel
theorem d_D_image_1 : decode prog_1_method_34_code 1 = .ok (.ifCond .lt 8, 3) := by decide +kernel
theorem d_D_image_4 : decode prog_1_method_34_code 4 = .ok (.iload_n 1, 1) := by decide +kernel
theorem d_D_image_5 : decode prog_1_method_34_code 5 = .ok (.iconst 4, 1) := by decide +kernel
theorem d_D_image_6 : decode prog_1_method_34_code 6 = .ok (.if_icmp .lt 5, 3) := by decide +kernel
theorem d_D_image_9 : decode prog_1_method_34_code 9 = .ok (.iconst (-1), 1) := by decide +kernel
theorem d_D_image_10 : decode prog_1_method_34_code 10 = .ok (.ireturn, 1) := by decide +kernel
theorem d_D_image_11 : decode prog_1_method_34_code 11 = .ok (.aload_n 0, 1) := by decide +kernel
theorem d_D_image_12 : decode prog_1_method_34_code 12 = .ok (.getfield 32, 3) := by decide +kernel
theorem d_D_image_15 : decode prog_1_method_34_code 15 = .ok (.iload_n 1, 1) := by decide +kernel
theorem d_D_image_16 : decode prog_1_method_34_code 16 = .ok (.aaload, 1) := by decide +kernel
theorem d_D_image_17 : decode prog_1_method_34_code 17 = .ok (.aload_n 0, 1) := by decide +kernel
theorem d_D_image_18 : decode prog_1_method_34_code 18 = .ok (.getfield 25, 3) := by decide +kernel
theorem d_D_image_21 : decode prog_1_method_34_code 21 = .ok (.invokevirtual 124, 3) := by decide +kernel
theorem d_D_image_24 : decode prog_1_method_34_code 24 = .ok (.aload_n 0, 1) := by decide +kernel
theorem d_D_image_25 : decode prog_1_method_34_code 25 = .ok (.getfield 36, 3) := by decide +kernel
theorem d_D_image_28 : decode prog_1_method_34_code 28 = .ok (.iload_n 1, 1) := by decide +kernel
theorem d_D_image_29 : decode prog_1_method_34_code 29 = .ok (.iconst 1, 1) := by decide +kernel
theorem d_D_image_30 : decode prog_1_method_34_code 30 = .ok (.bastore, 1) := by decide +kernel
theorem d_D_image_31 : decode prog_1_method_34_code 31 = .ok (.aload_n 0, 1) := by decide +kernel
theorem d_D_image_32 : decode prog_1_method_34_code 32 = .ok (.getfield 45, 3) := by decide +kernel
theorem d_D_image_35 : decode prog_1_method_34_code 35 = .ok (.invokevirtual 297, 3) := by decide +kernel
theorem d_D_image_38 : decode prog_1_method_34_code 38 = .ok (.ireturn, 1) := by decide +kernel
theorem d_D_back_0 : decode prog_1_method_35_code 0 = .ok (.iload_n 1, 1) := by decide +kernel
theorem d_D_back_1 : decode prog_1_method_35_code 1 = .ok (.ifCond .lt 17, 3) := by decide +kernel
theorem d_D_back_4 : decode prog_1_method_35_code 4 = .ok (.iload_n 1, 1) := by decide +kernel
theorem d_D_back_5 : decode prog_1_method_35_code 5 = .ok (.iconst 4, 1) := by decide +kernel
theorem d_D_back_6 : decode prog_1_method_35_code 6 = .ok (.if_icmp .ge 12, 3) := by decide +kernel
theorem d_D_back_9 : decode prog_1_method_35_code 9 = .ok (.aload_n 0, 1) := by decide +kernel
theorem d_D_back_10 : decode prog_1_method_35_code 10 = .ok (.getfield 36, 3) := by decide +kernel
theorem d_D_back_13 : decode prog_1_method_35_code 13 = .ok (.iload_n 1, 1) := by decide +kernel
theorem d_D_back_14 : decode prog_1_method_35_code 14 = .ok (.baload, 1) := by decide +kernel
theorem d_D_back_15 : decode prog_1_method_35_code 15 = .ok (.ifCond .ne 5, 3) := by decide +kernel
theorem d_D_back_18 : decode prog_1_method_35_code 18 = .ok (.iconst (-1), 1) := by decide +kernel
theorem d_D_back_19 : decode prog_1_method_35_code 19 = .ok (.ireturn, 1) := by decide +kernel
theorem d_D_back_20 : decode prog_1_method_35_code 20 = .ok (.aload_n 0, 1) := by decide +kernel
theorem d_D_back_21 : decode prog_1_method_35_code 21 = .ok (.getfield 25, 3) := by decide +kernel
theorem d_D_back_24 : decode prog_1_method_35_code 24 = .ok (.aload_n 0, 1) := by decide +kernel
theorem d_D_back_25 : decode prog_1_method_35_code 25 = .ok (.getfield 32, 3) := by decide +kernel
theorem d_D_back_28 : decode prog_1_method_35_code 28 = .ok (.iload_n 1, 1) := by decide +kernel
theorem d_D_back_29 : decode prog_1_method_35_code 29 = .ok (.aaload, 1) := by decide +kernel
theorem d_D_back_30 : decode prog_1_method_35_code 30 = .ok (.invokevirtual 124, 3) := by decide +kernel
theorem d_D_back_33 : decode prog_1_method_35_code 33 = .ok (.aload_n 0, 1) := by decide +kernel
theorem d_D_back_34 : decode prog_1_method_35_code 34 = .ok (.getfield 45, 3) := by decide +kernel
theorem d_D_back_37 : decode prog_1_method_35_code 37 = .ok (.invokevirtual 127, 3) := by decide +kernel
theorem d_D_back_40 : decode prog_1_method_35_code 40 = .ok (.aload_n 0, 1) := by decide +kernel
theorem d_D_back_41 : decode prog_1_method_35_code 41 = .ok (.getfield 45, 3) := by decide +kernel
theorem d_D_back_44 : decode prog_1_method_35_code 44 = .ok (.invokevirtual 297, 3) := by decide +kernel
theorem d_D_back_47 : decode prog_1_method_35_code 47 = .ok (.ireturn, 1) := by decide +kernel
theorem d_D_isPart_0 : decode prog_1_method_36_code 0 = .ok (.iload_n 0, 1) := by decide +kernel
theorem d_D_isPart_1 : decode prog_1_method_36_code 1 = .ok (.ifCond .eq 8, 3) := by decide +kernel
theorem d_D_isPart_4 : decode prog_1_method_36_code 4 = .ok (.iload_n 0, 1) := by decide +kernel
theorem d_D_isPart_5 : decode prog_1_method_36_code 5 = .ok (.iconst 1, 1) := by decide +kernel
theorem d_D_isPart_6 : decode prog_1_method_36_code 6 = .ok (.if_icmp .ne 7, 3) := by decide +kernel
theorem d_D_isPart_9 : decode prog_1_method_36_code 9 = .ok (.iconst 1, 1) := by decide +kernel
theorem d_D_isPart_10 : decode prog_1_method_36_code 10 = .ok (.goto 4, 3) := by decide +kernel
theorem d_D_isPart_13 : decode prog_1_method_36_code 13 = .ok (.iconst 0, 1) := by decide +kernel
theorem d_D_isPart_14 : decode prog_1_method_36_code 14 = .ok (.ireturn, 1) := by decide +kernel
theorem d_D_isWithin_0 : decode prog_1_method_37_code 0 = .ok (.iload_n 0, 1) := by decide +kernel
theorem d_D_isWithin_1 : decode prog_1_method_37_code 1 = .ok (.iload_n 1, 1) := by decide +kernel
theorem d_D_isWithin_2 : decode prog_1_method_37_code 2 = .ok (.ineg, 1) := by decide +kernel
theorem d_D_isWithin_3 : decode prog_1_method_37_code 3 = .ok (.if_icmp .lt 12, 3) := by decide +kernel
theorem d_D_isWithin_6 : decode prog_1_method_37_code 6 = .ok (.iload_n 0, 1) := by decide +kernel
theorem d_D_isWithin_7 : decode prog_1_method_37_code 7 = .ok (.iload_n 1, 1) := by decide +kernel
theorem d_D_isWithin_8 : decode prog_1_method_37_code 8 = .ok (.if_icmp .gt 7, 3) := by decide +kernel
theorem d_D_isWithin_11 : decode prog_1_method_37_code 11 = .ok (.iconst 1, 1) := by decide +kernel
theorem d_D_isWithin_12 : decode prog_1_method_37_code 12 = .ok (.goto 4, 3) := by decide +kernel
theorem d_D_isWithin_15 : decode prog_1_method_37_code 15 = .ok (.iconst 0, 1) := by decide +kernel
theorem d_D_isWithin_16 : decode prog_1_method_37_code 16 = .ok (.ireturn, 1) := by decide +kernel
theorem d_D_bitOf_0 : decode prog_1_method_38_code 0 = .ok (.iload_n 0, 1) := by decide +kernel
theorem d_D_bitOf_1 : decode prog_1_method_38_code 1 = .ok (.iload_n 1, 1) := by decide +kernel
theorem d_D_bitOf_2 : decode prog_1_method_38_code 2 = .ok (.iushr, 1) := by decide +kernel
theorem d_D_bitOf_3 : decode prog_1_method_38_code 3 = .ok (.iconst 1, 1) := by decide +kernel
theorem d_D_bitOf_4 : decode prog_1_method_38_code 4 = .ok (.iand, 1) := by decide +kernel
theorem d_D_bitOf_5 : decode prog_1_method_38_code 5 = .ok (.ireturn, 1) := by decide +kernel
theorem d_D_divisorOf_0 : decode prog_1_method_39_code 0 = .ok (.lload_n 0, 1) := by decide +kernel
theorem d_D_divisorOf_1 : decode prog_1_method_39_code 1 = .ok (.invokestatic 252, 3) := by decide +kernel
theorem d_D_divisorOf_4 : decode prog_1_method_39_code 4 = .ok (.lstore 4, 2) := by decide +kernel
theorem d_D_divisorOf_6 : decode prog_1_method_39_code 6 = .ok (.lload_n 2, 1) := by decide +kernel
theorem d_D_divisorOf_7 : decode prog_1_method_39_code 7 = .ok (.invokestatic 252, 3) := by decide +kernel
theorem d_D_divisorOf_10 : decode prog_1_method_39_code 10 = .ok (.lstore 6, 2) := by decide +kernel
theorem d_D_divisorOf_12 : decode prog_1_method_39_code 12 = .ok (.iconst 0, 1) := by decide +kernel
theorem d_D_divisorOf_13 : decode prog_1_method_39_code 13 = .ok (.istore 8, 2) := by decide +kernel
theorem d_D_divisorOf_15 : decode prog_1_method_39_code 15 = .ok (.iload 8, 2) := by decide +kernel
theorem d_D_divisorOf_17 : decode prog_1_method_39_code 17 = .ok (.sipush 200, 3) := by decide +kernel
theorem d_D_divisorOf_20 : decode prog_1_method_39_code 20 = .ok (.if_icmp .ge 31, 3) := by decide +kernel
theorem d_D_divisorOf_23 : decode prog_1_method_39_code 23 = .ok (.lload 6, 2) := by decide +kernel
theorem d_D_divisorOf_25 : decode prog_1_method_39_code 25 = .ok (.lconst 0, 1) := by decide +kernel
theorem d_D_divisorOf_26 : decode prog_1_method_39_code 26 = .ok (.lcmp, 1) := by decide +kernel
theorem d_D_divisorOf_27 : decode prog_1_method_39_code 27 = .ok (.ifCond .eq 24, 3) := by decide +kernel
theorem d_D_divisorOf_30 : decode prog_1_method_39_code 30 = .ok (.lload 4, 2) := by decide +kernel
theorem d_D_divisorOf_32 : decode prog_1_method_39_code 32 = .ok (.lload 6, 2) := by decide +kernel
theorem d_D_divisorOf_34 : decode prog_1_method_39_code 34 = .ok (.lrem, 1) := by decide +kernel
theorem d_D_divisorOf_35 : decode prog_1_method_39_code 35 = .ok (.lstore 9, 2) := by decide +kernel
theorem d_D_divisorOf_37 : decode prog_1_method_39_code 37 = .ok (.lload 6, 2) := by decide +kernel
theorem d_D_divisorOf_39 : decode prog_1_method_39_code 39 = .ok (.lstore 4, 2) := by decide +kernel
theorem d_D_divisorOf_41 : decode prog_1_method_39_code 41 = .ok (.lload 9, 2) := by decide +kernel
theorem d_D_divisorOf_43 : decode prog_1_method_39_code 43 = .ok (.lstore 6, 2) := by decide +kernel
theorem d_D_divisorOf_45 : decode prog_1_method_39_code 45 = .ok (.iinc 8 1, 3) := by decide +kernel
theorem d_D_divisorOf_48 : decode prog_1_method_39_code 48 = .ok (.goto (-33), 3) := by decide +kernel
theorem d_D_divisorOf_51 : decode prog_1_method_39_code 51 = .ok (.lload 4, 2) := by decide +kernel
theorem d_D_divisorOf_53 : decode prog_1_method_39_code 53 = .ok (.lconst 0, 1) := by decide +kernel
theorem d_D_divisorOf_54 : decode prog_1_method_39_code 54 = .ok (.lcmp, 1) := by decide +kernel
theorem d_D_divisorOf_55 : decode prog_1_method_39_code 55 = .ok (.ifCond .ne 7, 3) := by decide +kernel
theorem d_D_divisorOf_58 : decode prog_1_method_39_code 58 = .ok (.lconst 1, 1) := by decide +kernel
theorem d_D_divisorOf_59 : decode prog_1_method_39_code 59 = .ok (.goto 5, 3) := by decide +kernel
theorem d_D_divisorOf_62 : decode prog_1_method_39_code 62 = .ok (.lload 4, 2) := by decide +kernel
theorem d_D_divisorOf_64 : decode prog_1_method_39_code 64 = .ok (.lreturn, 1) := by decide +kernel
theorem d_D_lowest_0 : decode prog_1_method_40_code 0 = .ok (.iload 4, 2) := by decide +kernel
theorem d_D_lowest_2 : decode prog_1_method_40_code 2 = .ok (.ifCond .ne 7, 3) := by decide +kernel
theorem d_D_lowest_5 : decode prog_1_method_40_code 5 = .ok (.lload_n 0, 1) := by decide +kernel
theorem d_D_lowest_6 : decode prog_1_method_40_code 6 = .ok (.goto 4, 3) := by decide +kernel
theorem d_D_lowest_9 : decode prog_1_method_40_code 9 = .ok (.lload_n 2, 1) := by decide +kernel
theorem d_D_lowest_10 : decode prog_1_method_40_code 10 = .ok (.lload_n 0, 1) := by decide +kernel
theorem d_D_lowest_11 : decode prog_1_method_40_code 11 = .ok (.lload_n 2, 1) := by decide +kernel
theorem d_D_lowest_12 : decode prog_1_method_40_code 12 = .ok (.invokestatic 318, 3) := by decide +kernel
theorem d_D_lowest_15 : decode prog_1_method_40_code 15 = .ok (.ldiv, 1) := by decide +kernel
theorem d_D_lowest_16 : decode prog_1_method_40_code 16 = .ok (.lreturn, 1) := by decide +kernel
