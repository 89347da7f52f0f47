theorem gD_Sc_37_12 : GI YD "DoorsOnCogs$Scene" 37 12 0 none := ⟨by decide, _, _, _, fl_Sc_37, cD_12, by decide, rfl⟩
theorem pD_Sc_37_3 : PI YD "DoorsOnCogs$Scene" 37 3 0 none .int := ⟨by decide, _, _, _, fl_Sc_37, fp_6_0, cD_3, by decide, rfl⟩
theorem gD_Sc_41_12 : GI YD "DoorsOnCogs$Scene" 41 12 3 none := ⟨by decide, _, _, _, fl_Sc_41, cD_12, by decide, rfl⟩
theorem pD_Sc_41_3 : PI YD "DoorsOnCogs$Scene" 41 3 3 none .int := ⟨by decide, _, _, _, fl_Sc_41, fp_6_3, cD_3, by decide, rfl⟩
theorem gD_Sc_44_12 : GI YD "DoorsOnCogs$Scene" 44 12 4 none := ⟨by decide, _, _, _, fl_Sc_44, cD_12, by decide, rfl⟩
theorem pD_Sc_44_3 : PI YD "DoorsOnCogs$Scene" 44 3 4 none .int := ⟨by decide, _, _, _, fl_Sc_44, fp_6_4, cD_3, by decide, rfl⟩
theorem gD_Sc_47_12 : GI YD "DoorsOnCogs$Scene" 47 12 5 none := ⟨by decide, _, _, _, fl_Sc_47, cD_12, by decide, rfl⟩
theorem pD_Sc_47_3 : PI YD "DoorsOnCogs$Scene" 47 3 5 none .int := ⟨by decide, _, _, _, fl_Sc_47, fp_6_5, cD_3, by decide, rfl⟩
theorem gD_Sc_56_12 : GI YD "DoorsOnCogs$Scene" 56 12 10 none := ⟨by decide, _, _, _, fl_Sc_56, cD_12, by decide, rfl⟩
theorem pD_Sc_56_3 : PI YD "DoorsOnCogs$Scene" 56 3 10 none .int := ⟨by decide, _, _, _, fl_Sc_56, fp_6_10, cD_3, by decide, rfl⟩
theorem gD_Sc_59_12 : GI YD "DoorsOnCogs$Scene" 59 12 11 none := ⟨by decide, _, _, _, fl_Sc_59, cD_12, by decide, rfl⟩
theorem pD_Sc_59_3 : PI YD "DoorsOnCogs$Scene" 59 3 11 none .int := ⟨by decide, _, _, _, fl_Sc_59, fp_6_11, cD_3, by decide, rfl⟩
theorem gD_Sc_62_12 : GI YD "DoorsOnCogs$Scene" 62 12 12 none := ⟨by decide, _, _, _, fl_Sc_62, cD_12, by decide, rfl⟩
theorem pD_Sc_62_3 : PI YD "DoorsOnCogs$Scene" 62 3 12 none .int := ⟨by decide, _, _, _, fl_Sc_62, fp_6_12, cD_3, by decide, rfl⟩
theorem gD_Sc_65_12 : GI YD "DoorsOnCogs$Scene" 65 12 14 none := ⟨by decide, _, _, _, fl_Sc_65, cD_12, by decide, rfl⟩
theorem pD_Sc_65_3 : PI YD "DoorsOnCogs$Scene" 65 3 14 none .int := ⟨by decide, _, _, _, fl_Sc_65, fp_6_14, cD_3, by decide, rfl⟩
theorem gD_Sc_68_12 : GI YD "DoorsOnCogs$Scene" 68 12 16 none := ⟨by decide, _, _, _, fl_Sc_68, cD_12, by decide, rfl⟩
theorem pD_Sc_68_3 : PI YD "DoorsOnCogs$Scene" 68 3 16 none .int := ⟨by decide, _, _, _, fl_Sc_68, fp_6_16, cD_3, by decide, rfl⟩
theorem gD_Sc_9_12 : GI YD "DoorsOnCogs$Scene" 9 12 1 (some (some 13)) := ⟨by decide, _, _, _, fl_Sc_9, cD_12, by decide, rfl⟩
theorem gD_Sc_9_3 : GI YD "DoorsOnCogs$Scene" 9 3 1 (some (some 4)) := ⟨by decide, _, _, _, fl_Sc_9, cD_3, by decide, rfl⟩
theorem aD_13 : AI YD 13 (.int) 12 := ⟨by decide, cD_13, by decide⟩
theorem gD_Sc_15_12 : GI YD "DoorsOnCogs$Scene" 15 12 2 (some (some 14)) := ⟨by decide, _, _, _, fl_Sc_15, cD_12, by decide, rfl⟩
theorem gD_Sc_15_3 : GI YD "DoorsOnCogs$Scene" 15 3 2 (some (some 5)) := ⟨by decide, _, _, _, fl_Sc_15, cD_3, by decide, rfl⟩
theorem aD_14 : AI YD 14 (.int) 12 := ⟨by decide, cD_14, by decide⟩
theorem gD_Sc_18_12 : GI YD "DoorsOnCogs$Scene" 18 12 6 (some (some 15)) := ⟨by decide, _, _, _, fl_Sc_18, cD_12, by decide, rfl⟩
theorem gD_Sc_18_3 : GI YD "DoorsOnCogs$Scene" 18 3 6 (some (some 6)) := ⟨by decide, _, _, _, fl_Sc_18, cD_3, by decide, rfl⟩
theorem aD_15 : AI YD 15 (.int) 16 := ⟨by decide, cD_15, by decide⟩
theorem gD_Sc_21_12 : GI YD "DoorsOnCogs$Scene" 21 12 7 (some (some 16)) := ⟨by decide, _, _, _, fl_Sc_21, cD_12, by decide, rfl⟩
theorem gD_Sc_21_3 : GI YD "DoorsOnCogs$Scene" 21 3 7 (some (some 7)) := ⟨by decide, _, _, _, fl_Sc_21, cD_3, by decide, rfl⟩
theorem aD_16 : AI YD 16 (.int) 16 := ⟨by decide, cD_16, by decide⟩
theorem gD_Sc_24_12 : GI YD "DoorsOnCogs$Scene" 24 12 8 (some (some 17)) := ⟨by decide, _, _, _, fl_Sc_24, cD_12, by decide, rfl⟩
theorem gD_Sc_24_3 : GI YD "DoorsOnCogs$Scene" 24 3 8 (some (some 8)) := ⟨by decide, _, _, _, fl_Sc_24, cD_3, by decide, rfl⟩
theorem aD_17 : AI YD 17 (.int) 16 := ⟨by decide, cD_17, by decide⟩
theorem gD_Sc_27_12 : GI YD "DoorsOnCogs$Scene" 27 12 9 (some (some 18)) := ⟨by decide, _, _, _, fl_Sc_27, cD_12, by decide, rfl⟩
theorem gD_Sc_27_3 : GI YD "DoorsOnCogs$Scene" 27 3 9 (some (some 9)) := ⟨by decide, _, _, _, fl_Sc_27, cD_3, by decide, rfl⟩
theorem aD_18 : AI YD 18 (.long) 12 := ⟨by decide, cD_18, by decide⟩
theorem gD_Sc_31_12 : GI YD "DoorsOnCogs$Scene" 31 12 13 (some (some 19)) := ⟨by decide, _, _, _, fl_Sc_31, cD_12, by decide, rfl⟩
theorem gD_Sc_31_3 : GI YD "DoorsOnCogs$Scene" 31 3 13 (some (some 10)) := ⟨by decide, _, _, _, fl_Sc_31, cD_3, by decide, rfl⟩
theorem aD_19 : AI YD 19 (.int) 12 := ⟨by decide, cD_19, by decide⟩
theorem gD_Sc_34_12 : GI YD "DoorsOnCogs$Scene" 34 12 15 (some (some 20)) := ⟨by decide, _, _, _, fl_Sc_34, cD_12, by decide, rfl⟩
theorem gD_Sc_34_3 : GI YD "DoorsOnCogs$Scene" 34 3 15 (some (some 11)) := ⟨by decide, _, _, _, fl_Sc_34, cD_3, by decide, rfl⟩
theorem aD_20 : AI YD 20 (.int) 40 := ⟨by decide, cD_20, by decide⟩
theorem pD_Sc_37_22 : PI YD "DoorsOnCogs$Scene" 37 22 0 none .int := ⟨by decide, _, _, _, fl_Sc_37, fp_6_0, cD_22, by decide, rfl⟩
theorem gD_Sc_41_3 : GI YD "DoorsOnCogs$Scene" 41 3 3 none := ⟨by decide, _, _, _, fl_Sc_41, cD_3, by decide, rfl⟩
theorem pD_Sc_41_22 : PI YD "DoorsOnCogs$Scene" 41 22 3 none .int := ⟨by decide, _, _, _, fl_Sc_41, fp_6_3, cD_22, by decide, rfl⟩
theorem gD_Sc_44_3 : GI YD "DoorsOnCogs$Scene" 44 3 4 none := ⟨by decide, _, _, _, fl_Sc_44, cD_3, by decide, rfl⟩
theorem pD_Sc_44_22 : PI YD "DoorsOnCogs$Scene" 44 22 4 none .int := ⟨by decide, _, _, _, fl_Sc_44, fp_6_4, cD_22, by decide, rfl⟩
theorem gD_Sc_47_3 : GI YD "DoorsOnCogs$Scene" 47 3 5 none := ⟨by decide, _, _, _, fl_Sc_47, cD_3, by decide, rfl⟩
theorem pD_Sc_47_22 : PI YD "DoorsOnCogs$Scene" 47 22 5 none .int := ⟨by decide, _, _, _, fl_Sc_47, fp_6_5, cD_22, by decide, rfl⟩
theorem gD_Sc_56_3 : GI YD "DoorsOnCogs$Scene" 56 3 10 none := ⟨by decide, _, _, _, fl_Sc_56, cD_3, by decide, rfl⟩
theorem pD_Sc_56_22 : PI YD "DoorsOnCogs$Scene" 56 22 10 none .int := ⟨by decide, _, _, _, fl_Sc_56, fp_6_10, cD_22, by decide, rfl⟩
theorem gD_Sc_59_3 : GI YD "DoorsOnCogs$Scene" 59 3 11 none := ⟨by decide, _, _, _, fl_Sc_59, cD_3, by decide, rfl⟩
theorem pD_Sc_59_22 : PI YD "DoorsOnCogs$Scene" 59 22 11 none .int := ⟨by decide, _, _, _, fl_Sc_59, fp_6_11, cD_22, by decide, rfl⟩
theorem gD_Sc_62_3 : GI YD "DoorsOnCogs$Scene" 62 3 12 none := ⟨by decide, _, _, _, fl_Sc_62, cD_3, by decide, rfl⟩
theorem pD_Sc_62_22 : PI YD "DoorsOnCogs$Scene" 62 22 12 none .int := ⟨by decide, _, _, _, fl_Sc_62, fp_6_12, cD_22, by decide, rfl⟩
theorem gD_Sc_65_3 : GI YD "DoorsOnCogs$Scene" 65 3 14 none := ⟨by decide, _, _, _, fl_Sc_65, cD_3, by decide, rfl⟩
theorem pD_Sc_65_22 : PI YD "DoorsOnCogs$Scene" 65 22 14 none .int := ⟨by decide, _, _, _, fl_Sc_65, fp_6_14, cD_22, by decide, rfl⟩
theorem gD_Sc_68_3 : GI YD "DoorsOnCogs$Scene" 68 3 16 none := ⟨by decide, _, _, _, fl_Sc_68, cD_3, by decide, rfl⟩
theorem pD_Sc_68_22 : PI YD "DoorsOnCogs$Scene" 68 22 16 none .int := ⟨by decide, _, _, _, fl_Sc_68, fp_6_16, cD_22, by decide, rfl⟩
theorem gD_Sc_9_22 : GI YD "DoorsOnCogs$Scene" 9 22 1 (some (some 23)) := ⟨by decide, _, _, _, fl_Sc_9, cD_22, by decide, rfl⟩
theorem aD_23 : AI YD 23 (.int) 12 := ⟨by decide, cD_23, by decide⟩
theorem gD_Sc_15_22 : GI YD "DoorsOnCogs$Scene" 15 22 2 (some (some 24)) := ⟨by decide, _, _, _, fl_Sc_15, cD_22, by decide, rfl⟩
theorem aD_24 : AI YD 24 (.int) 12 := ⟨by decide, cD_24, by decide⟩
theorem gD_Sc_18_22 : GI YD "DoorsOnCogs$Scene" 18 22 6 (some (some 25)) := ⟨by decide, _, _, _, fl_Sc_18, cD_22, by decide, rfl⟩
theorem aD_25 : AI YD 25 (.int) 16 := ⟨by decide, cD_25, by decide⟩
theorem gD_Sc_21_22 : GI YD "DoorsOnCogs$Scene" 21 22 7 (some (some 26)) := ⟨by decide, _, _, _, fl_Sc_21, cD_22, by decide, rfl⟩
theorem aD_26 : AI YD 26 (.int) 16 := ⟨by decide, cD_26, by decide⟩
theorem gD_Sc_24_22 : GI YD "DoorsOnCogs$Scene" 24 22 8 (some (some 27)) := ⟨by decide, _, _, _, fl_Sc_24, cD_22, by decide, rfl⟩
theorem aD_27 : AI YD 27 (.int) 16 := ⟨by decide, cD_27, by decide⟩
theorem gD_Sc_27_22 : GI YD "DoorsOnCogs$Scene" 27 22 9 (some (some 28)) := ⟨by decide, _, _, _, fl_Sc_27, cD_22, by decide, rfl⟩
theorem aD_28 : AI YD 28 (.long) 12 := ⟨by decide, cD_28, by decide⟩
theorem gD_Sc_31_22 : GI YD "DoorsOnCogs$Scene" 31 22 13 (some (some 29)) := ⟨by decide, _, _, _, fl_Sc_31, cD_22, by decide, rfl⟩
theorem aD_29 : AI YD 29 (.int) 12 := ⟨by decide, cD_29, by decide⟩
theorem gD_Sc_34_22 : GI YD "DoorsOnCogs$Scene" 34 22 15 (some (some 30)) := ⟨by decide, _, _, _, fl_Sc_34, cD_22, by decide, rfl⟩
theorem aD_30 : AI YD 30 (.int) 40 := ⟨by decide, cD_30, by decide⟩
theorem pD_Sc_37_31 : PI YD "DoorsOnCogs$Scene" 37 31 0 none .int := ⟨by decide, _, _, _, fl_Sc_37, fp_6_0, cD_31, by decide, rfl⟩
theorem pD_Sc_41_31 : PI YD "DoorsOnCogs$Scene" 41 31 3 none .int := ⟨by decide, _, _, _, fl_Sc_41, fp_6_3, cD_31, by decide, rfl⟩
theorem pD_Sc_44_31 : PI YD "DoorsOnCogs$Scene" 44 31 4 none .int := ⟨by decide, _, _, _, fl_Sc_44, fp_6_4, cD_31, by decide, rfl⟩
theorem pD_Sc_47_31 : PI YD "DoorsOnCogs$Scene" 47 31 5 none .int := ⟨by decide, _, _, _, fl_Sc_47, fp_6_5, cD_31, by decide, rfl⟩
theorem pD_Sc_56_31 : PI YD "DoorsOnCogs$Scene" 56 31 10 none .int := ⟨by decide, _, _, _, fl_Sc_56, fp_6_10, cD_31, by decide, rfl⟩
theorem pD_Sc_59_31 : PI YD "DoorsOnCogs$Scene" 59 31 11 none .int := ⟨by decide, _, _, _, fl_Sc_59, fp_6_11, cD_31, by decide, rfl⟩
theorem pD_Sc_62_31 : PI YD "DoorsOnCogs$Scene" 62 31 12 none .int := ⟨by decide, _, _, _, fl_Sc_62, fp_6_12, cD_31, by decide, rfl⟩
theorem pD_Sc_65_31 : PI YD "DoorsOnCogs$Scene" 65 31 14 none .int := ⟨by decide, _, _, _, fl_Sc_65, fp_6_14, cD_31, by decide, rfl⟩
theorem pD_Sc_68_31 : PI YD "DoorsOnCogs$Scene" 68 31 16 none .int := ⟨by decide, _, _, _, fl_Sc_68, fp_6_16, cD_31, by decide, rfl⟩
theorem gD_Sc_9_31 : GI YD "DoorsOnCogs$Scene" 9 31 1 (some (some 32)) := ⟨by decide, _, _, _, fl_Sc_9, cD_31, by decide, rfl⟩
theorem aD_32 : AI YD 32 (.int) 12 := ⟨by decide, cD_32, by decide⟩
theorem gD_Sc_15_31 : GI YD "DoorsOnCogs$Scene" 15 31 2 (some (some 33)) := ⟨by decide, _, _, _, fl_Sc_15, cD_31, by decide, rfl⟩
theorem aD_33 : AI YD 33 (.int) 12 := ⟨by decide, cD_33, by decide⟩
theorem gD_Sc_18_31 : GI YD "DoorsOnCogs$Scene" 18 31 6 (some (some 34)) := ⟨by decide, _, _, _, fl_Sc_18, cD_31, by decide, rfl⟩
theorem aD_34 : AI YD 34 (.int) 16 := ⟨by decide, cD_34, by decide⟩
theorem gD_Sc_21_31 : GI YD "DoorsOnCogs$Scene" 21 31 7 (some (some 35)) := ⟨by decide, _, _, _, fl_Sc_21, cD_31, by decide, rfl⟩
theorem aD_35 : AI YD 35 (.int) 16 := ⟨by decide, cD_35, by decide⟩
theorem gD_Sc_24_31 : GI YD "DoorsOnCogs$Scene" 24 31 8 (some (some 36)) := ⟨by decide, _, _, _, fl_Sc_24, cD_31, by decide, rfl⟩
theorem aD_36 : AI YD 36 (.int) 16 := ⟨by decide, cD_36, by decide⟩
theorem gD_Sc_27_31 : GI YD "DoorsOnCogs$Scene" 27 31 9 (some (some 37)) := ⟨by decide, _, _, _, fl_Sc_27, cD_31, by decide, rfl⟩
theorem aD_37 : AI YD 37 (.long) 12 := ⟨by decide, cD_37, by decide⟩
theorem gD_Sc_31_31 : GI YD "DoorsOnCogs$Scene" 31 31 13 (some (some 38)) := ⟨by decide, _, _, _, fl_Sc_31, cD_31, by decide, rfl⟩
theorem aD_38 : AI YD 38 (.int) 12 := ⟨by decide, cD_38, by decide⟩
theorem gD_Sc_34_31 : GI YD "DoorsOnCogs$Scene" 34 31 15 (some (some 39)) := ⟨by decide, _, _, _, fl_Sc_34, cD_31, by decide, rfl⟩
theorem aD_39 : AI YD 39 (.int) 40 := ⟨by decide, cD_39, by decide⟩
theorem pD_Sc_37_40 : PI YD "DoorsOnCogs$Scene" 37 40 0 none .int := ⟨by decide, _, _, _, fl_Sc_37, fp_6_0, cD_40, by decide, rfl⟩
theorem pD_Sc_41_40 : PI YD "DoorsOnCogs$Scene" 41 40 3 none .int := ⟨by decide, _, _, _, fl_Sc_41, fp_6_3, cD_40, by decide, rfl⟩
theorem pD_Sc_44_40 : PI YD "DoorsOnCogs$Scene" 44 40 4 none .int := ⟨by decide, _, _, _, fl_Sc_44, fp_6_4, cD_40, by decide, rfl⟩
theorem pD_Sc_47_40 : PI YD "DoorsOnCogs$Scene" 47 40 5 none .int := ⟨by decide, _, _, _, fl_Sc_47, fp_6_5, cD_40, by decide, rfl⟩
theorem pD_Sc_56_40 : PI YD "DoorsOnCogs$Scene" 56 40 10 none .int := ⟨by decide, _, _, _, fl_Sc_56, fp_6_10, cD_40, by decide, rfl⟩
theorem pD_Sc_59_40 : PI YD "DoorsOnCogs$Scene" 59 40 11 none .int := ⟨by decide, _, _, _, fl_Sc_59, fp_6_11, cD_40, by decide, rfl⟩
theorem pD_Sc_62_40 : PI YD "DoorsOnCogs$Scene" 62 40 12 none .int := ⟨by decide, _, _, _, fl_Sc_62, fp_6_12, cD_40, by decide, rfl⟩
theorem pD_Sc_65_40 : PI YD "DoorsOnCogs$Scene" 65 40 14 none .int := ⟨by decide, _, _, _, fl_Sc_65, fp_6_14, cD_40, by decide, rfl⟩
theorem pD_Sc_68_40 : PI YD "DoorsOnCogs$Scene" 68 40 16 none .int := ⟨by decide, _, _, _, fl_Sc_68, fp_6_16, cD_40, by decide, rfl⟩
theorem gD_Sc_9_40 : GI YD "DoorsOnCogs$Scene" 9 40 1 (some (some 41)) := ⟨by decide, _, _, _, fl_Sc_9, cD_40, by decide, rfl⟩
theorem aD_41 : AI YD 41 (.int) 12 := ⟨by decide, cD_41, by decide⟩
theorem gD_Sc_15_40 : GI YD "DoorsOnCogs$Scene" 15 40 2 (some (some 42)) := ⟨by decide, _, _, _, fl_Sc_15, cD_40, by decide, rfl⟩
theorem aD_42 : AI YD 42 (.int) 12 := ⟨by decide, cD_42, by decide⟩
theorem gD_Sc_18_40 : GI YD "DoorsOnCogs$Scene" 18 40 6 (some (some 43)) := ⟨by decide, _, _, _, fl_Sc_18, cD_40, by decide, rfl⟩
theorem aD_43 : AI YD 43 (.int) 16 := ⟨by decide, cD_43, by decide⟩
theorem gD_Sc_21_40 : GI YD "DoorsOnCogs$Scene" 21 40 7 (some (some 44)) := ⟨by decide, _, _, _, fl_Sc_21, cD_40, by decide, rfl⟩
theorem aD_44 : AI YD 44 (.int) 16 := ⟨by decide, cD_44, by decide⟩
theorem gD_Sc_24_40 : GI YD "DoorsOnCogs$Scene" 24 40 8 (some (some 45)) := ⟨by decide, _, _, _, fl_Sc_24, cD_40, by decide, rfl⟩
theorem aD_45 : AI YD 45 (.int) 16 := ⟨by decide, cD_45, by decide⟩
theorem gD_Sc_27_40 : GI YD "DoorsOnCogs$Scene" 27 40 9 (some (some 46)) := ⟨by decide, _, _, _, fl_Sc_27, cD_40, by decide, rfl⟩
theorem aD_46 : AI YD 46 (.long) 12 := ⟨by decide, cD_46, by decide⟩
theorem gD_Sc_31_40 : GI YD "DoorsOnCogs$Scene" 31 40 13 (some (some 47)) := ⟨by decide, _, _, _, fl_Sc_31, cD_40, by decide, rfl⟩
theorem aD_47 : AI YD 47 (.int) 12 := ⟨by decide, cD_47, by decide⟩
theorem gD_Sc_34_40 : GI YD "DoorsOnCogs$Scene" 34 40 15 (some (some 48)) := ⟨by decide, _, _, _, fl_Sc_34, cD_40, by decide, rfl⟩
theorem aD_48 : AI YD 48 (.int) 40 := ⟨by decide, cD_48, by decide⟩
theorem pD_Sc_37_49 : PI YD "DoorsOnCogs$Scene" 37 49 0 none .int := ⟨by decide, _, _, _, fl_Sc_37, fp_6_0, cD_49, by decide, rfl⟩
theorem pD_Sc_41_49 : PI YD "DoorsOnCogs$Scene" 41 49 3 none .int := ⟨by decide, _, _, _, fl_Sc_41, fp_6_3, cD_49, by decide, rfl⟩
theorem pD_Sc_44_49 : PI YD "DoorsOnCogs$Scene" 44 49 4 none .int := ⟨by decide, _, _, _, fl_Sc_44, fp_6_4, cD_49, by decide, rfl⟩
theorem pD_Sc_47_49 : PI YD "DoorsOnCogs$Scene" 47 49 5 none .int := ⟨by decide, _, _, _, fl_Sc_47, fp_6_5, cD_49, by decide, rfl⟩
theorem pD_Sc_56_49 : PI YD "DoorsOnCogs$Scene" 56 49 10 none .int := ⟨by decide, _, _, _, fl_Sc_56, fp_6_10, cD_49, by decide, rfl⟩
theorem pD_Sc_59_49 : PI YD "DoorsOnCogs$Scene" 59 49 11 none .int := ⟨by decide, _, _, _, fl_Sc_59, fp_6_11, cD_49, by decide, rfl⟩
theorem pD_Sc_62_49 : PI YD "DoorsOnCogs$Scene" 62 49 12 none .int := ⟨by decide, _, _, _, fl_Sc_62, fp_6_12, cD_49, by decide, rfl⟩
theorem pD_Sc_65_49 : PI YD "DoorsOnCogs$Scene" 65 49 14 none .int := ⟨by decide, _, _, _, fl_Sc_65, fp_6_14, cD_49, by decide, rfl⟩
theorem pD_Sc_68_49 : PI YD "DoorsOnCogs$Scene" 68 49 16 none .int := ⟨by decide, _, _, _, fl_Sc_68, fp_6_16, cD_49, by decide, rfl⟩
theorem gD_Sc_9_49 : GI YD "DoorsOnCogs$Scene" 9 49 1 (some (some 50)) := ⟨by decide, _, _, _, fl_Sc_9, cD_49, by decide, rfl⟩
theorem aD_50 : AI YD 50 (.int) 12 := ⟨by decide, cD_50, by decide⟩
theorem gD_Sc_15_49 : GI YD "DoorsOnCogs$Scene" 15 49 2 (some (some 51)) := ⟨by decide, _, _, _, fl_Sc_15, cD_49, by decide, rfl⟩
theorem aD_51 : AI YD 51 (.int) 12 := ⟨by decide, cD_51, by decide⟩
theorem gD_Sc_18_49 : GI YD "DoorsOnCogs$Scene" 18 49 6 (some (some 52)) := ⟨by decide, _, _, _, fl_Sc_18, cD_49, by decide, rfl⟩
theorem aD_52 : AI YD 52 (.int) 16 := ⟨by decide, cD_52, by decide⟩
theorem gD_Sc_21_49 : GI YD "DoorsOnCogs$Scene" 21 49 7 (some (some 53)) := ⟨by decide, _, _, _, fl_Sc_21, cD_49, by decide, rfl⟩
theorem aD_53 : AI YD 53 (.int) 16 := ⟨by decide, cD_53, by decide⟩
theorem gD_Sc_24_49 : GI YD "DoorsOnCogs$Scene" 24 49 8 (some (some 54)) := ⟨by decide, _, _, _, fl_Sc_24, cD_49, by decide, rfl⟩
theorem aD_54 : AI YD 54 (.int) 16 := ⟨by decide, cD_54, by decide⟩
theorem gD_Sc_27_49 : GI YD "DoorsOnCogs$Scene" 27 49 9 (some (some 55)) := ⟨by decide, _, _, _, fl_Sc_27, cD_49, by decide, rfl⟩
theorem aD_55 : AI YD 55 (.long) 12 := ⟨by decide, cD_55, by decide⟩
theorem gD_Sc_31_49 : GI YD "DoorsOnCogs$Scene" 31 49 13 (some (some 56)) := ⟨by decide, _, _, _, fl_Sc_31, cD_49, by decide, rfl⟩
theorem aD_56 : AI YD 56 (.int) 12 := ⟨by decide, cD_56, by decide⟩
theorem gD_Sc_34_49 : GI YD "DoorsOnCogs$Scene" 34 49 15 (some (some 57)) := ⟨by decide, _, _, _, fl_Sc_34, cD_49, by decide, rfl⟩
theorem aD_57 : AI YD 57 (.int) 40 := ⟨by decide, cD_57, by decide⟩
theorem gD_Sc_37_22 : GI YD "DoorsOnCogs$Scene" 37 22 0 none := ⟨by decide, _, _, _, fl_Sc_37, cD_22, by decide, rfl⟩
theorem gD_Sc_41_22 : GI YD "DoorsOnCogs$Scene" 41 22 3 none := ⟨by decide, _, _, _, fl_Sc_41, cD_22, by decide, rfl⟩
theorem gD_Sc_44_22 : GI YD "DoorsOnCogs$Scene" 44 22 4 none := ⟨by decide, _, _, _, fl_Sc_44, cD_22, by decide, rfl⟩
theorem gD_Sc_47_22 : GI YD "DoorsOnCogs$Scene" 47 22 5 none := ⟨by decide, _, _, _, fl_Sc_47, cD_22, by decide, rfl⟩
theorem gD_Sc_56_22 : GI YD "DoorsOnCogs$Scene" 56 22 10 none := ⟨by decide, _, _, _, fl_Sc_56, cD_22, by decide, rfl⟩
theorem gD_Sc_59_22 : GI YD "DoorsOnCogs$Scene" 59 22 11 none := ⟨by decide, _, _, _, fl_Sc_59, cD_22, by decide, rfl⟩
theorem gD_Sc_62_22 : GI YD "DoorsOnCogs$Scene" 62 22 12 none := ⟨by decide, _, _, _, fl_Sc_62, cD_22, by decide, rfl⟩
theorem gD_Sc_65_22 : GI YD "DoorsOnCogs$Scene" 65 22 14 none := ⟨by decide, _, _, _, fl_Sc_65, cD_22, by decide, rfl⟩
theorem gD_Sc_68_22 : GI YD "DoorsOnCogs$Scene" 68 22 16 none := ⟨by decide, _, _, _, fl_Sc_68, cD_22, by decide, rfl⟩
theorem gD_Sc_37_31 : GI YD "DoorsOnCogs$Scene" 37 31 0 none := ⟨by decide, _, _, _, fl_Sc_37, cD_31, by decide, rfl⟩
theorem gD_Sc_41_31 : GI YD "DoorsOnCogs$Scene" 41 31 3 none := ⟨by decide, _, _, _, fl_Sc_41, cD_31, by decide, rfl⟩
theorem gD_Sc_44_31 : GI YD "DoorsOnCogs$Scene" 44 31 4 none := ⟨by decide, _, _, _, fl_Sc_44, cD_31, by decide, rfl⟩
theorem gD_Sc_47_31 : GI YD "DoorsOnCogs$Scene" 47 31 5 none := ⟨by decide, _, _, _, fl_Sc_47, cD_31, by decide, rfl⟩
theorem gD_Sc_56_31 : GI YD "DoorsOnCogs$Scene" 56 31 10 none := ⟨by decide, _, _, _, fl_Sc_56, cD_31, by decide, rfl⟩
theorem gD_Sc_59_31 : GI YD "DoorsOnCogs$Scene" 59 31 11 none := ⟨by decide, _, _, _, fl_Sc_59, cD_31, by decide, rfl⟩
theorem gD_Sc_62_31 : GI YD "DoorsOnCogs$Scene" 62 31 12 none := ⟨by decide, _, _, _, fl_Sc_62, cD_31, by decide, rfl⟩
theorem gD_Sc_65_31 : GI YD "DoorsOnCogs$Scene" 65 31 14 none := ⟨by decide, _, _, _, fl_Sc_65, cD_31, by decide, rfl⟩
theorem gD_Sc_68_31 : GI YD "DoorsOnCogs$Scene" 68 31 16 none := ⟨by decide, _, _, _, fl_Sc_68, cD_31, by decide, rfl⟩
theorem gD_Sc_37_40 : GI YD "DoorsOnCogs$Scene" 37 40 0 none := ⟨by decide, _, _, _, fl_Sc_37, cD_40, by decide, rfl⟩
theorem gD_Sc_41_40 : GI YD "DoorsOnCogs$Scene" 41 40 3 none := ⟨by decide, _, _, _, fl_Sc_41, cD_40, by decide, rfl⟩
theorem gD_Sc_44_40 : GI YD "DoorsOnCogs$Scene" 44 40 4 none := ⟨by decide, _, _, _, fl_Sc_44, cD_40, by decide, rfl⟩
theorem gD_Sc_47_40 : GI YD "DoorsOnCogs$Scene" 47 40 5 none := ⟨by decide, _, _, _, fl_Sc_47, cD_40, by decide, rfl⟩
theorem gD_Sc_56_40 : GI YD "DoorsOnCogs$Scene" 56 40 10 none := ⟨by decide, _, _, _, fl_Sc_56, cD_40, by decide, rfl⟩
theorem gD_Sc_59_40 : GI YD "DoorsOnCogs$Scene" 59 40 11 none := ⟨by decide, _, _, _, fl_Sc_59, cD_40, by decide, rfl⟩
theorem gD_Sc_62_40 : GI YD "DoorsOnCogs$Scene" 62 40 12 none := ⟨by decide, _, _, _, fl_Sc_62, cD_40, by decide, rfl⟩
theorem gD_Sc_65_40 : GI YD "DoorsOnCogs$Scene" 65 40 14 none := ⟨by decide, _, _, _, fl_Sc_65, cD_40, by decide, rfl⟩
theorem gD_Sc_68_40 : GI YD "DoorsOnCogs$Scene" 68 40 16 none := ⟨by decide, _, _, _, fl_Sc_68, cD_40, by decide, rfl⟩
theorem gD_Sc_37_49 : GI YD "DoorsOnCogs$Scene" 37 49 0 none := ⟨by decide, _, _, _, fl_Sc_37, cD_49, by decide, rfl⟩
theorem gD_Sc_41_49 : GI YD "DoorsOnCogs$Scene" 41 49 3 none := ⟨by decide, _, _, _, fl_Sc_41, cD_49, by decide, rfl⟩
theorem gD_Sc_44_49 : GI YD "DoorsOnCogs$Scene" 44 49 4 none := ⟨by decide, _, _, _, fl_Sc_44, cD_49, by decide, rfl⟩
theorem gD_Sc_47_49 : GI YD "DoorsOnCogs$Scene" 47 49 5 none := ⟨by decide, _, _, _, fl_Sc_47, cD_49, by decide, rfl⟩
theorem gD_Sc_56_49 : GI YD "DoorsOnCogs$Scene" 56 49 10 none := ⟨by decide, _, _, _, fl_Sc_56, cD_49, by decide, rfl⟩
theorem gD_Sc_59_49 : GI YD "DoorsOnCogs$Scene" 59 49 11 none := ⟨by decide, _, _, _, fl_Sc_59, cD_49, by decide, rfl⟩
theorem gD_Sc_62_49 : GI YD "DoorsOnCogs$Scene" 62 49 12 none := ⟨by decide, _, _, _, fl_Sc_62, cD_49, by decide, rfl⟩
theorem gD_Sc_65_49 : GI YD "DoorsOnCogs$Scene" 65 49 14 none := ⟨by decide, _, _, _, fl_Sc_65, cD_49, by decide, rfl⟩
theorem gD_Sc_68_49 : GI YD "DoorsOnCogs$Scene" 68 49 16 none := ⟨by decide, _, _, _, fl_Sc_68, cD_49, by decide, rfl⟩
/-! scenes copied; rows that agree; gears fitted anew -/
theorem Fr.cpy {Wp : Nat → Int → Prop} {μ ν : Mem} {d c : Nat} {n : Int} (h : Fr Wp μ ν) (hw : ∀ i, Wp d i) : Fr Wp μ (mcpy ν d c n) := by
  intro c' i hd
  have e : c' ≠ d := fun q => hd (by rw [q]; exact hw i)
  rw [mcpy_nc _ _ _ _ _ e]
  exact h c' i hd
def CPY (μ μ' : Mem) (b s : Nat) : Prop := (μ' b 0 = μ s 0 ∧ μ' b 3 = μ s 3 ∧ μ' b 4 = μ s 4 ∧ μ' b 10 = μ s 10 ∧ μ' b 11 = μ s 11 ∧ μ' b 12 = μ s 12 ∧ μ' b 14 = μ s 14 ∧ μ' b 16 = μ s 16) ∧
  (∀ i, 0 ≤ i → i < 12 → μ' (b + 1) i = μ (s + 1) i ∧ μ' (b + 2) i = μ (s + 2) i ∧ μ' (b + 6) i = μ (s + 6) i ∧ μ' (b + 7) i = μ (s + 7) i) ∧ (∀ i, 0 ≤ i → i < 16 → μ' (b + 3) i = μ (s + 3) i ∧ μ' (b + 4) i = μ (s + 4) i ∧ μ' (b + 5) i = μ (s + 5) i) ∧ (∀ i, 0 ≤ i → i < 40 → μ' (b + 8) i = μ (s + 8) i)
def AGA (S T : Int → Int) : Prop := ∀ i, 0 ≤ i → i < 134 → T i = S i
theorem AGA.ag {S T : Int → Int} (h : AGA S T) : AG S T := fun i q => h i (by unfold sti at q; omega) (by unfold sti at q; omega)
theorem StK.c {S T : Int → Int} (e : AGA S T) (h : StK S) : StK T := by
  obtain ⟨k1, k2, k3, k4, k5, k6, k7, k8, k9⟩ := h
  have h0 := k1.1
  have ag := e.ag
  unfold StK
  rw [e 0 (by decide) (by decide), e 2 (by decide) (by decide), e 3 (by decide) (by decide), e 4 (by decide) (by decide), e 5 (by decide) (by decide), e 6 (by decide) (by decide), e 8 (by decide) (by decide)]
  refine ⟨ag.str k1, k2, k3, k4, k5, fun i i0 i1 => ?_, k7, fun d d0 d1 d2 => ?_, k9⟩
  · rw [e (94 + i) (by omega) (by omega)]; exact k6 i i0 i1
  · rw [e (82 + d) (by omega) (by omega)]; exact k8 d d0 d1 d2
theorem SCN.c {μ μ' : Mem} {b s : Nat} {S T : Int → Int} (e : AGA S T) (hK : StK S) (h : SCN μ s S) (hc : CPY μ μ' b s) : SCN μ' b T := by
  obtain ⟨s1, s2, s3, s4, s5, s6, s7, s8, s9, s10, s11, s12⟩ := h
  obtain ⟨⟨c0, c3, c4, c10, c11, c12, c14, c16⟩, ca, cb, cc⟩ := hc
  have h0 := hK.1.1
  have h1 := hK.1.2.1
  have h5 := hK.2.2.2.2.1
  have ag := e.ag
  unfold SCN
  rw [e 0 (by decide) (by decide), e 1 (by decide) (by decide), e 2 (by decide) (by decide), e 3 (by decide) (by decide), e 4 (by decide) (by decide), e 5 (by decide) (by decide), e 6 (by decide) (by decide), e 8 (by decide) (by decide), c0, c3, c4, c10, c11, c12, c14, c16]
  refine ⟨s1, s2, s3, s4, s5, s6, s7, s8, fun d d0 d1 => ?_, fun j j0 j1 => ?_, fun d d0 d1 d2 => ?_, fun i i0 i1 => ?_⟩
  · have := ca d d0 (by omega)
    rw [this.1, this.2.1, ag.qtee d0 (by omega), ag.qspn d0 (by omega)]; exact s9 d d0 d1
  · have := cb j j0 (by omega)
    rw [this.1, this.2.1, this.2.2, ag.qjn j0 (by omega) (by decide) (by decide), ag.qjn j0 (by omega) (by decide) (by decide), ag.qjn j0 (by omega) (by decide) (by decide)]; exact s10 j j0 j1
  · rw [(ca d d0 (by omega)).2.2.2, e (82 + d) (by omega) (by omega)]; exact s11 d d0 d1 d2
  · rw [cc i i0 (by omega), e (94 + i) (by omega) (by omega)]; exact s12 i i0 i1
theorem SB.c {S T pl ql : Int → Int} (hS : StrOK S) (e : AG S T) (he : ∀ d, 0 ≤ d → d < 12 → ql d = pl d) (h : SB S pl) : SB T ql := by
  intro d d0 d1 d2
  have h0 := hS.1
  rw [e.a0] at d1
  rw [e.qspn d0 (by omega)] at d2
  rw [e.qspn d0 (by omega), e.qpts hS, he d d0 (by omega)]
  exact h d d0 d1 d2
theorem SPT.c {μ μ' : Mem} {b s : Nat} {S T pl ql : Int → Int} (hS : StrOK S) (e : AG S T) (he : ∀ d, 0 ≤ d → d < 12 → ql d = pl d) (hc : CPY μ μ' b s) (h : SPT μ s S pl) : SPT μ' b T ql := by
  obtain ⟨lo, up, dn, lk, h1, h2⟩ := h
  have h0 := hS.1
  refine ⟨lo, up, dn, lk, e.hung hS h1, fun d d0 d1 => ?_⟩
  rw [e.a0] at d1
  rw [(hc.2.1 d d0 (by omega)).2.2.1, e.qpts hS, he d d0 (by omega), e.qbel]
  exact h2 d d0 d1
theorem opn_c {S T : Int → Int} (hS : StrOK S) (e : AG S T) {d x : Int} (d0 : 0 ≤ d) (d1 : d < 12) : opn T (pts T) d x = opn S (pts S) d x := by
  unfold opn
  rw [e.qspn d0 d1, e.qtee d0 d1, e.qpts hS]
theorem opS_c {S T pl ql : Int → Int} (hS : StrOK S) (e : AG S T) (he : ∀ d, 0 ≤ d → d < 12 → ql d = pl d) : ∀ k : Nat, k ≤ 12 → opS T (pts T) ql k = opS S (pts S) pl k
  | 0, _ => rfl
  | k + 1, h => by
    unfold opS
    rw [opS_c hS e he k (by omega), opn_c hS e (by omega) (by omega), he (k : Int) (by omega) (by omega)]
theorem GX.re {μ : Mem} {S lo up dn lk pl lo' up' dn' lk' : Int → Int} (h : GX μ S lo up dn lk pl) (h' : Hung S 0 lo' up' dn' lk') : GX μ S lo' up' dn' lk' pl := by
  obtain ⟨hS, hT, hH, ⟨f1, f2, f3, f4, f5⟩, hp, hb⟩ := h
  have elo := HI_lo hS hH.1 h'.1
  have elk : ∀ d, 0 ≤ d → d < S 0 → (lk d = 1 ↔ lk' d = 1) := fun d d0 d1 => (hH.2 d d0 d1).2.trans ((HI_lk hS hH.1 h'.1 ⟨d0, d1⟩).trans (h'.2 d d0 d1).2.symm)
  have elk0 : ∀ d, 0 ≤ d → d < S 0 → (lk d = 0 ↔ lk' d = 0) := fun d d0 d1 => by
    have a := (hH.2 d d0 d1).1
    have b := (h'.2 d d0 d1).1
    have c := elk d d0 d1
    omega
  refine ⟨hS, hT, h', ⟨fun d d0 d1 => (f1 d d0 d1).trans (elo d d0 d1), ⟨f2.1, fun k k0 => (f2.2 k k0).trans ⟨fun q => ⟨q.1, (elk k k0 q.1).mp q.2⟩, fun q => ⟨q.1, (elk k k0 q.1).mpr q.2⟩⟩⟩, ?_, fun d d0 d1 => (f4 d d0 d1).trans (bel_same hS hH h' ⟨d0, d1⟩), fun p d p0 p1 d0 d1 => ?_⟩, fun d d0 d1 => ?_, hb⟩
  · rw [f3]
    congr 1
    refine cntB_congr _ (fun j hj => ?_)
    rw [elo (j : Int) (by omega) (by omega)]
  · rw [f5 p d p0 p1 d0 d1]
    by_cases e : lo p = lo d ∧ lk d = 0
    · have e' : lo' p = lo' d ∧ lk' d = 0 := by rw [← elo p p0 p1, ← elo d d0 d1]; exact ⟨e.1, (elk0 d d0 d1).mp e.2⟩
      rw [if_pos e, if_pos e']
      exact stp_same hS hH h' ⟨p0, p1⟩ ⟨d0, d1⟩ e.1 e.2
    · have e' : ¬ (lo' p = lo' d ∧ lk' d = 0) := fun q => e ⟨by rw [elo p p0 p1, elo d d0 d1]; exact q.1, (elk0 d d0 d1).mpr q.2⟩
      rw [if_neg e, if_neg e']
  · rw [hp d d0 d1, bel_same hS hH h' ⟨d0, d1⟩]
abbrev Wcp3 (c : Nat) (_ : Int) : Prop := 3 ≤ c ∧ c ≤ 11
set_option maxHeartbeats 4000000 in
theorem s_copy_3_12 {μ : Mem} {Q : PV → Mem → Prop} (hQ : ∀ μ', Fr Wcp3 μ μ' → CPY μ μ' 3 12 → Q vU μ') : Rj YD y_Sc_copyFrom 0 [vA 3, vA 12] [] μ Q := by
  refine Rj_aload_n (q := 1) d_Sc_copyFrom_0 rfl rfl rfl ?_
  refine Rj_aload_n (q := 2) d_Sc_copyFrom_1 rfl rfl rfl ?_
  refine Rj_gi (q := 5) (ki := 0) (v := μ 12 0) gD_Sc_37_12 rfl rfl rfl d_Sc_copyFrom_2 rfl ?_
  refine Rj_pi (q := 8) (ki := 0) pD_Sc_37_3 rfl rfl d_Sc_copyFrom_5 rfl ?_
  refine Rj_aload_n (q := 9) d_Sc_copyFrom_8 rfl rfl rfl ?_
  refine Rj_aload_n (q := 10) d_Sc_copyFrom_9 rfl rfl rfl ?_
  refine Rj_gi (q := 13) (ki := 3) (v := μ 12 3) gD_Sc_41_12 rfl rfl rfl d_Sc_copyFrom_10 rfl ?_
  refine Rj_pi (q := 16) (ki := 3) pD_Sc_41_3 rfl rfl d_Sc_copyFrom_13 rfl ?_
  refine Rj_aload_n (q := 17) d_Sc_copyFrom_16 rfl rfl rfl ?_
  refine Rj_aload_n (q := 18) d_Sc_copyFrom_17 rfl rfl rfl ?_
  refine Rj_gi (q := 21) (ki := 4) (v := μ 12 4) gD_Sc_44_12 rfl rfl rfl d_Sc_copyFrom_18 rfl ?_
  refine Rj_pi (q := 24) (ki := 4) pD_Sc_44_3 rfl rfl d_Sc_copyFrom_21 rfl ?_
  refine Rj_aload_n (q := 25) d_Sc_copyFrom_24 rfl rfl rfl ?_
  refine Rj_aload_n (q := 26) d_Sc_copyFrom_25 rfl rfl rfl ?_
  refine Rj_gi (q := 29) (ki := 5) (v := μ 12 5) gD_Sc_47_12 rfl rfl rfl d_Sc_copyFrom_26 rfl ?_
  refine Rj_pi (q := 32) (ki := 5) pD_Sc_47_3 rfl rfl d_Sc_copyFrom_29 rfl ?_
  refine Rj_aload_n (q := 33) d_Sc_copyFrom_32 rfl rfl rfl ?_
  refine Rj_aload_n (q := 34) d_Sc_copyFrom_33 rfl rfl rfl ?_
  refine Rj_gi (q := 37) (ki := 10) (v := μ 12 10) gD_Sc_56_12 rfl rfl rfl d_Sc_copyFrom_34 rfl ?_
  refine Rj_pi (q := 40) (ki := 10) pD_Sc_56_3 rfl rfl d_Sc_copyFrom_37 rfl ?_
  refine Rj_aload_n (q := 41) d_Sc_copyFrom_40 rfl rfl rfl ?_
  refine Rj_aload_n (q := 42) d_Sc_copyFrom_41 rfl rfl rfl ?_
  refine Rj_gi (q := 45) (ki := 11) (v := μ 12 11) gD_Sc_59_12 rfl rfl rfl d_Sc_copyFrom_42 rfl ?_
  refine Rj_pi (q := 48) (ki := 11) pD_Sc_59_3 rfl rfl d_Sc_copyFrom_45 rfl ?_
  refine Rj_aload_n (q := 49) d_Sc_copyFrom_48 rfl rfl rfl ?_
  refine Rj_aload_n (q := 50) d_Sc_copyFrom_49 rfl rfl rfl ?_
  refine Rj_gi (q := 53) (ki := 12) (v := μ 12 12) gD_Sc_62_12 rfl rfl rfl d_Sc_copyFrom_50 rfl ?_
  refine Rj_pi (q := 56) (ki := 12) pD_Sc_62_3 rfl rfl d_Sc_copyFrom_53 rfl ?_
  refine Rj_aload_n (q := 57) d_Sc_copyFrom_56 rfl rfl rfl ?_
  refine Rj_aload_n (q := 58) d_Sc_copyFrom_57 rfl rfl rfl ?_
  refine Rj_gi (q := 61) (ki := 14) (v := μ 12 14) gD_Sc_65_12 rfl rfl rfl d_Sc_copyFrom_58 rfl ?_
  refine Rj_pi (q := 64) (ki := 14) pD_Sc_65_3 rfl rfl d_Sc_copyFrom_61 rfl ?_
  refine Rj_aload_n (q := 65) d_Sc_copyFrom_64 rfl rfl rfl ?_
  refine Rj_aload_n (q := 66) d_Sc_copyFrom_65 rfl rfl rfl ?_
  refine Rj_gi (q := 69) (ki := 16) (v := μ 12 16) gD_Sc_68_12 rfl rfl rfl d_Sc_copyFrom_66 rfl ?_
  refine Rj_pi (q := 72) (ki := 16) pD_Sc_68_3 rfl rfl d_Sc_copyFrom_69 rfl ?_
  refine Rj_aload_n (q := 73) d_Sc_copyFrom_72 rfl rfl rfl ?_
  refine Rj_gr (q := 76) (zd := 13) gD_Sc_9_12 rfl rfl d_Sc_copyFrom_73 rfl ?_
  refine Rj_iconst (q := 77) d_Sc_copyFrom_76 rfl ?_
  refine Rj_aload_n (q := 78) d_Sc_copyFrom_77 rfl rfl rfl ?_
  refine Rj_gr (q := 81) (zd := 4) gD_Sc_9_3 rfl rfl d_Sc_copyFrom_78 rfl ?_
  refine Rj_iconst (q := 82) d_Sc_copyFrom_81 rfl ?_
  refine Rj_bipush (q := 84) d_Sc_copyFrom_82 rfl (by decide +kernel) ?_
  refine Rj_cpyi (q := 87) ml_Sc_71 aD_13 aD_4 rfl rfl (by decide) (by decide) (by decide) (by decide) (by decide) d_Sc_copyFrom_84 rfl ?_
  refine Rj_aload_n (q := 88) d_Sc_copyFrom_87 rfl rfl rfl ?_
  refine Rj_gr (q := 91) (zd := 14) gD_Sc_15_12 rfl rfl d_Sc_copyFrom_88 rfl ?_
  refine Rj_iconst (q := 92) d_Sc_copyFrom_91 rfl ?_
  refine Rj_aload_n (q := 93) d_Sc_copyFrom_92 rfl rfl rfl ?_
  refine Rj_gr (q := 96) (zd := 5) gD_Sc_15_3 rfl rfl d_Sc_copyFrom_93 rfl ?_
  refine Rj_iconst (q := 97) d_Sc_copyFrom_96 rfl ?_
  refine Rj_bipush (q := 99) d_Sc_copyFrom_97 rfl (by decide +kernel) ?_
  refine Rj_cpyi (q := 102) ml_Sc_71 aD_14 aD_5 rfl rfl (by decide) (by decide) (by decide) (by decide) (by decide) d_Sc_copyFrom_99 rfl ?_
  refine Rj_aload_n (q := 103) d_Sc_copyFrom_102 rfl rfl rfl ?_
  refine Rj_gr (q := 106) (zd := 15) gD_Sc_18_12 rfl rfl d_Sc_copyFrom_103 rfl ?_
  refine Rj_iconst (q := 107) d_Sc_copyFrom_106 rfl ?_
  refine Rj_aload_n (q := 108) d_Sc_copyFrom_107 rfl rfl rfl ?_
  refine Rj_gr (q := 111) (zd := 6) gD_Sc_18_3 rfl rfl d_Sc_copyFrom_108 rfl ?_
  refine Rj_iconst (q := 112) d_Sc_copyFrom_111 rfl ?_
  refine Rj_bipush (q := 114) d_Sc_copyFrom_112 rfl (by decide +kernel) ?_
  refine Rj_cpyi (q := 117) ml_Sc_71 aD_15 aD_6 rfl rfl (by decide) (by decide) (by decide) (by decide) (by decide) d_Sc_copyFrom_114 rfl ?_
  refine Rj_aload_n (q := 118) d_Sc_copyFrom_117 rfl rfl rfl ?_
  refine Rj_gr (q := 121) (zd := 16) gD_Sc_21_12 rfl rfl d_Sc_copyFrom_118 rfl ?_
  refine Rj_iconst (q := 122) d_Sc_copyFrom_121 rfl ?_
  refine Rj_aload_n (q := 123) d_Sc_copyFrom_122 rfl rfl rfl ?_
  refine Rj_gr (q := 126) (zd := 7) gD_Sc_21_3 rfl rfl d_Sc_copyFrom_123 rfl ?_
  refine Rj_iconst (q := 127) d_Sc_copyFrom_126 rfl ?_
  refine Rj_bipush (q := 129) d_Sc_copyFrom_127 rfl (by decide +kernel) ?_
  refine Rj_cpyi (q := 132) ml_Sc_71 aD_16 aD_7 rfl rfl (by decide) (by decide) (by decide) (by decide) (by decide) d_Sc_copyFrom_129 rfl ?_
  refine Rj_aload_n (q := 133) d_Sc_copyFrom_132 rfl rfl rfl ?_
  refine Rj_gr (q := 136) (zd := 17) gD_Sc_24_12 rfl rfl d_Sc_copyFrom_133 rfl ?_
  refine Rj_iconst (q := 137) d_Sc_copyFrom_136 rfl ?_
  refine Rj_aload_n (q := 138) d_Sc_copyFrom_137 rfl rfl rfl ?_
  refine Rj_gr (q := 141) (zd := 8) gD_Sc_24_3 rfl rfl d_Sc_copyFrom_138 rfl ?_
  refine Rj_iconst (q := 142) d_Sc_copyFrom_141 rfl ?_
  refine Rj_bipush (q := 144) d_Sc_copyFrom_142 rfl (by decide +kernel) ?_
  refine Rj_cpyi (q := 147) ml_Sc_71 aD_17 aD_8 rfl rfl (by decide) (by decide) (by decide) (by decide) (by decide) d_Sc_copyFrom_144 rfl ?_
  refine Rj_aload_n (q := 148) d_Sc_copyFrom_147 rfl rfl rfl ?_
  refine Rj_gr (q := 151) (zd := 18) gD_Sc_27_12 rfl rfl d_Sc_copyFrom_148 rfl ?_
  refine Rj_iconst (q := 152) d_Sc_copyFrom_151 rfl ?_
  refine Rj_aload_n (q := 153) d_Sc_copyFrom_152 rfl rfl rfl ?_
  refine Rj_gr (q := 156) (zd := 9) gD_Sc_27_3 rfl rfl d_Sc_copyFrom_153 rfl ?_
  refine Rj_iconst (q := 157) d_Sc_copyFrom_156 rfl ?_
  refine Rj_bipush (q := 159) d_Sc_copyFrom_157 rfl (by decide +kernel) ?_
  refine Rj_cpyl (q := 162) ml_Sc_71 aD_18 aD_9 rfl rfl (by decide) (by decide) (by decide) (by decide) (by decide) d_Sc_copyFrom_159 rfl ?_
  refine Rj_aload_n (q := 163) d_Sc_copyFrom_162 rfl rfl rfl ?_
  refine Rj_gr (q := 166) (zd := 19) gD_Sc_31_12 rfl rfl d_Sc_copyFrom_163 rfl ?_
  refine Rj_iconst (q := 167) d_Sc_copyFrom_166 rfl ?_
  refine Rj_aload_n (q := 168) d_Sc_copyFrom_167 rfl rfl rfl ?_
  refine Rj_gr (q := 171) (zd := 10) gD_Sc_31_3 rfl rfl d_Sc_copyFrom_168 rfl ?_
  refine Rj_iconst (q := 172) d_Sc_copyFrom_171 rfl ?_
  refine Rj_bipush (q := 174) d_Sc_copyFrom_172 rfl (by decide +kernel) ?_
  refine Rj_cpyi (q := 177) ml_Sc_71 aD_19 aD_10 rfl rfl (by decide) (by decide) (by decide) (by decide) (by decide) d_Sc_copyFrom_174 rfl ?_
  refine Rj_aload_n (q := 178) d_Sc_copyFrom_177 rfl rfl rfl ?_
  refine Rj_gr (q := 181) (zd := 20) gD_Sc_34_12 rfl rfl d_Sc_copyFrom_178 rfl ?_
  refine Rj_iconst (q := 182) d_Sc_copyFrom_181 rfl ?_
  refine Rj_aload_n (q := 183) d_Sc_copyFrom_182 rfl rfl rfl ?_
  refine Rj_gr (q := 186) (zd := 11) gD_Sc_34_3 rfl rfl d_Sc_copyFrom_183 rfl ?_
  refine Rj_iconst (q := 187) d_Sc_copyFrom_186 rfl ?_
  refine Rj_bipush (q := 189) d_Sc_copyFrom_187 rfl (by decide +kernel) ?_
  refine Rj_cpyi (q := 192) ml_Sc_71 aD_20 aD_11 rfl rfl (by decide) (by decide) (by decide) (by decide) (by decide) d_Sc_copyFrom_189 rfl ?_
  refine Rj_vret d_Sc_copyFrom_192 rfl ?_
  exact hQ _ (Fr.cpy (Fr.cpy (Fr.cpy (Fr.cpy (Fr.cpy (Fr.cpy (Fr.cpy (Fr.cpy (Fr.put (Fr.put (Fr.put (Fr.put (Fr.put (Fr.put (Fr.put (Fr.put (Fr.put (Fr.refl _ _) (by decide)) (by decide)) (by decide)) (by decide)) (by decide)) (by decide)) (by decide)) (by decide)) (by decide)) (by intro i; simp [Wcp3])) (by intro i; simp [Wcp3])) (by intro i; simp [Wcp3])) (by intro i; simp [Wcp3])) (by intro i; simp [Wcp3])) (by intro i; simp [Wcp3])) (by intro i; simp [Wcp3])) (by intro i; simp [Wcp3])) ⟨⟨rfl, rfl, rfl, rfl, rfl, rfl, rfl, rfl⟩, fun i i0 i1 => by simp [mcpy, mset, i0, i1], fun i i0 i1 => by simp [mcpy, mset, i0, i1], fun i i0 i1 => by simp [mcpy, mset, i0, i1]⟩
abbrev Wcp22 (c : Nat) (_ : Int) : Prop := 22 ≤ c ∧ c ≤ 30
set_option maxHeartbeats 4000000 in
theorem s_copy_22_3 {μ : Mem} {Q : PV → Mem → Prop} (hQ : ∀ μ', Fr Wcp22 μ μ' → CPY μ μ' 22 3 → Q vU μ') : Rj YD y_Sc_copyFrom 0 [vA 22, vA 3] [] μ Q := by
  refine Rj_aload_n (q := 1) d_Sc_copyFrom_0 rfl rfl rfl ?_
  refine Rj_aload_n (q := 2) d_Sc_copyFrom_1 rfl rfl rfl ?_
  refine Rj_gi (q := 5) (ki := 0) (v := μ 3 0) gD_Sc_37_3 rfl rfl rfl d_Sc_copyFrom_2 rfl ?_
  refine Rj_pi (q := 8) (ki := 0) pD_Sc_37_22 rfl rfl d_Sc_copyFrom_5 rfl ?_
  refine Rj_aload_n (q := 9) d_Sc_copyFrom_8 rfl rfl rfl ?_
  refine Rj_aload_n (q := 10) d_Sc_copyFrom_9 rfl rfl rfl ?_
  refine Rj_gi (q := 13) (ki := 3) (v := μ 3 3) gD_Sc_41_3 rfl rfl rfl d_Sc_copyFrom_10 rfl ?_
  refine Rj_pi (q := 16) (ki := 3) pD_Sc_41_22 rfl rfl d_Sc_copyFrom_13 rfl ?_
  refine Rj_aload_n (q := 17) d_Sc_copyFrom_16 rfl rfl rfl ?_
  refine Rj_aload_n (q := 18) d_Sc_copyFrom_17 rfl rfl rfl ?_
  refine Rj_gi (q := 21) (ki := 4) (v := μ 3 4) gD_Sc_44_3 rfl rfl rfl d_Sc_copyFrom_18 rfl ?_
  refine Rj_pi (q := 24) (ki := 4) pD_Sc_44_22 rfl rfl d_Sc_copyFrom_21 rfl ?_
  refine Rj_aload_n (q := 25) d_Sc_copyFrom_24 rfl rfl rfl ?_
  refine Rj_aload_n (q := 26) d_Sc_copyFrom_25 rfl rfl rfl ?_
  refine Rj_gi (q := 29) (ki := 5) (v := μ 3 5) gD_Sc_47_3 rfl rfl rfl d_Sc_copyFrom_26 rfl ?_
  refine Rj_pi (q := 32) (ki := 5) pD_Sc_47_22 rfl rfl d_Sc_copyFrom_29 rfl ?_
  refine Rj_aload_n (q := 33) d_Sc_copyFrom_32 rfl rfl rfl ?_
  refine Rj_aload_n (q := 34) d_Sc_copyFrom_33 rfl rfl rfl ?_
  refine Rj_gi (q := 37) (ki := 10) (v := μ 3 10) gD_Sc_56_3 rfl rfl rfl d_Sc_copyFrom_34 rfl ?_
  refine Rj_pi (q := 40) (ki := 10) pD_Sc_56_22 rfl rfl d_Sc_copyFrom_37 rfl ?_
  refine Rj_aload_n (q := 41) d_Sc_copyFrom_40 rfl rfl rfl ?_
  refine Rj_aload_n (q := 42) d_Sc_copyFrom_41 rfl rfl rfl ?_
  refine Rj_gi (q := 45) (ki := 11) (v := μ 3 11) gD_Sc_59_3 rfl rfl rfl d_Sc_copyFrom_42 rfl ?_
  refine Rj_pi (q := 48) (ki := 11) pD_Sc_59_22 rfl rfl d_Sc_copyFrom_45 rfl ?_
  refine Rj_aload_n (q := 49) d_Sc_copyFrom_48 rfl rfl rfl ?_
  refine Rj_aload_n (q := 50) d_Sc_copyFrom_49 rfl rfl rfl ?_
  refine Rj_gi (q := 53) (ki := 12) (v := μ 3 12) gD_Sc_62_3 rfl rfl rfl d_Sc_copyFrom_50 rfl ?_
  refine Rj_pi (q := 56) (ki := 12) pD_Sc_62_22 rfl rfl d_Sc_copyFrom_53 rfl ?_
  refine Rj_aload_n (q := 57) d_Sc_copyFrom_56 rfl rfl rfl ?_
  refine Rj_aload_n (q := 58) d_Sc_copyFrom_57 rfl rfl rfl ?_
  refine Rj_gi (q := 61) (ki := 14) (v := μ 3 14) gD_Sc_65_3 rfl rfl rfl d_Sc_copyFrom_58 rfl ?_
  refine Rj_pi (q := 64) (ki := 14) pD_Sc_65_22 rfl rfl d_Sc_copyFrom_61 rfl ?_
  refine Rj_aload_n (q := 65) d_Sc_copyFrom_64 rfl rfl rfl ?_
  refine Rj_aload_n (q := 66) d_Sc_copyFrom_65 rfl rfl rfl ?_
  refine Rj_gi (q := 69) (ki := 16) (v := μ 3 16) gD_Sc_68_3 rfl rfl rfl d_Sc_copyFrom_66 rfl ?_
  refine Rj_pi (q := 72) (ki := 16) pD_Sc_68_22 rfl rfl d_Sc_copyFrom_69 rfl ?_
  refine Rj_aload_n (q := 73) d_Sc_copyFrom_72 rfl rfl rfl ?_
  refine Rj_gr (q := 76) (zd := 4) gD_Sc_9_3 rfl rfl d_Sc_copyFrom_73 rfl ?_
  refine Rj_iconst (q := 77) d_Sc_copyFrom_76 rfl ?_
  refine Rj_aload_n (q := 78) d_Sc_copyFrom_77 rfl rfl rfl ?_
  refine Rj_gr (q := 81) (zd := 23) gD_Sc_9_22 rfl rfl d_Sc_copyFrom_78 rfl ?_
  refine Rj_iconst (q := 82) d_Sc_copyFrom_81 rfl ?_
  refine Rj_bipush (q := 84) d_Sc_copyFrom_82 rfl (by decide +kernel) ?_
  refine Rj_cpyi (q := 87) ml_Sc_71 aD_4 aD_23 rfl rfl (by decide) (by decide) (by decide) (by decide) (by decide) d_Sc_copyFrom_84 rfl ?_
  refine Rj_aload_n (q := 88) d_Sc_copyFrom_87 rfl rfl rfl ?_
  refine Rj_gr (q := 91) (zd := 5) gD_Sc_15_3 rfl rfl d_Sc_copyFrom_88 rfl ?_
  refine Rj_iconst (q := 92) d_Sc_copyFrom_91 rfl ?_
  refine Rj_aload_n (q := 93) d_Sc_copyFrom_92 rfl rfl rfl ?_
  refine Rj_gr (q := 96) (zd := 24) gD_Sc_15_22 rfl rfl d_Sc_copyFrom_93 rfl ?_
  refine Rj_iconst (q := 97) d_Sc_copyFrom_96 rfl ?_
  refine Rj_bipush (q := 99) d_Sc_copyFrom_97 rfl (by decide +kernel) ?_
  refine Rj_cpyi (q := 102) ml_Sc_71 aD_5 aD_24 rfl rfl (by decide) (by decide) (by decide) (by decide) (by decide) d_Sc_copyFrom_99 rfl ?_
  refine Rj_aload_n (q := 103) d_Sc_copyFrom_102 rfl rfl rfl ?_
  refine Rj_gr (q := 106) (zd := 6) gD_Sc_18_3 rfl rfl d_Sc_copyFrom_103 rfl ?_
  refine Rj_iconst (q := 107) d_Sc_copyFrom_106 rfl ?_
  refine Rj_aload_n (q := 108) d_Sc_copyFrom_107 rfl rfl rfl ?_
  refine Rj_gr (q := 111) (zd := 25) gD_Sc_18_22 rfl rfl d_Sc_copyFrom_108 rfl ?_
  refine Rj_iconst (q := 112) d_Sc_copyFrom_111 rfl ?_
  refine Rj_bipush (q := 114) d_Sc_copyFrom_112 rfl (by decide +kernel) ?_
  refine Rj_cpyi (q := 117) ml_Sc_71 aD_6 aD_25 rfl rfl (by decide) (by decide) (by decide) (by decide) (by decide) d_Sc_copyFrom_114 rfl ?_
  refine Rj_aload_n (q := 118) d_Sc_copyFrom_117 rfl rfl rfl ?_
  refine Rj_gr (q := 121) (zd := 7) gD_Sc_21_3 rfl rfl d_Sc_copyFrom_118 rfl ?_
  refine Rj_iconst (q := 122) d_Sc_copyFrom_121 rfl ?_
  refine Rj_aload_n (q := 123) d_Sc_copyFrom_122 rfl rfl rfl ?_
  refine Rj_gr (q := 126) (zd := 26) gD_Sc_21_22 rfl rfl d_Sc_copyFrom_123 rfl ?_
  refine Rj_iconst (q := 127) d_Sc_copyFrom_126 rfl ?_
  refine Rj_bipush (q := 129) d_Sc_copyFrom_127 rfl (by decide +kernel) ?_
  refine Rj_cpyi (q := 132) ml_Sc_71 aD_7 aD_26 rfl rfl (by decide) (by decide) (by decide) (by decide) (by decide) d_Sc_copyFrom_129 rfl ?_
  refine Rj_aload_n (q := 133) d_Sc_copyFrom_132 rfl rfl rfl ?_
  refine Rj_gr (q := 136) (zd := 8) gD_Sc_24_3 rfl rfl d_Sc_copyFrom_133 rfl ?_
  refine Rj_iconst (q := 137) d_Sc_copyFrom_136 rfl ?_
  refine Rj_aload_n (q := 138) d_Sc_copyFrom_137 rfl rfl rfl ?_
  refine Rj_gr (q := 141) (zd := 27) gD_Sc_24_22 rfl rfl d_Sc_copyFrom_138 rfl ?_
  refine Rj_iconst (q := 142) d_Sc_copyFrom_141 rfl ?_
  refine Rj_bipush (q := 144) d_Sc_copyFrom_142 rfl (by decide +kernel) ?_
  refine Rj_cpyi (q := 147) ml_Sc_71 aD_8 aD_27 rfl rfl (by decide) (by decide) (by decide) (by decide) (by decide) d_Sc_copyFrom_144 rfl ?_
  refine Rj_aload_n (q := 148) d_Sc_copyFrom_147 rfl rfl rfl ?_
  refine Rj_gr (q := 151) (zd := 9) gD_Sc_27_3 rfl rfl d_Sc_copyFrom_148 rfl ?_
  refine Rj_iconst (q := 152) d_Sc_copyFrom_151 rfl ?_
  refine Rj_aload_n (q := 153) d_Sc_copyFrom_152 rfl rfl rfl ?_
  refine Rj_gr (q := 156) (zd := 28) gD_Sc_27_22 rfl rfl d_Sc_copyFrom_153 rfl ?_
  refine Rj_iconst (q := 157) d_Sc_copyFrom_156 rfl ?_
  refine Rj_bipush (q := 159) d_Sc_copyFrom_157 rfl (by decide +kernel) ?_
  refine Rj_cpyl (q := 162) ml_Sc_71 aD_9 aD_28 rfl rfl (by decide) (by decide) (by decide) (by decide) (by decide) d_Sc_copyFrom_159 rfl ?_
  refine Rj_aload_n (q := 163) d_Sc_copyFrom_162 rfl rfl rfl ?_
  refine Rj_gr (q := 166) (zd := 10) gD_Sc_31_3 rfl rfl d_Sc_copyFrom_163 rfl ?_
  refine Rj_iconst (q := 167) d_Sc_copyFrom_166 rfl ?_
  refine Rj_aload_n (q := 168) d_Sc_copyFrom_167 rfl rfl rfl ?_
  refine Rj_gr (q := 171) (zd := 29) gD_Sc_31_22 rfl rfl d_Sc_copyFrom_168 rfl ?_
  refine Rj_iconst (q := 172) d_Sc_copyFrom_171 rfl ?_
  refine Rj_bipush (q := 174) d_Sc_copyFrom_172 rfl (by decide +kernel) ?_
  refine Rj_cpyi (q := 177) ml_Sc_71 aD_10 aD_29 rfl rfl (by decide) (by decide) (by decide) (by decide) (by decide) d_Sc_copyFrom_174 rfl ?_
  refine Rj_aload_n (q := 178) d_Sc_copyFrom_177 rfl rfl rfl ?_
  refine Rj_gr (q := 181) (zd := 11) gD_Sc_34_3 rfl rfl d_Sc_copyFrom_178 rfl ?_
  refine Rj_iconst (q := 182) d_Sc_copyFrom_181 rfl ?_
  refine Rj_aload_n (q := 183) d_Sc_copyFrom_182 rfl rfl rfl ?_
  refine Rj_gr (q := 186) (zd := 30) gD_Sc_34_22 rfl rfl d_Sc_copyFrom_183 rfl ?_
  refine Rj_iconst (q := 187) d_Sc_copyFrom_186 rfl ?_
  refine Rj_bipush (q := 189) d_Sc_copyFrom_187 rfl (by decide +kernel) ?_
  refine Rj_cpyi (q := 192) ml_Sc_71 aD_11 aD_30 rfl rfl (by decide) (by decide) (by decide) (by decide) (by decide) d_Sc_copyFrom_189 rfl ?_
  refine Rj_vret d_Sc_copyFrom_192 rfl ?_
  exact hQ _ (Fr.cpy (Fr.cpy (Fr.cpy (Fr.cpy (Fr.cpy (Fr.cpy (Fr.cpy (Fr.cpy (Fr.put (Fr.put (Fr.put (Fr.put (Fr.put (Fr.put (Fr.put (Fr.put (Fr.put (Fr.refl _ _) (by decide)) (by decide)) (by decide)) (by decide)) (by decide)) (by decide)) (by decide)) (by decide)) (by decide)) (by intro i; simp [Wcp22])) (by intro i; simp [Wcp22])) (by intro i; simp [Wcp22])) (by intro i; simp [Wcp22])) (by intro i; simp [Wcp22])) (by intro i; simp [Wcp22])) (by intro i; simp [Wcp22])) (by intro i; simp [Wcp22])) ⟨⟨rfl, rfl, rfl, rfl, rfl, rfl, rfl, rfl⟩, fun i i0 i1 => by simp [mcpy, mset, i0, i1], fun i i0 i1 => by simp [mcpy, mset, i0, i1], fun i i0 i1 => by simp [mcpy, mset, i0, i1]⟩
abbrev Wcp31 (c : Nat) (_ : Int) : Prop := 31 ≤ c ∧ c ≤ 39
set_option maxHeartbeats 4000000 in
theorem s_copy_31_3 {μ : Mem} {Q : PV → Mem → Prop} (hQ : ∀ μ', Fr Wcp31 μ μ' → CPY μ μ' 31 3 → Q vU μ') : Rj YD y_Sc_copyFrom 0 [vA 31, vA 3] [] μ Q := by
  refine Rj_aload_n (q := 1) d_Sc_copyFrom_0 rfl rfl rfl ?_
  refine Rj_aload_n (q := 2) d_Sc_copyFrom_1 rfl rfl rfl ?_
  refine Rj_gi (q := 5) (ki := 0) (v := μ 3 0) gD_Sc_37_3 rfl rfl rfl d_Sc_copyFrom_2 rfl ?_
  refine Rj_pi (q := 8) (ki := 0) pD_Sc_37_31 rfl rfl d_Sc_copyFrom_5 rfl ?_
  refine Rj_aload_n (q := 9) d_Sc_copyFrom_8 rfl rfl rfl ?_
  refine Rj_aload_n (q := 10) d_Sc_copyFrom_9 rfl rfl rfl ?_
  refine Rj_gi (q := 13) (ki := 3) (v := μ 3 3) gD_Sc_41_3 rfl rfl rfl d_Sc_copyFrom_10 rfl ?_
  refine Rj_pi (q := 16) (ki := 3) pD_Sc_41_31 rfl rfl d_Sc_copyFrom_13 rfl ?_
  refine Rj_aload_n (q := 17) d_Sc_copyFrom_16 rfl rfl rfl ?_
  refine Rj_aload_n (q := 18) d_Sc_copyFrom_17 rfl rfl rfl ?_
  refine Rj_gi (q := 21) (ki := 4) (v := μ 3 4) gD_Sc_44_3 rfl rfl rfl d_Sc_copyFrom_18 rfl ?_
  refine Rj_pi (q := 24) (ki := 4) pD_Sc_44_31 rfl rfl d_Sc_copyFrom_21 rfl ?_
  refine Rj_aload_n (q := 25) d_Sc_copyFrom_24 rfl rfl rfl ?_
  refine Rj_aload_n (q := 26) d_Sc_copyFrom_25 rfl rfl rfl ?_
  refine Rj_gi (q := 29) (ki := 5) (v := μ 3 5) gD_Sc_47_3 rfl rfl rfl d_Sc_copyFrom_26 rfl ?_
  refine Rj_pi (q := 32) (ki := 5) pD_Sc_47_31 rfl rfl d_Sc_copyFrom_29 rfl ?_
  refine Rj_aload_n (q := 33) d_Sc_copyFrom_32 rfl rfl rfl ?_
  refine Rj_aload_n (q := 34) d_Sc_copyFrom_33 rfl rfl rfl ?_
  refine Rj_gi (q := 37) (ki := 10) (v := μ 3 10) gD_Sc_56_3 rfl rfl rfl d_Sc_copyFrom_34 rfl ?_
  refine Rj_pi (q := 40) (ki := 10) pD_Sc_56_31 rfl rfl d_Sc_copyFrom_37 rfl ?_
  refine Rj_aload_n (q := 41) d_Sc_copyFrom_40 rfl rfl rfl ?_
  refine Rj_aload_n (q := 42) d_Sc_copyFrom_41 rfl rfl rfl ?_
  refine Rj_gi (q := 45) (ki := 11) (v := μ 3 11) gD_Sc_59_3 rfl rfl rfl d_Sc_copyFrom_42 rfl ?_
  refine Rj_pi (q := 48) (ki := 11) pD_Sc_59_31 rfl rfl d_Sc_copyFrom_45 rfl ?_
  refine Rj_aload_n (q := 49) d_Sc_copyFrom_48 rfl rfl rfl ?_
  refine Rj_aload_n (q := 50) d_Sc_copyFrom_49 rfl rfl rfl ?_
  refine Rj_gi (q := 53) (ki := 12) (v := μ 3 12) gD_Sc_62_3 rfl rfl rfl d_Sc_copyFrom_50 rfl ?_
  refine Rj_pi (q := 56) (ki := 12) pD_Sc_62_31 rfl rfl d_Sc_copyFrom_53 rfl ?_
  refine Rj_aload_n (q := 57) d_Sc_copyFrom_56 rfl rfl rfl ?_
  refine Rj_aload_n (q := 58) d_Sc_copyFrom_57 rfl rfl rfl ?_
  refine Rj_gi (q := 61) (ki := 14) (v := μ 3 14) gD_Sc_65_3 rfl rfl rfl d_Sc_copyFrom_58 rfl ?_
  refine Rj_pi (q := 64) (ki := 14) pD_Sc_65_31 rfl rfl d_Sc_copyFrom_61 rfl ?_
  refine Rj_aload_n (q := 65) d_Sc_copyFrom_64 rfl rfl rfl ?_
  refine Rj_aload_n (q := 66) d_Sc_copyFrom_65 rfl rfl rfl ?_
  refine Rj_gi (q := 69) (ki := 16) (v := μ 3 16) gD_Sc_68_3 rfl rfl rfl d_Sc_copyFrom_66 rfl ?_
  refine Rj_pi (q := 72) (ki := 16) pD_Sc_68_31 rfl rfl d_Sc_copyFrom_69 rfl ?_
  refine Rj_aload_n (q := 73) d_Sc_copyFrom_72 rfl rfl rfl ?_
  refine Rj_gr (q := 76) (zd := 4) gD_Sc_9_3 rfl rfl d_Sc_copyFrom_73 rfl ?_
  refine Rj_iconst (q := 77) d_Sc_copyFrom_76 rfl ?_
  refine Rj_aload_n (q := 78) d_Sc_copyFrom_77 rfl rfl rfl ?_
  refine Rj_gr (q := 81) (zd := 32) gD_Sc_9_31 rfl rfl d_Sc_copyFrom_78 rfl ?_
  refine Rj_iconst (q := 82) d_Sc_copyFrom_81 rfl ?_
  refine Rj_bipush (q := 84) d_Sc_copyFrom_82 rfl (by decide +kernel) ?_
  refine Rj_cpyi (q := 87) ml_Sc_71 aD_4 aD_32 rfl rfl (by decide) (by decide) (by decide) (by decide) (by decide) d_Sc_copyFrom_84 rfl ?_
  refine Rj_aload_n (q := 88) d_Sc_copyFrom_87 rfl rfl rfl ?_
  refine Rj_gr (q := 91) (zd := 5) gD_Sc_15_3 rfl rfl d_Sc_copyFrom_88 rfl ?_
  refine Rj_iconst (q := 92) d_Sc_copyFrom_91 rfl ?_
  refine Rj_aload_n (q := 93) d_Sc_copyFrom_92 rfl rfl rfl ?_
  refine Rj_gr (q := 96) (zd := 33) gD_Sc_15_31 rfl rfl d_Sc_copyFrom_93 rfl ?_
  refine Rj_iconst (q := 97) d_Sc_copyFrom_96 rfl ?_
  refine Rj_bipush (q := 99) d_Sc_copyFrom_97 rfl (by decide +kernel) ?_
  refine Rj_cpyi (q := 102) ml_Sc_71 aD_5 aD_33 rfl rfl (by decide) (by decide) (by decide) (by decide) (by decide) d_Sc_copyFrom_99 rfl ?_
  refine Rj_aload_n (q := 103) d_Sc_copyFrom_102 rfl rfl rfl ?_
  refine Rj_gr (q := 106) (zd := 6) gD_Sc_18_3 rfl rfl d_Sc_copyFrom_103 rfl ?_
  refine Rj_iconst (q := 107) d_Sc_copyFrom_106 rfl ?_
  refine Rj_aload_n (q := 108) d_Sc_copyFrom_107 rfl rfl rfl ?_
  refine Rj_gr (q := 111) (zd := 34) gD_Sc_18_31 rfl rfl d_Sc_copyFrom_108 rfl ?_
  refine Rj_iconst (q := 112) d_Sc_copyFrom_111 rfl ?_
  refine Rj_bipush (q := 114) d_Sc_copyFrom_112 rfl (by decide +kernel) ?_
  refine Rj_cpyi (q := 117) ml_Sc_71 aD_6 aD_34 rfl rfl (by decide) (by decide) (by decide) (by decide) (by decide) d_Sc_copyFrom_114 rfl ?_
  refine Rj_aload_n (q := 118) d_Sc_copyFrom_117 rfl rfl rfl ?_
  refine Rj_gr (q := 121) (zd := 7) gD_Sc_21_3 rfl rfl d_Sc_copyFrom_118 rfl ?_
  refine Rj_iconst (q := 122) d_Sc_copyFrom_121 rfl ?_
  refine Rj_aload_n (q := 123) d_Sc_copyFrom_122 rfl rfl rfl ?_
  refine Rj_gr (q := 126) (zd := 35) gD_Sc_21_31 rfl rfl d_Sc_copyFrom_123 rfl ?_
  refine Rj_iconst (q := 127) d_Sc_copyFrom_126 rfl ?_
  refine Rj_bipush (q := 129) d_Sc_copyFrom_127 rfl (by decide +kernel) ?_
  refine Rj_cpyi (q := 132) ml_Sc_71 aD_7 aD_35 rfl rfl (by decide) (by decide) (by decide) (by decide) (by decide) d_Sc_copyFrom_129 rfl ?_
  refine Rj_aload_n (q := 133) d_Sc_copyFrom_132 rfl rfl rfl ?_
  refine Rj_gr (q := 136) (zd := 8) gD_Sc_24_3 rfl rfl d_Sc_copyFrom_133 rfl ?_
  refine Rj_iconst (q := 137) d_Sc_copyFrom_136 rfl ?_
  refine Rj_aload_n (q := 138) d_Sc_copyFrom_137 rfl rfl rfl ?_
  refine Rj_gr (q := 141) (zd := 36) gD_Sc_24_31 rfl rfl d_Sc_copyFrom_138 rfl ?_
  refine Rj_iconst (q := 142) d_Sc_copyFrom_141 rfl ?_
  refine Rj_bipush (q := 144) d_Sc_copyFrom_142 rfl (by decide +kernel) ?_
  refine Rj_cpyi (q := 147) ml_Sc_71 aD_8 aD_36 rfl rfl (by decide) (by decide) (by decide) (by decide) (by decide) d_Sc_copyFrom_144 rfl ?_
  refine Rj_aload_n (q := 148) d_Sc_copyFrom_147 rfl rfl rfl ?_
  refine Rj_gr (q := 151) (zd := 9) gD_Sc_27_3 rfl rfl d_Sc_copyFrom_148 rfl ?_
  refine Rj_iconst (q := 152) d_Sc_copyFrom_151 rfl ?_
  refine Rj_aload_n (q := 153) d_Sc_copyFrom_152 rfl rfl rfl ?_
  refine Rj_gr (q := 156) (zd := 37) gD_Sc_27_31 rfl rfl d_Sc_copyFrom_153 rfl ?_
  refine Rj_iconst (q := 157) d_Sc_copyFrom_156 rfl ?_
  refine Rj_bipush (q := 159) d_Sc_copyFrom_157 rfl (by decide +kernel) ?_
  refine Rj_cpyl (q := 162) ml_Sc_71 aD_9 aD_37 rfl rfl (by decide) (by decide) (by decide) (by decide) (by decide) d_Sc_copyFrom_159 rfl ?_
  refine Rj_aload_n (q := 163) d_Sc_copyFrom_162 rfl rfl rfl ?_
  refine Rj_gr (q := 166) (zd := 10) gD_Sc_31_3 rfl rfl d_Sc_copyFrom_163 rfl ?_
  refine Rj_iconst (q := 167) d_Sc_copyFrom_166 rfl ?_
  refine Rj_aload_n (q := 168) d_Sc_copyFrom_167 rfl rfl rfl ?_
  refine Rj_gr (q := 171) (zd := 38) gD_Sc_31_31 rfl rfl d_Sc_copyFrom_168 rfl ?_
  refine Rj_iconst (q := 172) d_Sc_copyFrom_171 rfl ?_
  refine Rj_bipush (q := 174) d_Sc_copyFrom_172 rfl (by decide +kernel) ?_
  refine Rj_cpyi (q := 177) ml_Sc_71 aD_10 aD_38 rfl rfl (by decide) (by decide) (by decide) (by decide) (by decide) d_Sc_copyFrom_174 rfl ?_
  refine Rj_aload_n (q := 178) d_Sc_copyFrom_177 rfl rfl rfl ?_
  refine Rj_gr (q := 181) (zd := 11) gD_Sc_34_3 rfl rfl d_Sc_copyFrom_178 rfl ?_
  refine Rj_iconst (q := 182) d_Sc_copyFrom_181 rfl ?_
  refine Rj_aload_n (q := 183) d_Sc_copyFrom_182 rfl rfl rfl ?_
  refine Rj_gr (q := 186) (zd := 39) gD_Sc_34_31 rfl rfl d_Sc_copyFrom_183 rfl ?_
  refine Rj_iconst (q := 187) d_Sc_copyFrom_186 rfl ?_
  refine Rj_bipush (q := 189) d_Sc_copyFrom_187 rfl (by decide +kernel) ?_
  refine Rj_cpyi (q := 192) ml_Sc_71 aD_11 aD_39 rfl rfl (by decide) (by decide) (by decide) (by decide) (by decide) d_Sc_copyFrom_189 rfl ?_
  refine Rj_vret d_Sc_copyFrom_192 rfl ?_
  exact hQ _ (Fr.cpy (Fr.cpy (Fr.cpy (Fr.cpy (Fr.cpy (Fr.cpy (Fr.cpy (Fr.cpy (Fr.put (Fr.put (Fr.put (Fr.put (Fr.put (Fr.put (Fr.put (Fr.put (Fr.put (Fr.refl _ _) (by decide)) (by decide)) (by decide)) (by decide)) (by decide)) (by decide)) (by decide)) (by decide)) (by decide)) (by intro i; simp [Wcp31])) (by intro i; simp [Wcp31])) (by intro i; simp [Wcp31])) (by intro i; simp [Wcp31])) (by intro i; simp [Wcp31])) (by intro i; simp [Wcp31])) (by intro i; simp [Wcp31])) (by intro i; simp [Wcp31])) ⟨⟨rfl, rfl, rfl, rfl, rfl, rfl, rfl, rfl⟩, fun i i0 i1 => by simp [mcpy, mset, i0, i1], fun i i0 i1 => by simp [mcpy, mset, i0, i1], fun i i0 i1 => by simp [mcpy, mset, i0, i1]⟩
abbrev Wcp40 (c : Nat) (_ : Int) : Prop := 40 ≤ c ∧ c ≤ 48
set_option maxHeartbeats 4000000 in
theorem s_copy_40_3 {μ : Mem} {Q : PV → Mem → Prop} (hQ : ∀ μ', Fr Wcp40 μ μ' → CPY μ μ' 40 3 → Q vU μ') : Rj YD y_Sc_copyFrom 0 [vA 40, vA 3] [] μ Q := by
  refine Rj_aload_n (q := 1) d_Sc_copyFrom_0 rfl rfl rfl ?_
  refine Rj_aload_n (q := 2) d_Sc_copyFrom_1 rfl rfl rfl ?_
  refine Rj_gi (q := 5) (ki := 0) (v := μ 3 0) gD_Sc_37_3 rfl rfl rfl d_Sc_copyFrom_2 rfl ?_
  refine Rj_pi (q := 8) (ki := 0) pD_Sc_37_40 rfl rfl d_Sc_copyFrom_5 rfl ?_
  refine Rj_aload_n (q := 9) d_Sc_copyFrom_8 rfl rfl rfl ?_
  refine Rj_aload_n (q := 10) d_Sc_copyFrom_9 rfl rfl rfl ?_
  refine Rj_gi (q := 13) (ki := 3) (v := μ 3 3) gD_Sc_41_3 rfl rfl rfl d_Sc_copyFrom_10 rfl ?_
  refine Rj_pi (q := 16) (ki := 3) pD_Sc_41_40 rfl rfl d_Sc_copyFrom_13 rfl ?_
  refine Rj_aload_n (q := 17) d_Sc_copyFrom_16 rfl rfl rfl ?_
  refine Rj_aload_n (q := 18) d_Sc_copyFrom_17 rfl rfl rfl ?_
  refine Rj_gi (q := 21) (ki := 4) (v := μ 3 4) gD_Sc_44_3 rfl rfl rfl d_Sc_copyFrom_18 rfl ?_
  refine Rj_pi (q := 24) (ki := 4) pD_Sc_44_40 rfl rfl d_Sc_copyFrom_21 rfl ?_
  refine Rj_aload_n (q := 25) d_Sc_copyFrom_24 rfl rfl rfl ?_
  refine Rj_aload_n (q := 26) d_Sc_copyFrom_25 rfl rfl rfl ?_
  refine Rj_gi (q := 29) (ki := 5) (v := μ 3 5) gD_Sc_47_3 rfl rfl rfl d_Sc_copyFrom_26 rfl ?_
  refine Rj_pi (q := 32) (ki := 5) pD_Sc_47_40 rfl rfl d_Sc_copyFrom_29 rfl ?_
  refine Rj_aload_n (q := 33) d_Sc_copyFrom_32 rfl rfl rfl ?_
  refine Rj_aload_n (q := 34) d_Sc_copyFrom_33 rfl rfl rfl ?_
  refine Rj_gi (q := 37) (ki := 10) (v := μ 3 10) gD_Sc_56_3 rfl rfl rfl d_Sc_copyFrom_34 rfl ?_
  refine Rj_pi (q := 40) (ki := 10) pD_Sc_56_40 rfl rfl d_Sc_copyFrom_37 rfl ?_
  refine Rj_aload_n (q := 41) d_Sc_copyFrom_40 rfl rfl rfl ?_
  refine Rj_aload_n (q := 42) d_Sc_copyFrom_41 rfl rfl rfl ?_
  refine Rj_gi (q := 45) (ki := 11) (v := μ 3 11) gD_Sc_59_3 rfl rfl rfl d_Sc_copyFrom_42 rfl ?_
  refine Rj_pi (q := 48) (ki := 11) pD_Sc_59_40 rfl rfl d_Sc_copyFrom_45 rfl ?_
  refine Rj_aload_n (q := 49) d_Sc_copyFrom_48 rfl rfl rfl ?_
  refine Rj_aload_n (q := 50) d_Sc_copyFrom_49 rfl rfl rfl ?_
  refine Rj_gi (q := 53) (ki := 12) (v := μ 3 12) gD_Sc_62_3 rfl rfl rfl d_Sc_copyFrom_50 rfl ?_
  refine Rj_pi (q := 56) (ki := 12) pD_Sc_62_40 rfl rfl d_Sc_copyFrom_53 rfl ?_
  refine Rj_aload_n (q := 57) d_Sc_copyFrom_56 rfl rfl rfl ?_
  refine Rj_aload_n (q := 58) d_Sc_copyFrom_57 rfl rfl rfl ?_
  refine Rj_gi (q := 61) (ki := 14) (v := μ 3 14) gD_Sc_65_3 rfl rfl rfl d_Sc_copyFrom_58 rfl ?_
  refine Rj_pi (q := 64) (ki := 14) pD_Sc_65_40 rfl rfl d_Sc_copyFrom_61 rfl ?_
  refine Rj_aload_n (q := 65) d_Sc_copyFrom_64 rfl rfl rfl ?_
  refine Rj_aload_n (q := 66) d_Sc_copyFrom_65 rfl rfl rfl ?_
  refine Rj_gi (q := 69) (ki := 16) (v := μ 3 16) gD_Sc_68_3 rfl rfl rfl d_Sc_copyFrom_66 rfl ?_
  refine Rj_pi (q := 72) (ki := 16) pD_Sc_68_40 rfl rfl d_Sc_copyFrom_69 rfl ?_
  refine Rj_aload_n (q := 73) d_Sc_copyFrom_72 rfl rfl rfl ?_
  refine Rj_gr (q := 76) (zd := 4) gD_Sc_9_3 rfl rfl d_Sc_copyFrom_73 rfl ?_
  refine Rj_iconst (q := 77) d_Sc_copyFrom_76 rfl ?_
  refine Rj_aload_n (q := 78) d_Sc_copyFrom_77 rfl rfl rfl ?_
  refine Rj_gr (q := 81) (zd := 41) gD_Sc_9_40 rfl rfl d_Sc_copyFrom_78 rfl ?_
  refine Rj_iconst (q := 82) d_Sc_copyFrom_81 rfl ?_
  refine Rj_bipush (q := 84) d_Sc_copyFrom_82 rfl (by decide +kernel) ?_
  refine Rj_cpyi (q := 87) ml_Sc_71 aD_4 aD_41 rfl rfl (by decide) (by decide) (by decide) (by decide) (by decide) d_Sc_copyFrom_84 rfl ?_
  refine Rj_aload_n (q := 88) d_Sc_copyFrom_87 rfl rfl rfl ?_
  refine Rj_gr (q := 91) (zd := 5) gD_Sc_15_3 rfl rfl d_Sc_copyFrom_88 rfl ?_
  refine Rj_iconst (q := 92) d_Sc_copyFrom_91 rfl ?_
  refine Rj_aload_n (q := 93) d_Sc_copyFrom_92 rfl rfl rfl ?_
  refine Rj_gr (q := 96) (zd := 42) gD_Sc_15_40 rfl rfl d_Sc_copyFrom_93 rfl ?_
  refine Rj_iconst (q := 97) d_Sc_copyFrom_96 rfl ?_
  refine Rj_bipush (q := 99) d_Sc_copyFrom_97 rfl (by decide +kernel) ?_
  refine Rj_cpyi (q := 102) ml_Sc_71 aD_5 aD_42 rfl rfl (by decide) (by decide) (by decide) (by decide) (by decide) d_Sc_copyFrom_99 rfl ?_
  refine Rj_aload_n (q := 103) d_Sc_copyFrom_102 rfl rfl rfl ?_
  refine Rj_gr (q := 106) (zd := 6) gD_Sc_18_3 rfl rfl d_Sc_copyFrom_103 rfl ?_
  refine Rj_iconst (q := 107) d_Sc_copyFrom_106 rfl ?_
  refine Rj_aload_n (q := 108) d_Sc_copyFrom_107 rfl rfl rfl ?_
  refine Rj_gr (q := 111) (zd := 43) gD_Sc_18_40 rfl rfl d_Sc_copyFrom_108 rfl ?_
  refine Rj_iconst (q := 112) d_Sc_copyFrom_111 rfl ?_
  refine Rj_bipush (q := 114) d_Sc_copyFrom_112 rfl (by decide +kernel) ?_
  refine Rj_cpyi (q := 117) ml_Sc_71 aD_6 aD_43 rfl rfl (by decide) (by decide) (by decide) (by decide) (by decide) d_Sc_copyFrom_114 rfl ?_
  refine Rj_aload_n (q := 118) d_Sc_copyFrom_117 rfl rfl rfl ?_
  refine Rj_gr (q := 121) (zd := 7) gD_Sc_21_3 rfl rfl d_Sc_copyFrom_118 rfl ?_
  refine Rj_iconst (q := 122) d_Sc_copyFrom_121 rfl ?_
  refine Rj_aload_n (q := 123) d_Sc_copyFrom_122 rfl rfl rfl ?_
  refine Rj_gr (q := 126) (zd := 44) gD_Sc_21_40 rfl rfl d_Sc_copyFrom_123 rfl ?_
  refine Rj_iconst (q := 127) d_Sc_copyFrom_126 rfl ?_
  refine Rj_bipush (q := 129) d_Sc_copyFrom_127 rfl (by decide +kernel) ?_
  refine Rj_cpyi (q := 132) ml_Sc_71 aD_7 aD_44 rfl rfl (by decide) (by decide) (by decide) (by decide) (by decide) d_Sc_copyFrom_129 rfl ?_
  refine Rj_aload_n (q := 133) d_Sc_copyFrom_132 rfl rfl rfl ?_
  refine Rj_gr (q := 136) (zd := 8) gD_Sc_24_3 rfl rfl d_Sc_copyFrom_133 rfl ?_
  refine Rj_iconst (q := 137) d_Sc_copyFrom_136 rfl ?_
  refine Rj_aload_n (q := 138) d_Sc_copyFrom_137 rfl rfl rfl ?_
  refine Rj_gr (q := 141) (zd := 45) gD_Sc_24_40 rfl rfl d_Sc_copyFrom_138 rfl ?_
  refine Rj_iconst (q := 142) d_Sc_copyFrom_141 rfl ?_
  refine Rj_bipush (q := 144) d_Sc_copyFrom_142 rfl (by decide +kernel) ?_
  refine Rj_cpyi (q := 147) ml_Sc_71 aD_8 aD_45 rfl rfl (by decide) (by decide) (by decide) (by decide) (by decide) d_Sc_copyFrom_144 rfl ?_
  refine Rj_aload_n (q := 148) d_Sc_copyFrom_147 rfl rfl rfl ?_
  refine Rj_gr (q := 151) (zd := 9) gD_Sc_27_3 rfl rfl d_Sc_copyFrom_148 rfl ?_
  refine Rj_iconst (q := 152) d_Sc_copyFrom_151 rfl ?_
  refine Rj_aload_n (q := 153) d_Sc_copyFrom_152 rfl rfl rfl ?_
  refine Rj_gr (q := 156) (zd := 46) gD_Sc_27_40 rfl rfl d_Sc_copyFrom_153 rfl ?_
  refine Rj_iconst (q := 157) d_Sc_copyFrom_156 rfl ?_
  refine Rj_bipush (q := 159) d_Sc_copyFrom_157 rfl (by decide +kernel) ?_
  refine Rj_cpyl (q := 162) ml_Sc_71 aD_9 aD_46 rfl rfl (by decide) (by decide) (by decide) (by decide) (by decide) d_Sc_copyFrom_159 rfl ?_
  refine Rj_aload_n (q := 163) d_Sc_copyFrom_162 rfl rfl rfl ?_
  refine Rj_gr (q := 166) (zd := 10) gD_Sc_31_3 rfl rfl d_Sc_copyFrom_163 rfl ?_
  refine Rj_iconst (q := 167) d_Sc_copyFrom_166 rfl ?_
  refine Rj_aload_n (q := 168) d_Sc_copyFrom_167 rfl rfl rfl ?_
  refine Rj_gr (q := 171) (zd := 47) gD_Sc_31_40 rfl rfl d_Sc_copyFrom_168 rfl ?_
  refine Rj_iconst (q := 172) d_Sc_copyFrom_171 rfl ?_
  refine Rj_bipush (q := 174) d_Sc_copyFrom_172 rfl (by decide +kernel) ?_
  refine Rj_cpyi (q := 177) ml_Sc_71 aD_10 aD_47 rfl rfl (by decide) (by decide) (by decide) (by decide) (by decide) d_Sc_copyFrom_174 rfl ?_
  refine Rj_aload_n (q := 178) d_Sc_copyFrom_177 rfl rfl rfl ?_
  refine Rj_gr (q := 181) (zd := 11) gD_Sc_34_3 rfl rfl d_Sc_copyFrom_178 rfl ?_
  refine Rj_iconst (q := 182) d_Sc_copyFrom_181 rfl ?_
  refine Rj_aload_n (q := 183) d_Sc_copyFrom_182 rfl rfl rfl ?_
  refine Rj_gr (q := 186) (zd := 48) gD_Sc_34_40 rfl rfl d_Sc_copyFrom_183 rfl ?_
  refine Rj_iconst (q := 187) d_Sc_copyFrom_186 rfl ?_
  refine Rj_bipush (q := 189) d_Sc_copyFrom_187 rfl (by decide +kernel) ?_
  refine Rj_cpyi (q := 192) ml_Sc_71 aD_11 aD_48 rfl rfl (by decide) (by decide) (by decide) (by decide) (by decide) d_Sc_copyFrom_189 rfl ?_
  refine Rj_vret d_Sc_copyFrom_192 rfl ?_
  exact hQ _ (Fr.cpy (Fr.cpy (Fr.cpy (Fr.cpy (Fr.cpy (Fr.cpy (Fr.cpy (Fr.cpy (Fr.put (Fr.put (Fr.put (Fr.put (Fr.put (Fr.put (Fr.put (Fr.put (Fr.put (Fr.refl _ _) (by decide)) (by decide)) (by decide)) (by decide)) (by decide)) (by decide)) (by decide)) (by decide)) (by decide)) (by intro i; simp [Wcp40])) (by intro i; simp [Wcp40])) (by intro i; simp [Wcp40])) (by intro i; simp [Wcp40])) (by intro i; simp [Wcp40])) (by intro i; simp [Wcp40])) (by intro i; simp [Wcp40])) (by intro i; simp [Wcp40])) ⟨⟨rfl, rfl, rfl, rfl, rfl, rfl, rfl, rfl⟩, fun i i0 i1 => by simp [mcpy, mset, i0, i1], fun i i0 i1 => by simp [mcpy, mset, i0, i1], fun i i0 i1 => by simp [mcpy, mset, i0, i1]⟩
abbrev Wcp49 (c : Nat) (_ : Int) : Prop := 49 ≤ c ∧ c ≤ 57
set_option maxHeartbeats 4000000 in
theorem s_copy_49_3 {μ : Mem} {Q : PV → Mem → Prop} (hQ : ∀ μ', Fr Wcp49 μ μ' → CPY μ μ' 49 3 → Q vU μ') : Rj YD y_Sc_copyFrom 0 [vA 49, vA 3] [] μ Q := by
  refine Rj_aload_n (q := 1) d_Sc_copyFrom_0 rfl rfl rfl ?_
  refine Rj_aload_n (q := 2) d_Sc_copyFrom_1 rfl rfl rfl ?_
  refine Rj_gi (q := 5) (ki := 0) (v := μ 3 0) gD_Sc_37_3 rfl rfl rfl d_Sc_copyFrom_2 rfl ?_
  refine Rj_pi (q := 8) (ki := 0) pD_Sc_37_49 rfl rfl d_Sc_copyFrom_5 rfl ?_
  refine Rj_aload_n (q := 9) d_Sc_copyFrom_8 rfl rfl rfl ?_
  refine Rj_aload_n (q := 10) d_Sc_copyFrom_9 rfl rfl rfl ?_
  refine Rj_gi (q := 13) (ki := 3) (v := μ 3 3) gD_Sc_41_3 rfl rfl rfl d_Sc_copyFrom_10 rfl ?_
  refine Rj_pi (q := 16) (ki := 3) pD_Sc_41_49 rfl rfl d_Sc_copyFrom_13 rfl ?_
  refine Rj_aload_n (q := 17) d_Sc_copyFrom_16 rfl rfl rfl ?_
  refine Rj_aload_n (q := 18) d_Sc_copyFrom_17 rfl rfl rfl ?_
  refine Rj_gi (q := 21) (ki := 4) (v := μ 3 4) gD_Sc_44_3 rfl rfl rfl d_Sc_copyFrom_18 rfl ?_
  refine Rj_pi (q := 24) (ki := 4) pD_Sc_44_49 rfl rfl d_Sc_copyFrom_21 rfl ?_
  refine Rj_aload_n (q := 25) d_Sc_copyFrom_24 rfl rfl rfl ?_
  refine Rj_aload_n (q := 26) d_Sc_copyFrom_25 rfl rfl rfl ?_
  refine Rj_gi (q := 29) (ki := 5) (v := μ 3 5) gD_Sc_47_3 rfl rfl rfl d_Sc_copyFrom_26 rfl ?_
  refine Rj_pi (q := 32) (ki := 5) pD_Sc_47_49 rfl rfl d_Sc_copyFrom_29 rfl ?_
  refine Rj_aload_n (q := 33) d_Sc_copyFrom_32 rfl rfl rfl ?_
  refine Rj_aload_n (q := 34) d_Sc_copyFrom_33 rfl rfl rfl ?_
  refine Rj_gi (q := 37) (ki := 10) (v := μ 3 10) gD_Sc_56_3 rfl rfl rfl d_Sc_copyFrom_34 rfl ?_
  refine Rj_pi (q := 40) (ki := 10) pD_Sc_56_49 rfl rfl d_Sc_copyFrom_37 rfl ?_
  refine Rj_aload_n (q := 41) d_Sc_copyFrom_40 rfl rfl rfl ?_
  refine Rj_aload_n (q := 42) d_Sc_copyFrom_41 rfl rfl rfl ?_
  refine Rj_gi (q := 45) (ki := 11) (v := μ 3 11) gD_Sc_59_3 rfl rfl rfl d_Sc_copyFrom_42 rfl ?_
  refine Rj_pi (q := 48) (ki := 11) pD_Sc_59_49 rfl rfl d_Sc_copyFrom_45 rfl ?_
  refine Rj_aload_n (q := 49) d_Sc_copyFrom_48 rfl rfl rfl ?_
  refine Rj_aload_n (q := 50) d_Sc_copyFrom_49 rfl rfl rfl ?_
  refine Rj_gi (q := 53) (ki := 12) (v := μ 3 12) gD_Sc_62_3 rfl rfl rfl d_Sc_copyFrom_50 rfl ?_
  refine Rj_pi (q := 56) (ki := 12) pD_Sc_62_49 rfl rfl d_Sc_copyFrom_53 rfl ?_
  refine Rj_aload_n (q := 57) d_Sc_copyFrom_56 rfl rfl rfl ?_
  refine Rj_aload_n (q := 58) d_Sc_copyFrom_57 rfl rfl rfl ?_
  refine Rj_gi (q := 61) (ki := 14) (v := μ 3 14) gD_Sc_65_3 rfl rfl rfl d_Sc_copyFrom_58 rfl ?_
  refine Rj_pi (q := 64) (ki := 14) pD_Sc_65_49 rfl rfl d_Sc_copyFrom_61 rfl ?_
  refine Rj_aload_n (q := 65) d_Sc_copyFrom_64 rfl rfl rfl ?_
  refine Rj_aload_n (q := 66) d_Sc_copyFrom_65 rfl rfl rfl ?_
  refine Rj_gi (q := 69) (ki := 16) (v := μ 3 16) gD_Sc_68_3 rfl rfl rfl d_Sc_copyFrom_66 rfl ?_
  refine Rj_pi (q := 72) (ki := 16) pD_Sc_68_49 rfl rfl d_Sc_copyFrom_69 rfl ?_
  refine Rj_aload_n (q := 73) d_Sc_copyFrom_72 rfl rfl rfl ?_
  refine Rj_gr (q := 76) (zd := 4) gD_Sc_9_3 rfl rfl d_Sc_copyFrom_73 rfl ?_
  refine Rj_iconst (q := 77) d_Sc_copyFrom_76 rfl ?_
  refine Rj_aload_n (q := 78) d_Sc_copyFrom_77 rfl rfl rfl ?_
  refine Rj_gr (q := 81) (zd := 50) gD_Sc_9_49 rfl rfl d_Sc_copyFrom_78 rfl ?_
  refine Rj_iconst (q := 82) d_Sc_copyFrom_81 rfl ?_
  refine Rj_bipush (q := 84) d_Sc_copyFrom_82 rfl (by decide +kernel) ?_
  refine Rj_cpyi (q := 87) ml_Sc_71 aD_4 aD_50 rfl rfl (by decide) (by decide) (by decide) (by decide) (by decide) d_Sc_copyFrom_84 rfl ?_
  refine Rj_aload_n (q := 88) d_Sc_copyFrom_87 rfl rfl rfl ?_
  refine Rj_gr (q := 91) (zd := 5) gD_Sc_15_3 rfl rfl d_Sc_copyFrom_88 rfl ?_
  refine Rj_iconst (q := 92) d_Sc_copyFrom_91 rfl ?_
  refine Rj_aload_n (q := 93) d_Sc_copyFrom_92 rfl rfl rfl ?_
  refine Rj_gr (q := 96) (zd := 51) gD_Sc_15_49 rfl rfl d_Sc_copyFrom_93 rfl ?_
  refine Rj_iconst (q := 97) d_Sc_copyFrom_96 rfl ?_
  refine Rj_bipush (q := 99) d_Sc_copyFrom_97 rfl (by decide +kernel) ?_
  refine Rj_cpyi (q := 102) ml_Sc_71 aD_5 aD_51 rfl rfl (by decide) (by decide) (by decide) (by decide) (by decide) d_Sc_copyFrom_99 rfl ?_
  refine Rj_aload_n (q := 103) d_Sc_copyFrom_102 rfl rfl rfl ?_
  refine Rj_gr (q := 106) (zd := 6) gD_Sc_18_3 rfl rfl d_Sc_copyFrom_103 rfl ?_
  refine Rj_iconst (q := 107) d_Sc_copyFrom_106 rfl ?_
  refine Rj_aload_n (q := 108) d_Sc_copyFrom_107 rfl rfl rfl ?_
  refine Rj_gr (q := 111) (zd := 52) gD_Sc_18_49 rfl rfl d_Sc_copyFrom_108 rfl ?_
  refine Rj_iconst (q := 112) d_Sc_copyFrom_111 rfl ?_
  refine Rj_bipush (q := 114) d_Sc_copyFrom_112 rfl (by decide +kernel) ?_
  refine Rj_cpyi (q := 117) ml_Sc_71 aD_6 aD_52 rfl rfl (by decide) (by decide) (by decide) (by decide) (by decide) d_Sc_copyFrom_114 rfl ?_
  refine Rj_aload_n (q := 118) d_Sc_copyFrom_117 rfl rfl rfl ?_
  refine Rj_gr (q := 121) (zd := 7) gD_Sc_21_3 rfl rfl d_Sc_copyFrom_118 rfl ?_
  refine Rj_iconst (q := 122) d_Sc_copyFrom_121 rfl ?_
  refine Rj_aload_n (q := 123) d_Sc_copyFrom_122 rfl rfl rfl ?_
  refine Rj_gr (q := 126) (zd := 53) gD_Sc_21_49 rfl rfl d_Sc_copyFrom_123 rfl ?_
  refine Rj_iconst (q := 127) d_Sc_copyFrom_126 rfl ?_
  refine Rj_bipush (q := 129) d_Sc_copyFrom_127 rfl (by decide +kernel) ?_
  refine Rj_cpyi (q := 132) ml_Sc_71 aD_7 aD_53 rfl rfl (by decide) (by decide) (by decide) (by decide) (by decide) d_Sc_copyFrom_129 rfl ?_
  refine Rj_aload_n (q := 133) d_Sc_copyFrom_132 rfl rfl rfl ?_
  refine Rj_gr (q := 136) (zd := 8) gD_Sc_24_3 rfl rfl d_Sc_copyFrom_133 rfl ?_
  refine Rj_iconst (q := 137) d_Sc_copyFrom_136 rfl ?_
  refine Rj_aload_n (q := 138) d_Sc_copyFrom_137 rfl rfl rfl ?_
  refine Rj_gr (q := 141) (zd := 54) gD_Sc_24_49 rfl rfl d_Sc_copyFrom_138 rfl ?_
  refine Rj_iconst (q := 142) d_Sc_copyFrom_141 rfl ?_
  refine Rj_bipush (q := 144) d_Sc_copyFrom_142 rfl (by decide +kernel) ?_
  refine Rj_cpyi (q := 147) ml_Sc_71 aD_8 aD_54 rfl rfl (by decide) (by decide) (by decide) (by decide) (by decide) d_Sc_copyFrom_144 rfl ?_
  refine Rj_aload_n (q := 148) d_Sc_copyFrom_147 rfl rfl rfl ?_
  refine Rj_gr (q := 151) (zd := 9) gD_Sc_27_3 rfl rfl d_Sc_copyFrom_148 rfl ?_
  refine Rj_iconst (q := 152) d_Sc_copyFrom_151 rfl ?_
  refine Rj_aload_n (q := 153) d_Sc_copyFrom_152 rfl rfl rfl ?_
  refine Rj_gr (q := 156) (zd := 55) gD_Sc_27_49 rfl rfl d_Sc_copyFrom_153 rfl ?_
  refine Rj_iconst (q := 157) d_Sc_copyFrom_156 rfl ?_
  refine Rj_bipush (q := 159) d_Sc_copyFrom_157 rfl (by decide +kernel) ?_
  refine Rj_cpyl (q := 162) ml_Sc_71 aD_9 aD_55 rfl rfl (by decide) (by decide) (by decide) (by decide) (by decide) d_Sc_copyFrom_159 rfl ?_
  refine Rj_aload_n (q := 163) d_Sc_copyFrom_162 rfl rfl rfl ?_
  refine Rj_gr (q := 166) (zd := 10) gD_Sc_31_3 rfl rfl d_Sc_copyFrom_163 rfl ?_
  refine Rj_iconst (q := 167) d_Sc_copyFrom_166 rfl ?_
  refine Rj_aload_n (q := 168) d_Sc_copyFrom_167 rfl rfl rfl ?_
  refine Rj_gr (q := 171) (zd := 56) gD_Sc_31_49 rfl rfl d_Sc_copyFrom_168 rfl ?_
  refine Rj_iconst (q := 172) d_Sc_copyFrom_171 rfl ?_
  refine Rj_bipush (q := 174) d_Sc_copyFrom_172 rfl (by decide +kernel) ?_
  refine Rj_cpyi (q := 177) ml_Sc_71 aD_10 aD_56 rfl rfl (by decide) (by decide) (by decide) (by decide) (by decide) d_Sc_copyFrom_174 rfl ?_
  refine Rj_aload_n (q := 178) d_Sc_copyFrom_177 rfl rfl rfl ?_
  refine Rj_gr (q := 181) (zd := 11) gD_Sc_34_3 rfl rfl d_Sc_copyFrom_178 rfl ?_
  refine Rj_iconst (q := 182) d_Sc_copyFrom_181 rfl ?_
  refine Rj_aload_n (q := 183) d_Sc_copyFrom_182 rfl rfl rfl ?_
  refine Rj_gr (q := 186) (zd := 57) gD_Sc_34_49 rfl rfl d_Sc_copyFrom_183 rfl ?_
  refine Rj_iconst (q := 187) d_Sc_copyFrom_186 rfl ?_
  refine Rj_bipush (q := 189) d_Sc_copyFrom_187 rfl (by decide +kernel) ?_
  refine Rj_cpyi (q := 192) ml_Sc_71 aD_11 aD_57 rfl rfl (by decide) (by decide) (by decide) (by decide) (by decide) d_Sc_copyFrom_189 rfl ?_
  refine Rj_vret d_Sc_copyFrom_192 rfl ?_
  exact hQ _ (Fr.cpy (Fr.cpy (Fr.cpy (Fr.cpy (Fr.cpy (Fr.cpy (Fr.cpy (Fr.cpy (Fr.put (Fr.put (Fr.put (Fr.put (Fr.put (Fr.put (Fr.put (Fr.put (Fr.put (Fr.refl _ _) (by decide)) (by decide)) (by decide)) (by decide)) (by decide)) (by decide)) (by decide)) (by decide)) (by decide)) (by intro i; simp [Wcp49])) (by intro i; simp [Wcp49])) (by intro i; simp [Wcp49])) (by intro i; simp [Wcp49])) (by intro i; simp [Wcp49])) (by intro i; simp [Wcp49])) (by intro i; simp [Wcp49])) (by intro i; simp [Wcp49])) ⟨⟨rfl, rfl, rfl, rfl, rfl, rfl, rfl, rfl⟩, fun i i0 i1 => by simp [mcpy, mset, i0, i1], fun i i0 i1 => by simp [mcpy, mset, i0, i1], fun i i0 i1 => by simp [mcpy, mset, i0, i1]⟩
set_option maxHeartbeats 4000000 in
theorem s_copy_3_22 {μ : Mem} {Q : PV → Mem → Prop} (hQ : ∀ μ', Fr Wcp3 μ μ' → CPY μ μ' 3 22 → Q vU μ') : Rj YD y_Sc_copyFrom 0 [vA 3, vA 22] [] μ Q := by
  refine Rj_aload_n (q := 1) d_Sc_copyFrom_0 rfl rfl rfl ?_
  refine Rj_aload_n (q := 2) d_Sc_copyFrom_1 rfl rfl rfl ?_
  refine Rj_gi (q := 5) (ki := 0) (v := μ 22 0) gD_Sc_37_22 rfl rfl rfl d_Sc_copyFrom_2 rfl ?_
  refine Rj_pi (q := 8) (ki := 0) pD_Sc_37_3 rfl rfl d_Sc_copyFrom_5 rfl ?_
  refine Rj_aload_n (q := 9) d_Sc_copyFrom_8 rfl rfl rfl ?_
  refine Rj_aload_n (q := 10) d_Sc_copyFrom_9 rfl rfl rfl ?_
  refine Rj_gi (q := 13) (ki := 3) (v := μ 22 3) gD_Sc_41_22 rfl rfl rfl d_Sc_copyFrom_10 rfl ?_
  refine Rj_pi (q := 16) (ki := 3) pD_Sc_41_3 rfl rfl d_Sc_copyFrom_13 rfl ?_
  refine Rj_aload_n (q := 17) d_Sc_copyFrom_16 rfl rfl rfl ?_
  refine Rj_aload_n (q := 18) d_Sc_copyFrom_17 rfl rfl rfl ?_
  refine Rj_gi (q := 21) (ki := 4) (v := μ 22 4) gD_Sc_44_22 rfl rfl rfl d_Sc_copyFrom_18 rfl ?_
  refine Rj_pi (q := 24) (ki := 4) pD_Sc_44_3 rfl rfl d_Sc_copyFrom_21 rfl ?_
  refine Rj_aload_n (q := 25) d_Sc_copyFrom_24 rfl rfl rfl ?_
  refine Rj_aload_n (q := 26) d_Sc_copyFrom_25 rfl rfl rfl ?_
  refine Rj_gi (q := 29) (ki := 5) (v := μ 22 5) gD_Sc_47_22 rfl rfl rfl d_Sc_copyFrom_26 rfl ?_
  refine Rj_pi (q := 32) (ki := 5) pD_Sc_47_3 rfl rfl d_Sc_copyFrom_29 rfl ?_
  refine Rj_aload_n (q := 33) d_Sc_copyFrom_32 rfl rfl rfl ?_
  refine Rj_aload_n (q := 34) d_Sc_copyFrom_33 rfl rfl rfl ?_
  refine Rj_gi (q := 37) (ki := 10) (v := μ 22 10) gD_Sc_56_22 rfl rfl rfl d_Sc_copyFrom_34 rfl ?_
  refine Rj_pi (q := 40) (ki := 10) pD_Sc_56_3 rfl rfl d_Sc_copyFrom_37 rfl ?_
  refine Rj_aload_n (q := 41) d_Sc_copyFrom_40 rfl rfl rfl ?_
  refine Rj_aload_n (q := 42) d_Sc_copyFrom_41 rfl rfl rfl ?_
  refine Rj_gi (q := 45) (ki := 11) (v := μ 22 11) gD_Sc_59_22 rfl rfl rfl d_Sc_copyFrom_42 rfl ?_
  refine Rj_pi (q := 48) (ki := 11) pD_Sc_59_3 rfl rfl d_Sc_copyFrom_45 rfl ?_
  refine Rj_aload_n (q := 49) d_Sc_copyFrom_48 rfl rfl rfl ?_
  refine Rj_aload_n (q := 50) d_Sc_copyFrom_49 rfl rfl rfl ?_
  refine Rj_gi (q := 53) (ki := 12) (v := μ 22 12) gD_Sc_62_22 rfl rfl rfl d_Sc_copyFrom_50 rfl ?_
  refine Rj_pi (q := 56) (ki := 12) pD_Sc_62_3 rfl rfl d_Sc_copyFrom_53 rfl ?_
  refine Rj_aload_n (q := 57) d_Sc_copyFrom_56 rfl rfl rfl ?_
  refine Rj_aload_n (q := 58) d_Sc_copyFrom_57 rfl rfl rfl ?_
  refine Rj_gi (q := 61) (ki := 14) (v := μ 22 14) gD_Sc_65_22 rfl rfl rfl d_Sc_copyFrom_58 rfl ?_
  refine Rj_pi (q := 64) (ki := 14) pD_Sc_65_3 rfl rfl d_Sc_copyFrom_61 rfl ?_
  refine Rj_aload_n (q := 65) d_Sc_copyFrom_64 rfl rfl rfl ?_
  refine Rj_aload_n (q := 66) d_Sc_copyFrom_65 rfl rfl rfl ?_
  refine Rj_gi (q := 69) (ki := 16) (v := μ 22 16) gD_Sc_68_22 rfl rfl rfl d_Sc_copyFrom_66 rfl ?_
  refine Rj_pi (q := 72) (ki := 16) pD_Sc_68_3 rfl rfl d_Sc_copyFrom_69 rfl ?_
  refine Rj_aload_n (q := 73) d_Sc_copyFrom_72 rfl rfl rfl ?_
  refine Rj_gr (q := 76) (zd := 23) gD_Sc_9_22 rfl rfl d_Sc_copyFrom_73 rfl ?_
  refine Rj_iconst (q := 77) d_Sc_copyFrom_76 rfl ?_
  refine Rj_aload_n (q := 78) d_Sc_copyFrom_77 rfl rfl rfl ?_
  refine Rj_gr (q := 81) (zd := 4) gD_Sc_9_3 rfl rfl d_Sc_copyFrom_78 rfl ?_
  refine Rj_iconst (q := 82) d_Sc_copyFrom_81 rfl ?_
  refine Rj_bipush (q := 84) d_Sc_copyFrom_82 rfl (by decide +kernel) ?_
  refine Rj_cpyi (q := 87) ml_Sc_71 aD_23 aD_4 rfl rfl (by decide) (by decide) (by decide) (by decide) (by decide) d_Sc_copyFrom_84 rfl ?_
  refine Rj_aload_n (q := 88) d_Sc_copyFrom_87 rfl rfl rfl ?_
  refine Rj_gr (q := 91) (zd := 24) gD_Sc_15_22 rfl rfl d_Sc_copyFrom_88 rfl ?_
  refine Rj_iconst (q := 92) d_Sc_copyFrom_91 rfl ?_
  refine Rj_aload_n (q := 93) d_Sc_copyFrom_92 rfl rfl rfl ?_
  refine Rj_gr (q := 96) (zd := 5) gD_Sc_15_3 rfl rfl d_Sc_copyFrom_93 rfl ?_
  refine Rj_iconst (q := 97) d_Sc_copyFrom_96 rfl ?_
  refine Rj_bipush (q := 99) d_Sc_copyFrom_97 rfl (by decide +kernel) ?_
  refine Rj_cpyi (q := 102) ml_Sc_71 aD_24 aD_5 rfl rfl (by decide) (by decide) (by decide) (by decide) (by decide) d_Sc_copyFrom_99 rfl ?_
  refine Rj_aload_n (q := 103) d_Sc_copyFrom_102 rfl rfl rfl ?_
  refine Rj_gr (q := 106) (zd := 25) gD_Sc_18_22 rfl rfl d_Sc_copyFrom_103 rfl ?_
  refine Rj_iconst (q := 107) d_Sc_copyFrom_106 rfl ?_
  refine Rj_aload_n (q := 108) d_Sc_copyFrom_107 rfl rfl rfl ?_
  refine Rj_gr (q := 111) (zd := 6) gD_Sc_18_3 rfl rfl d_Sc_copyFrom_108 rfl ?_
  refine Rj_iconst (q := 112) d_Sc_copyFrom_111 rfl ?_
  refine Rj_bipush (q := 114) d_Sc_copyFrom_112 rfl (by decide +kernel) ?_
  refine Rj_cpyi (q := 117) ml_Sc_71 aD_25 aD_6 rfl rfl (by decide) (by decide) (by decide) (by decide) (by decide) d_Sc_copyFrom_114 rfl ?_
  refine Rj_aload_n (q := 118) d_Sc_copyFrom_117 rfl rfl rfl ?_
  refine Rj_gr (q := 121) (zd := 26) gD_Sc_21_22 rfl rfl d_Sc_copyFrom_118 rfl ?_
  refine Rj_iconst (q := 122) d_Sc_copyFrom_121 rfl ?_
  refine Rj_aload_n (q := 123) d_Sc_copyFrom_122 rfl rfl rfl ?_
  refine Rj_gr (q := 126) (zd := 7) gD_Sc_21_3 rfl rfl d_Sc_copyFrom_123 rfl ?_
  refine Rj_iconst (q := 127) d_Sc_copyFrom_126 rfl ?_
  refine Rj_bipush (q := 129) d_Sc_copyFrom_127 rfl (by decide +kernel) ?_
  refine Rj_cpyi (q := 132) ml_Sc_71 aD_26 aD_7 rfl rfl (by decide) (by decide) (by decide) (by decide) (by decide) d_Sc_copyFrom_129 rfl ?_
  refine Rj_aload_n (q := 133) d_Sc_copyFrom_132 rfl rfl rfl ?_
  refine Rj_gr (q := 136) (zd := 27) gD_Sc_24_22 rfl rfl d_Sc_copyFrom_133 rfl ?_
  refine Rj_iconst (q := 137) d_Sc_copyFrom_136 rfl ?_
  refine Rj_aload_n (q := 138) d_Sc_copyFrom_137 rfl rfl rfl ?_
  refine Rj_gr (q := 141) (zd := 8) gD_Sc_24_3 rfl rfl d_Sc_copyFrom_138 rfl ?_
  refine Rj_iconst (q := 142) d_Sc_copyFrom_141 rfl ?_
  refine Rj_bipush (q := 144) d_Sc_copyFrom_142 rfl (by decide +kernel) ?_
  refine Rj_cpyi (q := 147) ml_Sc_71 aD_27 aD_8 rfl rfl (by decide) (by decide) (by decide) (by decide) (by decide) d_Sc_copyFrom_144 rfl ?_
  refine Rj_aload_n (q := 148) d_Sc_copyFrom_147 rfl rfl rfl ?_
  refine Rj_gr (q := 151) (zd := 28) gD_Sc_27_22 rfl rfl d_Sc_copyFrom_148 rfl ?_
  refine Rj_iconst (q := 152) d_Sc_copyFrom_151 rfl ?_
  refine Rj_aload_n (q := 153) d_Sc_copyFrom_152 rfl rfl rfl ?_
  refine Rj_gr (q := 156) (zd := 9) gD_Sc_27_3 rfl rfl d_Sc_copyFrom_153 rfl ?_
  refine Rj_iconst (q := 157) d_Sc_copyFrom_156 rfl ?_
  refine Rj_bipush (q := 159) d_Sc_copyFrom_157 rfl (by decide +kernel) ?_
  refine Rj_cpyl (q := 162) ml_Sc_71 aD_28 aD_9 rfl rfl (by decide) (by decide) (by decide) (by decide) (by decide) d_Sc_copyFrom_159 rfl ?_
  refine Rj_aload_n (q := 163) d_Sc_copyFrom_162 rfl rfl rfl ?_
  refine Rj_gr (q := 166) (zd := 29) gD_Sc_31_22 rfl rfl d_Sc_copyFrom_163 rfl ?_
  refine Rj_iconst (q := 167) d_Sc_copyFrom_166 rfl ?_
  refine Rj_aload_n (q := 168) d_Sc_copyFrom_167 rfl rfl rfl ?_
  refine Rj_gr (q := 171) (zd := 10) gD_Sc_31_3 rfl rfl d_Sc_copyFrom_168 rfl ?_
  refine Rj_iconst (q := 172) d_Sc_copyFrom_171 rfl ?_
  refine Rj_bipush (q := 174) d_Sc_copyFrom_172 rfl (by decide +kernel) ?_
  refine Rj_cpyi (q := 177) ml_Sc_71 aD_29 aD_10 rfl rfl (by decide) (by decide) (by decide) (by decide) (by decide) d_Sc_copyFrom_174 rfl ?_
  refine Rj_aload_n (q := 178) d_Sc_copyFrom_177 rfl rfl rfl ?_
  refine Rj_gr (q := 181) (zd := 30) gD_Sc_34_22 rfl rfl d_Sc_copyFrom_178 rfl ?_
  refine Rj_iconst (q := 182) d_Sc_copyFrom_181 rfl ?_
  refine Rj_aload_n (q := 183) d_Sc_copyFrom_182 rfl rfl rfl ?_
  refine Rj_gr (q := 186) (zd := 11) gD_Sc_34_3 rfl rfl d_Sc_copyFrom_183 rfl ?_
  refine Rj_iconst (q := 187) d_Sc_copyFrom_186 rfl ?_
  refine Rj_bipush (q := 189) d_Sc_copyFrom_187 rfl (by decide +kernel) ?_
  refine Rj_cpyi (q := 192) ml_Sc_71 aD_30 aD_11 rfl rfl (by decide) (by decide) (by decide) (by decide) (by decide) d_Sc_copyFrom_189 rfl ?_
  refine Rj_vret d_Sc_copyFrom_192 rfl ?_
  exact hQ _ (Fr.cpy (Fr.cpy (Fr.cpy (Fr.cpy (Fr.cpy (Fr.cpy (Fr.cpy (Fr.cpy (Fr.put (Fr.put (Fr.put (Fr.put (Fr.put (Fr.put (Fr.put (Fr.put (Fr.put (Fr.refl _ _) (by decide)) (by decide)) (by decide)) (by decide)) (by decide)) (by decide)) (by decide)) (by decide)) (by decide)) (by intro i; simp [Wcp3])) (by intro i; simp [Wcp3])) (by intro i; simp [Wcp3])) (by intro i; simp [Wcp3])) (by intro i; simp [Wcp3])) (by intro i; simp [Wcp3])) (by intro i; simp [Wcp3])) (by intro i; simp [Wcp3])) ⟨⟨rfl, rfl, rfl, rfl, rfl, rfl, rfl, rfl⟩, fun i i0 i1 => by simp [mcpy, mset, i0, i1], fun i i0 i1 => by simp [mcpy, mset, i0, i1], fun i i0 i1 => by simp [mcpy, mset, i0, i1]⟩
set_option maxHeartbeats 4000000 in
theorem s_copy_3_31 {μ : Mem} {Q : PV → Mem → Prop} (hQ : ∀ μ', Fr Wcp3 μ μ' → CPY μ μ' 3 31 → Q vU μ') : Rj YD y_Sc_copyFrom 0 [vA 3, vA 31] [] μ Q := by
  refine Rj_aload_n (q := 1) d_Sc_copyFrom_0 rfl rfl rfl ?_
  refine Rj_aload_n (q := 2) d_Sc_copyFrom_1 rfl rfl rfl ?_
  refine Rj_gi (q := 5) (ki := 0) (v := μ 31 0) gD_Sc_37_31 rfl rfl rfl d_Sc_copyFrom_2 rfl ?_
  refine Rj_pi (q := 8) (ki := 0) pD_Sc_37_3 rfl rfl d_Sc_copyFrom_5 rfl ?_
  refine Rj_aload_n (q := 9) d_Sc_copyFrom_8 rfl rfl rfl ?_
  refine Rj_aload_n (q := 10) d_Sc_copyFrom_9 rfl rfl rfl ?_
  refine Rj_gi (q := 13) (ki := 3) (v := μ 31 3) gD_Sc_41_31 rfl rfl rfl d_Sc_copyFrom_10 rfl ?_
  refine Rj_pi (q := 16) (ki := 3) pD_Sc_41_3 rfl rfl d_Sc_copyFrom_13 rfl ?_
  refine Rj_aload_n (q := 17) d_Sc_copyFrom_16 rfl rfl rfl ?_
  refine Rj_aload_n (q := 18) d_Sc_copyFrom_17 rfl rfl rfl ?_
  refine Rj_gi (q := 21) (ki := 4) (v := μ 31 4) gD_Sc_44_31 rfl rfl rfl d_Sc_copyFrom_18 rfl ?_
  refine Rj_pi (q := 24) (ki := 4) pD_Sc_44_3 rfl rfl d_Sc_copyFrom_21 rfl ?_
  refine Rj_aload_n (q := 25) d_Sc_copyFrom_24 rfl rfl rfl ?_
  refine Rj_aload_n (q := 26) d_Sc_copyFrom_25 rfl rfl rfl ?_
  refine Rj_gi (q := 29) (ki := 5) (v := μ 31 5) gD_Sc_47_31 rfl rfl rfl d_Sc_copyFrom_26 rfl ?_
  refine Rj_pi (q := 32) (ki := 5) pD_Sc_47_3 rfl rfl d_Sc_copyFrom_29 rfl ?_
  refine Rj_aload_n (q := 33) d_Sc_copyFrom_32 rfl rfl rfl ?_
  refine Rj_aload_n (q := 34) d_Sc_copyFrom_33 rfl rfl rfl ?_
  refine Rj_gi (q := 37) (ki := 10) (v := μ 31 10) gD_Sc_56_31 rfl rfl rfl d_Sc_copyFrom_34 rfl ?_
  refine Rj_pi (q := 40) (ki := 10) pD_Sc_56_3 rfl rfl d_Sc_copyFrom_37 rfl ?_
  refine Rj_aload_n (q := 41) d_Sc_copyFrom_40 rfl rfl rfl ?_
  refine Rj_aload_n (q := 42) d_Sc_copyFrom_41 rfl rfl rfl ?_
  refine Rj_gi (q := 45) (ki := 11) (v := μ 31 11) gD_Sc_59_31 rfl rfl rfl d_Sc_copyFrom_42 rfl ?_
  refine Rj_pi (q := 48) (ki := 11) pD_Sc_59_3 rfl rfl d_Sc_copyFrom_45 rfl ?_
  refine Rj_aload_n (q := 49) d_Sc_copyFrom_48 rfl rfl rfl ?_
  refine Rj_aload_n (q := 50) d_Sc_copyFrom_49 rfl rfl rfl ?_
  refine Rj_gi (q := 53) (ki := 12) (v := μ 31 12) gD_Sc_62_31 rfl rfl rfl d_Sc_copyFrom_50 rfl ?_
  refine Rj_pi (q := 56) (ki := 12) pD_Sc_62_3 rfl rfl d_Sc_copyFrom_53 rfl ?_
  refine Rj_aload_n (q := 57) d_Sc_copyFrom_56 rfl rfl rfl ?_
  refine Rj_aload_n (q := 58) d_Sc_copyFrom_57 rfl rfl rfl ?_
  refine Rj_gi (q := 61) (ki := 14) (v := μ 31 14) gD_Sc_65_31 rfl rfl rfl d_Sc_copyFrom_58 rfl ?_
  refine Rj_pi (q := 64) (ki := 14) pD_Sc_65_3 rfl rfl d_Sc_copyFrom_61 rfl ?_
  refine Rj_aload_n (q := 65) d_Sc_copyFrom_64 rfl rfl rfl ?_
  refine Rj_aload_n (q := 66) d_Sc_copyFrom_65 rfl rfl rfl ?_
  refine Rj_gi (q := 69) (ki := 16) (v := μ 31 16) gD_Sc_68_31 rfl rfl rfl d_Sc_copyFrom_66 rfl ?_
  refine Rj_pi (q := 72) (ki := 16) pD_Sc_68_3 rfl rfl d_Sc_copyFrom_69 rfl ?_
  refine Rj_aload_n (q := 73) d_Sc_copyFrom_72 rfl rfl rfl ?_
  refine Rj_gr (q := 76) (zd := 32) gD_Sc_9_31 rfl rfl d_Sc_copyFrom_73 rfl ?_
  refine Rj_iconst (q := 77) d_Sc_copyFrom_76 rfl ?_
  refine Rj_aload_n (q := 78) d_Sc_copyFrom_77 rfl rfl rfl ?_
  refine Rj_gr (q := 81) (zd := 4) gD_Sc_9_3 rfl rfl d_Sc_copyFrom_78 rfl ?_
  refine Rj_iconst (q := 82) d_Sc_copyFrom_81 rfl ?_
  refine Rj_bipush (q := 84) d_Sc_copyFrom_82 rfl (by decide +kernel) ?_
  refine Rj_cpyi (q := 87) ml_Sc_71 aD_32 aD_4 rfl rfl (by decide) (by decide) (by decide) (by decide) (by decide) d_Sc_copyFrom_84 rfl ?_
  refine Rj_aload_n (q := 88) d_Sc_copyFrom_87 rfl rfl rfl ?_
  refine Rj_gr (q := 91) (zd := 33) gD_Sc_15_31 rfl rfl d_Sc_copyFrom_88 rfl ?_
  refine Rj_iconst (q := 92) d_Sc_copyFrom_91 rfl ?_
  refine Rj_aload_n (q := 93) d_Sc_copyFrom_92 rfl rfl rfl ?_
  refine Rj_gr (q := 96) (zd := 5) gD_Sc_15_3 rfl rfl d_Sc_copyFrom_93 rfl ?_
  refine Rj_iconst (q := 97) d_Sc_copyFrom_96 rfl ?_
  refine Rj_bipush (q := 99) d_Sc_copyFrom_97 rfl (by decide +kernel) ?_
  refine Rj_cpyi (q := 102) ml_Sc_71 aD_33 aD_5 rfl rfl (by decide) (by decide) (by decide) (by decide) (by decide) d_Sc_copyFrom_99 rfl ?_
  refine Rj_aload_n (q := 103) d_Sc_copyFrom_102 rfl rfl rfl ?_
  refine Rj_gr (q := 106) (zd := 34) gD_Sc_18_31 rfl rfl d_Sc_copyFrom_103 rfl ?_
  refine Rj_iconst (q := 107) d_Sc_copyFrom_106 rfl ?_
  refine Rj_aload_n (q := 108) d_Sc_copyFrom_107 rfl rfl rfl ?_
  refine Rj_gr (q := 111) (zd := 6) gD_Sc_18_3 rfl rfl d_Sc_copyFrom_108 rfl ?_
  refine Rj_iconst (q := 112) d_Sc_copyFrom_111 rfl ?_
  refine Rj_bipush (q := 114) d_Sc_copyFrom_112 rfl (by decide +kernel) ?_
  refine Rj_cpyi (q := 117) ml_Sc_71 aD_34 aD_6 rfl rfl (by decide) (by decide) (by decide) (by decide) (by decide) d_Sc_copyFrom_114 rfl ?_
  refine Rj_aload_n (q := 118) d_Sc_copyFrom_117 rfl rfl rfl ?_
  refine Rj_gr (q := 121) (zd := 35) gD_Sc_21_31 rfl rfl d_Sc_copyFrom_118 rfl ?_
  refine Rj_iconst (q := 122) d_Sc_copyFrom_121 rfl ?_
  refine Rj_aload_n (q := 123) d_Sc_copyFrom_122 rfl rfl rfl ?_
  refine Rj_gr (q := 126) (zd := 7) gD_Sc_21_3 rfl rfl d_Sc_copyFrom_123 rfl ?_
  refine Rj_iconst (q := 127) d_Sc_copyFrom_126 rfl ?_
  refine Rj_bipush (q := 129) d_Sc_copyFrom_127 rfl (by decide +kernel) ?_
  refine Rj_cpyi (q := 132) ml_Sc_71 aD_35 aD_7 rfl rfl (by decide) (by decide) (by decide) (by decide) (by decide) d_Sc_copyFrom_129 rfl ?_
  refine Rj_aload_n (q := 133) d_Sc_copyFrom_132 rfl rfl rfl ?_
  refine Rj_gr (q := 136) (zd := 36) gD_Sc_24_31 rfl rfl d_Sc_copyFrom_133 rfl ?_
  refine Rj_iconst (q := 137) d_Sc_copyFrom_136 rfl ?_
  refine Rj_aload_n (q := 138) d_Sc_copyFrom_137 rfl rfl rfl ?_
  refine Rj_gr (q := 141) (zd := 8) gD_Sc_24_3 rfl rfl d_Sc_copyFrom_138 rfl ?_
  refine Rj_iconst (q := 142) d_Sc_copyFrom_141 rfl ?_
  refine Rj_bipush (q := 144) d_Sc_copyFrom_142 rfl (by decide +kernel) ?_
  refine Rj_cpyi (q := 147) ml_Sc_71 aD_36 aD_8 rfl rfl (by decide) (by decide) (by decide) (by decide) (by decide) d_Sc_copyFrom_144 rfl ?_
  refine Rj_aload_n (q := 148) d_Sc_copyFrom_147 rfl rfl rfl ?_
  refine Rj_gr (q := 151) (zd := 37) gD_Sc_27_31 rfl rfl d_Sc_copyFrom_148 rfl ?_
  refine Rj_iconst (q := 152) d_Sc_copyFrom_151 rfl ?_
  refine Rj_aload_n (q := 153) d_Sc_copyFrom_152 rfl rfl rfl ?_
  refine Rj_gr (q := 156) (zd := 9) gD_Sc_27_3 rfl rfl d_Sc_copyFrom_153 rfl ?_
  refine Rj_iconst (q := 157) d_Sc_copyFrom_156 rfl ?_
  refine Rj_bipush (q := 159) d_Sc_copyFrom_157 rfl (by decide +kernel) ?_
  refine Rj_cpyl (q := 162) ml_Sc_71 aD_37 aD_9 rfl rfl (by decide) (by decide) (by decide) (by decide) (by decide) d_Sc_copyFrom_159 rfl ?_
  refine Rj_aload_n (q := 163) d_Sc_copyFrom_162 rfl rfl rfl ?_
  refine Rj_gr (q := 166) (zd := 38) gD_Sc_31_31 rfl rfl d_Sc_copyFrom_163 rfl ?_
  refine Rj_iconst (q := 167) d_Sc_copyFrom_166 rfl ?_
  refine Rj_aload_n (q := 168) d_Sc_copyFrom_167 rfl rfl rfl ?_
  refine Rj_gr (q := 171) (zd := 10) gD_Sc_31_3 rfl rfl d_Sc_copyFrom_168 rfl ?_
  refine Rj_iconst (q := 172) d_Sc_copyFrom_171 rfl ?_
  refine Rj_bipush (q := 174) d_Sc_copyFrom_172 rfl (by decide +kernel) ?_
  refine Rj_cpyi (q := 177) ml_Sc_71 aD_38 aD_10 rfl rfl (by decide) (by decide) (by decide) (by decide) (by decide) d_Sc_copyFrom_174 rfl ?_
  refine Rj_aload_n (q := 178) d_Sc_copyFrom_177 rfl rfl rfl ?_
  refine Rj_gr (q := 181) (zd := 39) gD_Sc_34_31 rfl rfl d_Sc_copyFrom_178 rfl ?_
  refine Rj_iconst (q := 182) d_Sc_copyFrom_181 rfl ?_
  refine Rj_aload_n (q := 183) d_Sc_copyFrom_182 rfl rfl rfl ?_
  refine Rj_gr (q := 186) (zd := 11) gD_Sc_34_3 rfl rfl d_Sc_copyFrom_183 rfl ?_
  refine Rj_iconst (q := 187) d_Sc_copyFrom_186 rfl ?_
  refine Rj_bipush (q := 189) d_Sc_copyFrom_187 rfl (by decide +kernel) ?_
  refine Rj_cpyi (q := 192) ml_Sc_71 aD_39 aD_11 rfl rfl (by decide) (by decide) (by decide) (by decide) (by decide) d_Sc_copyFrom_189 rfl ?_
  refine Rj_vret d_Sc_copyFrom_192 rfl ?_
  exact hQ _ (Fr.cpy (Fr.cpy (Fr.cpy (Fr.cpy (Fr.cpy (Fr.cpy (Fr.cpy (Fr.cpy (Fr.put (Fr.put (Fr.put (Fr.put (Fr.put (Fr.put (Fr.put (Fr.put (Fr.put (Fr.refl _ _) (by decide)) (by decide)) (by decide)) (by decide)) (by decide)) (by decide)) (by decide)) (by decide)) (by decide)) (by intro i; simp [Wcp3])) (by intro i; simp [Wcp3])) (by intro i; simp [Wcp3])) (by intro i; simp [Wcp3])) (by intro i; simp [Wcp3])) (by intro i; simp [Wcp3])) (by intro i; simp [Wcp3])) (by intro i; simp [Wcp3])) ⟨⟨rfl, rfl, rfl, rfl, rfl, rfl, rfl, rfl⟩, fun i i0 i1 => by simp [mcpy, mset, i0, i1], fun i i0 i1 => by simp [mcpy, mset, i0, i1], fun i i0 i1 => by simp [mcpy, mset, i0, i1]⟩
set_option maxHeartbeats 4000000 in
theorem s_copy_3_40 {μ : Mem} {Q : PV → Mem → Prop} (hQ : ∀ μ', Fr Wcp3 μ μ' → CPY μ μ' 3 40 → Q vU μ') : Rj YD y_Sc_copyFrom 0 [vA 3, vA 40] [] μ Q := by
  refine Rj_aload_n (q := 1) d_Sc_copyFrom_0 rfl rfl rfl ?_
  refine Rj_aload_n (q := 2) d_Sc_copyFrom_1 rfl rfl rfl ?_
  refine Rj_gi (q := 5) (ki := 0) (v := μ 40 0) gD_Sc_37_40 rfl rfl rfl d_Sc_copyFrom_2 rfl ?_
  refine Rj_pi (q := 8) (ki := 0) pD_Sc_37_3 rfl rfl d_Sc_copyFrom_5 rfl ?_
  refine Rj_aload_n (q := 9) d_Sc_copyFrom_8 rfl rfl rfl ?_
  refine Rj_aload_n (q := 10) d_Sc_copyFrom_9 rfl rfl rfl ?_
  refine Rj_gi (q := 13) (ki := 3) (v := μ 40 3) gD_Sc_41_40 rfl rfl rfl d_Sc_copyFrom_10 rfl ?_
  refine Rj_pi (q := 16) (ki := 3) pD_Sc_41_3 rfl rfl d_Sc_copyFrom_13 rfl ?_
  refine Rj_aload_n (q := 17) d_Sc_copyFrom_16 rfl rfl rfl ?_
  refine Rj_aload_n (q := 18) d_Sc_copyFrom_17 rfl rfl rfl ?_
  refine Rj_gi (q := 21) (ki := 4) (v := μ 40 4) gD_Sc_44_40 rfl rfl rfl d_Sc_copyFrom_18 rfl ?_
  refine Rj_pi (q := 24) (ki := 4) pD_Sc_44_3 rfl rfl d_Sc_copyFrom_21 rfl ?_
  refine Rj_aload_n (q := 25) d_Sc_copyFrom_24 rfl rfl rfl ?_
  refine Rj_aload_n (q := 26) d_Sc_copyFrom_25 rfl rfl rfl ?_
  refine Rj_gi (q := 29) (ki := 5) (v := μ 40 5) gD_Sc_47_40 rfl rfl rfl d_Sc_copyFrom_26 rfl ?_
  refine Rj_pi (q := 32) (ki := 5) pD_Sc_47_3 rfl rfl d_Sc_copyFrom_29 rfl ?_
  refine Rj_aload_n (q := 33) d_Sc_copyFrom_32 rfl rfl rfl ?_
  refine Rj_aload_n (q := 34) d_Sc_copyFrom_33 rfl rfl rfl ?_
  refine Rj_gi (q := 37) (ki := 10) (v := μ 40 10) gD_Sc_56_40 rfl rfl rfl d_Sc_copyFrom_34 rfl ?_
  refine Rj_pi (q := 40) (ki := 10) pD_Sc_56_3 rfl rfl d_Sc_copyFrom_37 rfl ?_
  refine Rj_aload_n (q := 41) d_Sc_copyFrom_40 rfl rfl rfl ?_
  refine Rj_aload_n (q := 42) d_Sc_copyFrom_41 rfl rfl rfl ?_
  refine Rj_gi (q := 45) (ki := 11) (v := μ 40 11) gD_Sc_59_40 rfl rfl rfl d_Sc_copyFrom_42 rfl ?_
  refine Rj_pi (q := 48) (ki := 11) pD_Sc_59_3 rfl rfl d_Sc_copyFrom_45 rfl ?_
  refine Rj_aload_n (q := 49) d_Sc_copyFrom_48 rfl rfl rfl ?_
  refine Rj_aload_n (q := 50) d_Sc_copyFrom_49 rfl rfl rfl ?_
  refine Rj_gi (q := 53) (ki := 12) (v := μ 40 12) gD_Sc_62_40 rfl rfl rfl d_Sc_copyFrom_50 rfl ?_
  refine Rj_pi (q := 56) (ki := 12) pD_Sc_62_3 rfl rfl d_Sc_copyFrom_53 rfl ?_
  refine Rj_aload_n (q := 57) d_Sc_copyFrom_56 rfl rfl rfl ?_
  refine Rj_aload_n (q := 58) d_Sc_copyFrom_57 rfl rfl rfl ?_
  refine Rj_gi (q := 61) (ki := 14) (v := μ 40 14) gD_Sc_65_40 rfl rfl rfl d_Sc_copyFrom_58 rfl ?_
  refine Rj_pi (q := 64) (ki := 14) pD_Sc_65_3 rfl rfl d_Sc_copyFrom_61 rfl ?_
  refine Rj_aload_n (q := 65) d_Sc_copyFrom_64 rfl rfl rfl ?_
  refine Rj_aload_n (q := 66) d_Sc_copyFrom_65 rfl rfl rfl ?_
  refine Rj_gi (q := 69) (ki := 16) (v := μ 40 16) gD_Sc_68_40 rfl rfl rfl d_Sc_copyFrom_66 rfl ?_
  refine Rj_pi (q := 72) (ki := 16) pD_Sc_68_3 rfl rfl d_Sc_copyFrom_69 rfl ?_
  refine Rj_aload_n (q := 73) d_Sc_copyFrom_72 rfl rfl rfl ?_
  refine Rj_gr (q := 76) (zd := 41) gD_Sc_9_40 rfl rfl d_Sc_copyFrom_73 rfl ?_
  refine Rj_iconst (q := 77) d_Sc_copyFrom_76 rfl ?_
  refine Rj_aload_n (q := 78) d_Sc_copyFrom_77 rfl rfl rfl ?_
  refine Rj_gr (q := 81) (zd := 4) gD_Sc_9_3 rfl rfl d_Sc_copyFrom_78 rfl ?_
  refine Rj_iconst (q := 82) d_Sc_copyFrom_81 rfl ?_
  refine Rj_bipush (q := 84) d_Sc_copyFrom_82 rfl (by decide +kernel) ?_
  refine Rj_cpyi (q := 87) ml_Sc_71 aD_41 aD_4 rfl rfl (by decide) (by decide) (by decide) (by decide) (by decide) d_Sc_copyFrom_84 rfl ?_
  refine Rj_aload_n (q := 88) d_Sc_copyFrom_87 rfl rfl rfl ?_
  refine Rj_gr (q := 91) (zd := 42) gD_Sc_15_40 rfl rfl d_Sc_copyFrom_88 rfl ?_
  refine Rj_iconst (q := 92) d_Sc_copyFrom_91 rfl ?_
  refine Rj_aload_n (q := 93) d_Sc_copyFrom_92 rfl rfl rfl ?_
  refine Rj_gr (q := 96) (zd := 5) gD_Sc_15_3 rfl rfl d_Sc_copyFrom_93 rfl ?_
  refine Rj_iconst (q := 97) d_Sc_copyFrom_96 rfl ?_
  refine Rj_bipush (q := 99) d_Sc_copyFrom_97 rfl (by decide +kernel) ?_
  refine Rj_cpyi (q := 102) ml_Sc_71 aD_42 aD_5 rfl rfl (by decide) (by decide) (by decide) (by decide) (by decide) d_Sc_copyFrom_99 rfl ?_
  refine Rj_aload_n (q := 103) d_Sc_copyFrom_102 rfl rfl rfl ?_
  refine Rj_gr (q := 106) (zd := 43) gD_Sc_18_40 rfl rfl d_Sc_copyFrom_103 rfl ?_
  refine Rj_iconst (q := 107) d_Sc_copyFrom_106 rfl ?_
  refine Rj_aload_n (q := 108) d_Sc_copyFrom_107 rfl rfl rfl ?_
  refine Rj_gr (q := 111) (zd := 6) gD_Sc_18_3 rfl rfl d_Sc_copyFrom_108 rfl ?_
  refine Rj_iconst (q := 112) d_Sc_copyFrom_111 rfl ?_
  refine Rj_bipush (q := 114) d_Sc_copyFrom_112 rfl (by decide +kernel) ?_
  refine Rj_cpyi (q := 117) ml_Sc_71 aD_43 aD_6 rfl rfl (by decide) (by decide) (by decide) (by decide) (by decide) d_Sc_copyFrom_114 rfl ?_
  refine Rj_aload_n (q := 118) d_Sc_copyFrom_117 rfl rfl rfl ?_
  refine Rj_gr (q := 121) (zd := 44) gD_Sc_21_40 rfl rfl d_Sc_copyFrom_118 rfl ?_
  refine Rj_iconst (q := 122) d_Sc_copyFrom_121 rfl ?_
  refine Rj_aload_n (q := 123) d_Sc_copyFrom_122 rfl rfl rfl ?_
  refine Rj_gr (q := 126) (zd := 7) gD_Sc_21_3 rfl rfl d_Sc_copyFrom_123 rfl ?_
  refine Rj_iconst (q := 127) d_Sc_copyFrom_126 rfl ?_
  refine Rj_bipush (q := 129) d_Sc_copyFrom_127 rfl (by decide +kernel) ?_
  refine Rj_cpyi (q := 132) ml_Sc_71 aD_44 aD_7 rfl rfl (by decide) (by decide) (by decide) (by decide) (by decide) d_Sc_copyFrom_129 rfl ?_
  refine Rj_aload_n (q := 133) d_Sc_copyFrom_132 rfl rfl rfl ?_
  refine Rj_gr (q := 136) (zd := 45) gD_Sc_24_40 rfl rfl d_Sc_copyFrom_133 rfl ?_
  refine Rj_iconst (q := 137) d_Sc_copyFrom_136 rfl ?_
  refine Rj_aload_n (q := 138) d_Sc_copyFrom_137 rfl rfl rfl ?_
  refine Rj_gr (q := 141) (zd := 8) gD_Sc_24_3 rfl rfl d_Sc_copyFrom_138 rfl ?_
  refine Rj_iconst (q := 142) d_Sc_copyFrom_141 rfl ?_
  refine Rj_bipush (q := 144) d_Sc_copyFrom_142 rfl (by decide +kernel) ?_
  refine Rj_cpyi (q := 147) ml_Sc_71 aD_45 aD_8 rfl rfl (by decide) (by decide) (by decide) (by decide) (by decide) d_Sc_copyFrom_144 rfl ?_
  refine Rj_aload_n (q := 148) d_Sc_copyFrom_147 rfl rfl rfl ?_
  refine Rj_gr (q := 151) (zd := 46) gD_Sc_27_40 rfl rfl d_Sc_copyFrom_148 rfl ?_
  refine Rj_iconst (q := 152) d_Sc_copyFrom_151 rfl ?_
  refine Rj_aload_n (q := 153) d_Sc_copyFrom_152 rfl rfl rfl ?_
  refine Rj_gr (q := 156) (zd := 9) gD_Sc_27_3 rfl rfl d_Sc_copyFrom_153 rfl ?_
  refine Rj_iconst (q := 157) d_Sc_copyFrom_156 rfl ?_
  refine Rj_bipush (q := 159) d_Sc_copyFrom_157 rfl (by decide +kernel) ?_
  refine Rj_cpyl (q := 162) ml_Sc_71 aD_46 aD_9 rfl rfl (by decide) (by decide) (by decide) (by decide) (by decide) d_Sc_copyFrom_159 rfl ?_
  refine Rj_aload_n (q := 163) d_Sc_copyFrom_162 rfl rfl rfl ?_
  refine Rj_gr (q := 166) (zd := 47) gD_Sc_31_40 rfl rfl d_Sc_copyFrom_163 rfl ?_
  refine Rj_iconst (q := 167) d_Sc_copyFrom_166 rfl ?_
  refine Rj_aload_n (q := 168) d_Sc_copyFrom_167 rfl rfl rfl ?_
  refine Rj_gr (q := 171) (zd := 10) gD_Sc_31_3 rfl rfl d_Sc_copyFrom_168 rfl ?_
  refine Rj_iconst (q := 172) d_Sc_copyFrom_171 rfl ?_
  refine Rj_bipush (q := 174) d_Sc_copyFrom_172 rfl (by decide +kernel) ?_
  refine Rj_cpyi (q := 177) ml_Sc_71 aD_47 aD_10 rfl rfl (by decide) (by decide) (by decide) (by decide) (by decide) d_Sc_copyFrom_174 rfl ?_
  refine Rj_aload_n (q := 178) d_Sc_copyFrom_177 rfl rfl rfl ?_
  refine Rj_gr (q := 181) (zd := 48) gD_Sc_34_40 rfl rfl d_Sc_copyFrom_178 rfl ?_
  refine Rj_iconst (q := 182) d_Sc_copyFrom_181 rfl ?_
  refine Rj_aload_n (q := 183) d_Sc_copyFrom_182 rfl rfl rfl ?_
  refine Rj_gr (q := 186) (zd := 11) gD_Sc_34_3 rfl rfl d_Sc_copyFrom_183 rfl ?_
  refine Rj_iconst (q := 187) d_Sc_copyFrom_186 rfl ?_
  refine Rj_bipush (q := 189) d_Sc_copyFrom_187 rfl (by decide +kernel) ?_
  refine Rj_cpyi (q := 192) ml_Sc_71 aD_48 aD_11 rfl rfl (by decide) (by decide) (by decide) (by decide) (by decide) d_Sc_copyFrom_189 rfl ?_
  refine Rj_vret d_Sc_copyFrom_192 rfl ?_
  exact hQ _ (Fr.cpy (Fr.cpy (Fr.cpy (Fr.cpy (Fr.cpy (Fr.cpy (Fr.cpy (Fr.cpy (Fr.put (Fr.put (Fr.put (Fr.put (Fr.put (Fr.put (Fr.put (Fr.put (Fr.put (Fr.refl _ _) (by decide)) (by decide)) (by decide)) (by decide)) (by decide)) (by decide)) (by decide)) (by decide)) (by decide)) (by intro i; simp [Wcp3])) (by intro i; simp [Wcp3])) (by intro i; simp [Wcp3])) (by intro i; simp [Wcp3])) (by intro i; simp [Wcp3])) (by intro i; simp [Wcp3])) (by intro i; simp [Wcp3])) (by intro i; simp [Wcp3])) ⟨⟨rfl, rfl, rfl, rfl, rfl, rfl, rfl, rfl⟩, fun i i0 i1 => by simp [mcpy, mset, i0, i1], fun i i0 i1 => by simp [mcpy, mset, i0, i1], fun i i0 i1 => by simp [mcpy, mset, i0, i1]⟩
set_option maxHeartbeats 4000000 in
theorem s_copy_3_49 {μ : Mem} {Q : PV → Mem → Prop} (hQ : ∀ μ', Fr Wcp3 μ μ' → CPY μ μ' 3 49 → Q vU μ') : Rj YD y_Sc_copyFrom 0 [vA 3, vA 49] [] μ Q := by
  refine Rj_aload_n (q := 1) d_Sc_copyFrom_0 rfl rfl rfl ?_
  refine Rj_aload_n (q := 2) d_Sc_copyFrom_1 rfl rfl rfl ?_
  refine Rj_gi (q := 5) (ki := 0) (v := μ 49 0) gD_Sc_37_49 rfl rfl rfl d_Sc_copyFrom_2 rfl ?_
  refine Rj_pi (q := 8) (ki := 0) pD_Sc_37_3 rfl rfl d_Sc_copyFrom_5 rfl ?_
  refine Rj_aload_n (q := 9) d_Sc_copyFrom_8 rfl rfl rfl ?_
  refine Rj_aload_n (q := 10) d_Sc_copyFrom_9 rfl rfl rfl ?_
  refine Rj_gi (q := 13) (ki := 3) (v := μ 49 3) gD_Sc_41_49 rfl rfl rfl d_Sc_copyFrom_10 rfl ?_
  refine Rj_pi (q := 16) (ki := 3) pD_Sc_41_3 rfl rfl d_Sc_copyFrom_13 rfl ?_
  refine Rj_aload_n (q := 17) d_Sc_copyFrom_16 rfl rfl rfl ?_
  refine Rj_aload_n (q := 18) d_Sc_copyFrom_17 rfl rfl rfl ?_
  refine Rj_gi (q := 21) (ki := 4) (v := μ 49 4) gD_Sc_44_49 rfl rfl rfl d_Sc_copyFrom_18 rfl ?_
  refine Rj_pi (q := 24) (ki := 4) pD_Sc_44_3 rfl rfl d_Sc_copyFrom_21 rfl ?_
  refine Rj_aload_n (q := 25) d_Sc_copyFrom_24 rfl rfl rfl ?_
  refine Rj_aload_n (q := 26) d_Sc_copyFrom_25 rfl rfl rfl ?_
  refine Rj_gi (q := 29) (ki := 5) (v := μ 49 5) gD_Sc_47_49 rfl rfl rfl d_Sc_copyFrom_26 rfl ?_
  refine Rj_pi (q := 32) (ki := 5) pD_Sc_47_3 rfl rfl d_Sc_copyFrom_29 rfl ?_
  refine Rj_aload_n (q := 33) d_Sc_copyFrom_32 rfl rfl rfl ?_
  refine Rj_aload_n (q := 34) d_Sc_copyFrom_33 rfl rfl rfl ?_
  refine Rj_gi (q := 37) (ki := 10) (v := μ 49 10) gD_Sc_56_49 rfl rfl rfl d_Sc_copyFrom_34 rfl ?_
  refine Rj_pi (q := 40) (ki := 10) pD_Sc_56_3 rfl rfl d_Sc_copyFrom_37 rfl ?_
  refine Rj_aload_n (q := 41) d_Sc_copyFrom_40 rfl rfl rfl ?_
  refine Rj_aload_n (q := 42) d_Sc_copyFrom_41 rfl rfl rfl ?_
  refine Rj_gi (q := 45) (ki := 11) (v := μ 49 11) gD_Sc_59_49 rfl rfl rfl d_Sc_copyFrom_42 rfl ?_
  refine Rj_pi (q := 48) (ki := 11) pD_Sc_59_3 rfl rfl d_Sc_copyFrom_45 rfl ?_
  refine Rj_aload_n (q := 49) d_Sc_copyFrom_48 rfl rfl rfl ?_
  refine Rj_aload_n (q := 50) d_Sc_copyFrom_49 rfl rfl rfl ?_
  refine Rj_gi (q := 53) (ki := 12) (v := μ 49 12) gD_Sc_62_49 rfl rfl rfl d_Sc_copyFrom_50 rfl ?_
  refine Rj_pi (q := 56) (ki := 12) pD_Sc_62_3 rfl rfl d_Sc_copyFrom_53 rfl ?_
  refine Rj_aload_n (q := 57) d_Sc_copyFrom_56 rfl rfl rfl ?_
  refine Rj_aload_n (q := 58) d_Sc_copyFrom_57 rfl rfl rfl ?_
  refine Rj_gi (q := 61) (ki := 14) (v := μ 49 14) gD_Sc_65_49 rfl rfl rfl d_Sc_copyFrom_58 rfl ?_
  refine Rj_pi (q := 64) (ki := 14) pD_Sc_65_3 rfl rfl d_Sc_copyFrom_61 rfl ?_
  refine Rj_aload_n (q := 65) d_Sc_copyFrom_64 rfl rfl rfl ?_
  refine Rj_aload_n (q := 66) d_Sc_copyFrom_65 rfl rfl rfl ?_
  refine Rj_gi (q := 69) (ki := 16) (v := μ 49 16) gD_Sc_68_49 rfl rfl rfl d_Sc_copyFrom_66 rfl ?_
  refine Rj_pi (q := 72) (ki := 16) pD_Sc_68_3 rfl rfl d_Sc_copyFrom_69 rfl ?_
  refine Rj_aload_n (q := 73) d_Sc_copyFrom_72 rfl rfl rfl ?_
  refine Rj_gr (q := 76) (zd := 50) gD_Sc_9_49 rfl rfl d_Sc_copyFrom_73 rfl ?_
  refine Rj_iconst (q := 77) d_Sc_copyFrom_76 rfl ?_
  refine Rj_aload_n (q := 78) d_Sc_copyFrom_77 rfl rfl rfl ?_
  refine Rj_gr (q := 81) (zd := 4) gD_Sc_9_3 rfl rfl d_Sc_copyFrom_78 rfl ?_
  refine Rj_iconst (q := 82) d_Sc_copyFrom_81 rfl ?_
  refine Rj_bipush (q := 84) d_Sc_copyFrom_82 rfl (by decide +kernel) ?_
  refine Rj_cpyi (q := 87) ml_Sc_71 aD_50 aD_4 rfl rfl (by decide) (by decide) (by decide) (by decide) (by decide) d_Sc_copyFrom_84 rfl ?_
  refine Rj_aload_n (q := 88) d_Sc_copyFrom_87 rfl rfl rfl ?_
  refine Rj_gr (q := 91) (zd := 51) gD_Sc_15_49 rfl rfl d_Sc_copyFrom_88 rfl ?_
  refine Rj_iconst (q := 92) d_Sc_copyFrom_91 rfl ?_
  refine Rj_aload_n (q := 93) d_Sc_copyFrom_92 rfl rfl rfl ?_
  refine Rj_gr (q := 96) (zd := 5) gD_Sc_15_3 rfl rfl d_Sc_copyFrom_93 rfl ?_
  refine Rj_iconst (q := 97) d_Sc_copyFrom_96 rfl ?_
  refine Rj_bipush (q := 99) d_Sc_copyFrom_97 rfl (by decide +kernel) ?_
  refine Rj_cpyi (q := 102) ml_Sc_71 aD_51 aD_5 rfl rfl (by decide) (by decide) (by decide) (by decide) (by decide) d_Sc_copyFrom_99 rfl ?_
  refine Rj_aload_n (q := 103) d_Sc_copyFrom_102 rfl rfl rfl ?_
  refine Rj_gr (q := 106) (zd := 52) gD_Sc_18_49 rfl rfl d_Sc_copyFrom_103 rfl ?_
  refine Rj_iconst (q := 107) d_Sc_copyFrom_106 rfl ?_
  refine Rj_aload_n (q := 108) d_Sc_copyFrom_107 rfl rfl rfl ?_
  refine Rj_gr (q := 111) (zd := 6) gD_Sc_18_3 rfl rfl d_Sc_copyFrom_108 rfl ?_
  refine Rj_iconst (q := 112) d_Sc_copyFrom_111 rfl ?_
  refine Rj_bipush (q := 114) d_Sc_copyFrom_112 rfl (by decide +kernel) ?_
  refine Rj_cpyi (q := 117) ml_Sc_71 aD_52 aD_6 rfl rfl (by decide) (by decide) (by decide) (by decide) (by decide) d_Sc_copyFrom_114 rfl ?_
  refine Rj_aload_n (q := 118) d_Sc_copyFrom_117 rfl rfl rfl ?_
  refine Rj_gr (q := 121) (zd := 53) gD_Sc_21_49 rfl rfl d_Sc_copyFrom_118 rfl ?_
  refine Rj_iconst (q := 122) d_Sc_copyFrom_121 rfl ?_
  refine Rj_aload_n (q := 123) d_Sc_copyFrom_122 rfl rfl rfl ?_
  refine Rj_gr (q := 126) (zd := 7) gD_Sc_21_3 rfl rfl d_Sc_copyFrom_123 rfl ?_
  refine Rj_iconst (q := 127) d_Sc_copyFrom_126 rfl ?_
  refine Rj_bipush (q := 129) d_Sc_copyFrom_127 rfl (by decide +kernel) ?_
  refine Rj_cpyi (q := 132) ml_Sc_71 aD_53 aD_7 rfl rfl (by decide) (by decide) (by decide) (by decide) (by decide) d_Sc_copyFrom_129 rfl ?_
  refine Rj_aload_n (q := 133) d_Sc_copyFrom_132 rfl rfl rfl ?_
  refine Rj_gr (q := 136) (zd := 54) gD_Sc_24_49 rfl rfl d_Sc_copyFrom_133 rfl ?_
  refine Rj_iconst (q := 137) d_Sc_copyFrom_136 rfl ?_
  refine Rj_aload_n (q := 138) d_Sc_copyFrom_137 rfl rfl rfl ?_
  refine Rj_gr (q := 141) (zd := 8) gD_Sc_24_3 rfl rfl d_Sc_copyFrom_138 rfl ?_
  refine Rj_iconst (q := 142) d_Sc_copyFrom_141 rfl ?_
  refine Rj_bipush (q := 144) d_Sc_copyFrom_142 rfl (by decide +kernel) ?_
  refine Rj_cpyi (q := 147) ml_Sc_71 aD_54 aD_8 rfl rfl (by decide) (by decide) (by decide) (by decide) (by decide) d_Sc_copyFrom_144 rfl ?_
  refine Rj_aload_n (q := 148) d_Sc_copyFrom_147 rfl rfl rfl ?_
  refine Rj_gr (q := 151) (zd := 55) gD_Sc_27_49 rfl rfl d_Sc_copyFrom_148 rfl ?_
  refine Rj_iconst (q := 152) d_Sc_copyFrom_151 rfl ?_
  refine Rj_aload_n (q := 153) d_Sc_copyFrom_152 rfl rfl rfl ?_
  refine Rj_gr (q := 156) (zd := 9) gD_Sc_27_3 rfl rfl d_Sc_copyFrom_153 rfl ?_
  refine Rj_iconst (q := 157) d_Sc_copyFrom_156 rfl ?_
  refine Rj_bipush (q := 159) d_Sc_copyFrom_157 rfl (by decide +kernel) ?_
  refine Rj_cpyl (q := 162) ml_Sc_71 aD_55 aD_9 rfl rfl (by decide) (by decide) (by decide) (by decide) (by decide) d_Sc_copyFrom_159 rfl ?_
  refine Rj_aload_n (q := 163) d_Sc_copyFrom_162 rfl rfl rfl ?_
  refine Rj_gr (q := 166) (zd := 56) gD_Sc_31_49 rfl rfl d_Sc_copyFrom_163 rfl ?_
  refine Rj_iconst (q := 167) d_Sc_copyFrom_166 rfl ?_
  refine Rj_aload_n (q := 168) d_Sc_copyFrom_167 rfl rfl rfl ?_
  refine Rj_gr (q := 171) (zd := 10) gD_Sc_31_3 rfl rfl d_Sc_copyFrom_168 rfl ?_
  refine Rj_iconst (q := 172) d_Sc_copyFrom_171 rfl ?_
  refine Rj_bipush (q := 174) d_Sc_copyFrom_172 rfl (by decide +kernel) ?_
  refine Rj_cpyi (q := 177) ml_Sc_71 aD_56 aD_10 rfl rfl (by decide) (by decide) (by decide) (by decide) (by decide) d_Sc_copyFrom_174 rfl ?_
  refine Rj_aload_n (q := 178) d_Sc_copyFrom_177 rfl rfl rfl ?_
  refine Rj_gr (q := 181) (zd := 57) gD_Sc_34_49 rfl rfl d_Sc_copyFrom_178 rfl ?_
  refine Rj_iconst (q := 182) d_Sc_copyFrom_181 rfl ?_
  refine Rj_aload_n (q := 183) d_Sc_copyFrom_182 rfl rfl rfl ?_
  refine Rj_gr (q := 186) (zd := 11) gD_Sc_34_3 rfl rfl d_Sc_copyFrom_183 rfl ?_
  refine Rj_iconst (q := 187) d_Sc_copyFrom_186 rfl ?_
  refine Rj_bipush (q := 189) d_Sc_copyFrom_187 rfl (by decide +kernel) ?_
  refine Rj_cpyi (q := 192) ml_Sc_71 aD_57 aD_11 rfl rfl (by decide) (by decide) (by decide) (by decide) (by decide) d_Sc_copyFrom_189 rfl ?_
  refine Rj_vret d_Sc_copyFrom_192 rfl ?_
  exact hQ _ (Fr.cpy (Fr.cpy (Fr.cpy (Fr.cpy (Fr.cpy (Fr.cpy (Fr.cpy (Fr.cpy (Fr.put (Fr.put (Fr.put (Fr.put (Fr.put (Fr.put (Fr.put (Fr.put (Fr.put (Fr.refl _ _) (by decide)) (by decide)) (by decide)) (by decide)) (by decide)) (by decide)) (by decide)) (by decide)) (by decide)) (by intro i; simp [Wcp3])) (by intro i; simp [Wcp3])) (by intro i; simp [Wcp3])) (by intro i; simp [Wcp3])) (by intro i; simp [Wcp3])) (by intro i; simp [Wcp3])) (by intro i; simp [Wcp3])) (by intro i; simp [Wcp3])) ⟨⟨rfl, rfl, rfl, rfl, rfl, rfl, rfl, rfl⟩, fun i i0 i1 => by simp [mcpy, mset, i0, i1], fun i i0 i1 => by simp [mcpy, mset, i0, i1], fun i i0 i1 => by simp [mcpy, mset, i0, i1]⟩
