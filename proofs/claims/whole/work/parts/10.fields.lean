/-! words: fields -/
theorem in_sel : ∀ w ∈ k2_sels lw_privs, w ∈ lw_tbl := fun w h => List.mem_append_left _ h
theorem in_tab1 : ∀ w ∈ tables_1_1, w ∈ lw_tbl := fun w h => List.mem_append_right _ (List.mem_append_left _ h)
theorem in_tab2 : ∀ w ∈ tables_1_2, w ∈ lw_tbl := fun w h => List.mem_append_right _ (List.mem_append_right _ (List.mem_append_left _ h))
theorem in_tab3 : ∀ w ∈ tables_1_3, w ∈ lw_tbl := fun w h => List.mem_append_right _ (List.mem_append_right _ (List.mem_append_right _ (List.mem_append_left _ h)))
theorem in_tab4 : ∀ w ∈ tables_1_4, w ∈ lw_tbl := fun w h => List.mem_append_right _ (List.mem_append_right _ (List.mem_append_right _ (List.mem_append_right _ (List.mem_append_left _ h))))
theorem in_tab5 : ∀ w ∈ tables_1_5, w ∈ lw_tbl := fun w h => List.mem_append_right _ (List.mem_append_right _ (List.mem_append_right _ (List.mem_append_right _ (List.mem_append_right _ (List.mem_append_left _ h)))))
theorem in_tab6 : ∀ w ∈ tables_1_6, w ∈ lw_tbl := fun w h => List.mem_append_right _ (List.mem_append_right _ (List.mem_append_right _ (List.mem_append_right _ (List.mem_append_right _ (List.mem_append_right _ (List.mem_append_left _ h))))))
theorem in_tab7 : ∀ w ∈ tables_1_7, w ∈ lw_tbl := fun w h => List.mem_append_right _ (List.mem_append_right _ (List.mem_append_right _ (List.mem_append_right _ (List.mem_append_right _ (List.mem_append_right _ (List.mem_append_right _ (List.mem_append_left _ h)))))))
theorem in_tab8 : ∀ w ∈ tables_1_8, w ∈ lw_tbl := fun w h => List.mem_append_right _ (List.mem_append_right _ (List.mem_append_right _ (List.mem_append_right _ (List.mem_append_right _ (List.mem_append_right _ (List.mem_append_right _ (List.mem_append_right _ (h))))))))
theorem fl_D_9 : FL "DoorsOnCogs" 9 9 0 := ⟨RX9, TX9, 15, rfl, by decide, inX9, in_tab2 _ (List.mem_of_getElem? (i := 138) rfl)⟩
theorem fl_D_18 : FL "DoorsOnCogs" 18 9 2 := ⟨RX9, TX9, 15, rfl, by decide, inX9, in_tab2 _ (List.mem_of_getElem? (i := 140) rfl)⟩
theorem fl_D_25 : FL "DoorsOnCogs" 25 9 3 := ⟨RX9, TX9, 15, rfl, by decide, inX9, in_tab2 _ (List.mem_of_getElem? (i := 141) rfl)⟩
theorem fl_D_29 : FL "DoorsOnCogs" 29 9 4 := ⟨RX9, TX9, 15, rfl, by decide, inX9, in_tab2 _ (List.mem_of_getElem? (i := 142) rfl)⟩
theorem fl_D_32 : FL "DoorsOnCogs" 32 9 5 := ⟨RX9, TX9, 15, rfl, by decide, inX9, in_tab2 _ (List.mem_of_getElem? (i := 143) rfl)⟩
theorem fl_D_36 : FL "DoorsOnCogs" 36 9 6 := ⟨RX9, TX9, 15, rfl, by decide, inX9, in_tab2 _ (List.mem_of_getElem? (i := 144) rfl)⟩
theorem fl_D_45 : FL "DoorsOnCogs" 45 9 7 := ⟨RX9, TX9, 15, rfl, by decide, inX9, in_tab2 _ (List.mem_of_getElem? (i := 145) rfl)⟩
theorem fl_D_52 : FL "DoorsOnCogs" 52 9 8 := ⟨RX9, TX9, 15, rfl, by decide, inX9, in_tab2 _ (List.mem_of_getElem? (i := 146) rfl)⟩
theorem fl_D_61 : FL "DoorsOnCogs" 61 9 9 := ⟨RX9, TX9, 15, rfl, by decide, inX9, in_tab2 _ (List.mem_of_getElem? (i := 147) rfl)⟩
theorem fl_D_70 : FL "DoorsOnCogs" 70 9 10 := ⟨RX9, TX9, 15, rfl, by decide, inX9, in_tab2 _ (List.mem_of_getElem? (i := 148) rfl)⟩
theorem fl_D_79 : FL "DoorsOnCogs" 79 9 11 := ⟨RX9, TX9, 15, rfl, by decide, inX9, in_tab2 _ (List.mem_of_getElem? (i := 149) rfl)⟩
theorem fl_D_88 : FL "DoorsOnCogs" 88 9 12 := ⟨RX9, TX9, 15, rfl, by decide, inX9, in_tab2 _ (List.mem_of_getElem? (i := 150) rfl)⟩
theorem fl_D_97 : FL "DoorsOnCogs" 97 9 13 := ⟨RX9, TX9, 15, rfl, by decide, inX9, in_tab2 _ (List.mem_of_getElem? (i := 151) rfl)⟩
theorem fl_D_101 : FL "DoorsOnCogs" 101 9 14 := ⟨RX9, TX9, 15, rfl, by decide, inX9, in_tab2 _ (List.mem_of_getElem? (i := 152) rfl)⟩
theorem fl_D_104 : FL "DoorsOnCogs" 104 9 1 := ⟨RX9, TX9, 15, rfl, by decide, inX9, in_tab2 _ (List.mem_of_getElem? (i := 139) rfl)⟩
theorem fl_D_118 : FL "DoorsOnCogs" 118 7 3 := ⟨RX7, TX7, 4, rfl, by decide, inX7, in_tab1 _ (List.mem_of_getElem? (i := 41) rfl)⟩
theorem fl_D_121 : FL "DoorsOnCogs" 121 6 16 := ⟨RX6, TX6, 17, rfl, by decide, inX6, in_tab1 _ (List.mem_of_getElem? (i := 113) rfl)⟩
theorem fl_D_130 : FL "DoorsOnCogs" 130 6 0 := ⟨RX6, TX6, 17, rfl, by decide, inX6, in_tab1 _ (List.mem_of_getElem? (i := 63) rfl)⟩
theorem fl_D_133 : FL "DoorsOnCogs" 133 4 1 := ⟨RX4, TX4, 6, rfl, by decide, inX4, in_tab2 _ (List.mem_of_getElem? (i := 46) rfl)⟩
theorem fl_D_148 : FL "DoorsOnCogs" 148 6 1 := ⟨RX6, TX6, 17, rfl, by decide, inX6, in_tab1 _ (List.mem_of_getElem? (i := 66) rfl)⟩
theorem fl_D_151 : FL "DoorsOnCogs" 151 6 2 := ⟨RX6, TX6, 17, rfl, by decide, inX6, in_tab1 _ (List.mem_of_getElem? (i := 70) rfl)⟩
theorem fl_D_154 : FL "DoorsOnCogs" 154 6 3 := ⟨RX6, TX6, 17, rfl, by decide, inX6, in_tab1 _ (List.mem_of_getElem? (i := 76) rfl)⟩
theorem fl_D_164 : FL "DoorsOnCogs" 164 2 7 := ⟨RX2, TX2, 9, rfl, by decide, inX2, in_tab1 _ (List.mem_of_getElem? (i := 178) rfl)⟩
theorem fl_D_167 : FL "DoorsOnCogs" 167 2 1 := ⟨RX2, TX2, 9, rfl, by decide, inX2, in_tab1 _ (List.mem_of_getElem? (i := 167) rfl)⟩
theorem fl_D_175 : FL "DoorsOnCogs" 175 6 9 := ⟨RX6, TX6, 17, rfl, by decide, inX6, in_tab1 _ (List.mem_of_getElem? (i := 96) rfl)⟩
theorem fl_D_179 : FL "DoorsOnCogs" 179 2 4 := ⟨RX2, TX2, 9, rfl, by decide, inX2, in_tab1 _ (List.mem_of_getElem? (i := 172) rfl)⟩
theorem fl_D_186 : FL "DoorsOnCogs" 186 6 4 := ⟨RX6, TX6, 17, rfl, by decide, inX6, in_tab1 _ (List.mem_of_getElem? (i := 82) rfl)⟩
theorem fl_D_189 : FL "DoorsOnCogs" 189 6 6 := ⟨RX6, TX6, 17, rfl, by decide, inX6, in_tab1 _ (List.mem_of_getElem? (i := 87) rfl)⟩
theorem fl_D_192 : FL "DoorsOnCogs" 192 6 7 := ⟨RX6, TX6, 17, rfl, by decide, inX6, in_tab1 _ (List.mem_of_getElem? (i := 90) rfl)⟩
theorem fl_D_195 : FL "DoorsOnCogs" 195 6 8 := ⟨RX6, TX6, 17, rfl, by decide, inX6, in_tab1 _ (List.mem_of_getElem? (i := 93) rfl)⟩
theorem fl_D_223 : FL "DoorsOnCogs" 223 6 10 := ⟨RX6, TX6, 17, rfl, by decide, inX6, in_tab1 _ (List.mem_of_getElem? (i := 100) rfl)⟩
theorem fl_D_226 : FL "DoorsOnCogs" 226 6 11 := ⟨RX6, TX6, 17, rfl, by decide, inX6, in_tab1 _ (List.mem_of_getElem? (i := 103) rfl)⟩
theorem fl_D_236 : FL "DoorsOnCogs" 236 3 8 := ⟨RX3, TX3, 16, rfl, by decide, inX3, in_tab1 _ (List.mem_of_getElem? (i := 237) rfl)⟩
theorem fl_D_242 : FL "DoorsOnCogs" 242 6 12 := ⟨RX6, TX6, 17, rfl, by decide, inX6, in_tab1 _ (List.mem_of_getElem? (i := 105) rfl)⟩
theorem fl_D_245 : FL "DoorsOnCogs" 245 6 13 := ⟨RX6, TX6, 17, rfl, by decide, inX6, in_tab1 _ (List.mem_of_getElem? (i := 107) rfl)⟩
theorem fl_D_263 : FL "DoorsOnCogs" 263 6 14 := ⟨RX6, TX6, 17, rfl, by decide, inX6, in_tab1 _ (List.mem_of_getElem? (i := 109) rfl)⟩
theorem fl_D_266 : FL "DoorsOnCogs" 266 6 15 := ⟨RX6, TX6, 17, rfl, by decide, inX6, in_tab1 _ (List.mem_of_getElem? (i := 111) rfl)⟩
theorem fl_D_279 : FL "DoorsOnCogs" 279 1 2 := ⟨RX1, TX1, 6, rfl, by decide, inX1, in_tab2 _ (List.mem_of_getElem? (i := 120) rfl)⟩
theorem fl_D_291 : FL "DoorsOnCogs" 291 1 5 := ⟨RX1, TX1, 6, rfl, by decide, inX1, in_tab2 _ (List.mem_of_getElem? (i := 124) rfl)⟩
theorem fl_D_315 : FL "DoorsOnCogs" 315 2 8 := ⟨RX2, TX2, 9, rfl, by decide, inX2, in_tab1 _ (List.mem_of_getElem? (i := 180) rfl)⟩
theorem fl_Cu_9 : FL "DoorsOnCogs$Cutter" 9 0 0 := ⟨RX0, TX0, 4, rfl, by decide, inX0, in_tab1 _ (List.mem_of_getElem? (i := 209) rfl)⟩
theorem fl_Cu_20 : FL "DoorsOnCogs$Cutter" 20 0 1 := ⟨RX0, TX0, 4, rfl, by decide, inX0, in_tab1 _ (List.mem_of_getElem? (i := 210) rfl)⟩
theorem fl_Cu_24 : FL "DoorsOnCogs$Cutter" 24 0 2 := ⟨RX0, TX0, 4, rfl, by decide, inX0, in_tab1 _ (List.mem_of_getElem? (i := 211) rfl)⟩
theorem fl_Cu_28 : FL "DoorsOnCogs$Cutter" 28 0 3 := ⟨RX0, TX0, 4, rfl, by decide, inX0, in_tab1 _ (List.mem_of_getElem? (i := 212) rfl)⟩
theorem fl_Cu_31 : FL "DoorsOnCogs$Cutter" 31 6 4 := ⟨RX6, TX6, 17, rfl, by decide, inX6, in_tab1 _ (List.mem_of_getElem? (i := 79) rfl)⟩
theorem fl_Cu_49 : FL "DoorsOnCogs$Cutter" 49 2 7 := ⟨RX2, TX2, 9, rfl, by decide, inX2, in_tab1 _ (List.mem_of_getElem? (i := 177) rfl)⟩
theorem fl_Cu_56 : FL "DoorsOnCogs$Cutter" 56 2 1 := ⟨RX2, TX2, 9, rfl, by decide, inX2, in_tab1 _ (List.mem_of_getElem? (i := 165) rfl)⟩
theorem fl_Di_9 : FL "DoorsOnCogs$Diary" 9 1 5 := ⟨RX1, TX1, 6, rfl, by decide, inX1, in_tab2 _ (List.mem_of_getElem? (i := 123) rfl)⟩
theorem fl_Di_15 : FL "DoorsOnCogs$Diary" 15 1 0 := ⟨RX1, TX1, 6, rfl, by decide, inX1, in_tab2 _ (List.mem_of_getElem? (i := 117) rfl)⟩
theorem fl_Di_19 : FL "DoorsOnCogs$Diary" 19 1 1 := ⟨RX1, TX1, 6, rfl, by decide, inX1, in_tab2 _ (List.mem_of_getElem? (i := 118) rfl)⟩
theorem fl_Di_23 : FL "DoorsOnCogs$Diary" 23 1 2 := ⟨RX1, TX1, 6, rfl, by decide, inX1, in_tab2 _ (List.mem_of_getElem? (i := 119) rfl)⟩
theorem fl_Di_27 : FL "DoorsOnCogs$Diary" 27 1 3 := ⟨RX1, TX1, 6, rfl, by decide, inX1, in_tab2 _ (List.mem_of_getElem? (i := 121) rfl)⟩
theorem fl_Di_30 : FL "DoorsOnCogs$Diary" 30 1 4 := ⟨RX1, TX1, 6, rfl, by decide, inX1, in_tab2 _ (List.mem_of_getElem? (i := 122) rfl)⟩
theorem fl_Di_39 : FL "DoorsOnCogs$Diary" 39 2 0 := ⟨RX2, TX2, 9, rfl, by decide, inX2, in_tab1 _ (List.mem_of_getElem? (i := 161) rfl)⟩
theorem fl_Di_71 : FL "DoorsOnCogs$Diary" 71 6 0 := ⟨RX6, TX6, 17, rfl, by decide, inX6, in_tab1 _ (List.mem_of_getElem? (i := 62) rfl)⟩
theorem fl_Di_74 : FL "DoorsOnCogs$Diary" 74 2 1 := ⟨RX2, TX2, 9, rfl, by decide, inX2, in_tab1 _ (List.mem_of_getElem? (i := 166) rfl)⟩
theorem fl_Ge_9 : FL "DoorsOnCogs$Gears" 9 2 1 := ⟨RX2, TX2, 9, rfl, by decide, inX2, in_tab1 _ (List.mem_of_getElem? (i := 163) rfl)⟩
theorem fl_Ge_15 : FL "DoorsOnCogs$Gears" 15 2 2 := ⟨RX2, TX2, 9, rfl, by decide, inX2, in_tab1 _ (List.mem_of_getElem? (i := 168) rfl)⟩
theorem fl_Ge_19 : FL "DoorsOnCogs$Gears" 19 2 3 := ⟨RX2, TX2, 9, rfl, by decide, inX2, in_tab1 _ (List.mem_of_getElem? (i := 169) rfl)⟩
theorem fl_Ge_22 : FL "DoorsOnCogs$Gears" 22 2 4 := ⟨RX2, TX2, 9, rfl, by decide, inX2, in_tab1 _ (List.mem_of_getElem? (i := 170) rfl)⟩
theorem fl_Ge_25 : FL "DoorsOnCogs$Gears" 25 2 5 := ⟨RX2, TX2, 9, rfl, by decide, inX2, in_tab1 _ (List.mem_of_getElem? (i := 173) rfl)⟩
theorem fl_Ge_28 : FL "DoorsOnCogs$Gears" 28 2 6 := ⟨RX2, TX2, 9, rfl, by decide, inX2, in_tab1 _ (List.mem_of_getElem? (i := 174) rfl)⟩
theorem fl_Ge_31 : FL "DoorsOnCogs$Gears" 31 2 0 := ⟨RX2, TX2, 9, rfl, by decide, inX2, in_tab1 _ (List.mem_of_getElem? (i := 160) rfl)⟩
theorem fl_Ge_51 : FL "DoorsOnCogs$Gears" 51 2 8 := ⟨RX2, TX2, 9, rfl, by decide, inX2, in_tab1 _ (List.mem_of_getElem? (i := 179) rfl)⟩
theorem fl_Ge_55 : FL "DoorsOnCogs$Gears" 55 2 7 := ⟨RX2, TX2, 9, rfl, by decide, inX2, in_tab1 _ (List.mem_of_getElem? (i := 175) rfl)⟩
theorem fl_Ge_58 : FL "DoorsOnCogs$Gears" 58 6 0 := ⟨RX6, TX6, 17, rfl, by decide, inX6, in_tab1 _ (List.mem_of_getElem? (i := 61) rfl)⟩
theorem fl_Ge_67 : FL "DoorsOnCogs$Gears" 67 6 4 := ⟨RX6, TX6, 17, rfl, by decide, inX6, in_tab1 _ (List.mem_of_getElem? (i := 80) rfl)⟩
theorem fl_Ge_78 : FL "DoorsOnCogs$Gears" 78 6 6 := ⟨RX6, TX6, 17, rfl, by decide, inX6, in_tab1 _ (List.mem_of_getElem? (i := 86) rfl)⟩
theorem fl_Ge_85 : FL "DoorsOnCogs$Gears" 85 6 7 := ⟨RX6, TX6, 17, rfl, by decide, inX6, in_tab1 _ (List.mem_of_getElem? (i := 89) rfl)⟩
theorem fl_Ge_88 : FL "DoorsOnCogs$Gears" 88 6 8 := ⟨RX6, TX6, 17, rfl, by decide, inX6, in_tab1 _ (List.mem_of_getElem? (i := 92) rfl)⟩
theorem fl_Ge_95 : FL "DoorsOnCogs$Gears" 95 6 1 := ⟨RX6, TX6, 17, rfl, by decide, inX6, in_tab1 _ (List.mem_of_getElem? (i := 65) rfl)⟩
theorem fl_Ge_114 : FL "DoorsOnCogs$Gears" 114 6 3 := ⟨RX6, TX6, 17, rfl, by decide, inX6, in_tab1 _ (List.mem_of_getElem? (i := 77) rfl)⟩
theorem fl_Ge_117 : FL "DoorsOnCogs$Gears" 117 6 9 := ⟨RX6, TX6, 17, rfl, by decide, inX6, in_tab1 _ (List.mem_of_getElem? (i := 97) rfl)⟩
theorem fl_Ge_128 : FL "DoorsOnCogs$Gears" 128 6 2 := ⟨RX6, TX6, 17, rfl, by decide, inX6, in_tab1 _ (List.mem_of_getElem? (i := 72) rfl)⟩
theorem fl_Pl_11 : FL "DoorsOnCogs$Planner" 11 3 2 := ⟨RX3, TX3, 16, rfl, by decide, inX3, in_tab1 _ (List.mem_of_getElem? (i := 230) rfl)⟩
theorem fl_Pl_15 : FL "DoorsOnCogs$Planner" 15 3 3 := ⟨RX3, TX3, 16, rfl, by decide, inX3, in_tab1 _ (List.mem_of_getElem? (i := 231) rfl)⟩
theorem fl_Pl_19 : FL "DoorsOnCogs$Planner" 19 3 4 := ⟨RX3, TX3, 16, rfl, by decide, inX3, in_tab1 _ (List.mem_of_getElem? (i := 232) rfl)⟩
theorem fl_Pl_22 : FL "DoorsOnCogs$Planner" 22 3 5 := ⟨RX3, TX3, 16, rfl, by decide, inX3, in_tab1 _ (List.mem_of_getElem? (i := 233) rfl)⟩
theorem fl_Pl_25 : FL "DoorsOnCogs$Planner" 25 3 0 := ⟨RX3, TX3, 16, rfl, by decide, inX3, in_tab1 _ (List.mem_of_getElem? (i := 228) rfl)⟩
theorem fl_Pl_29 : FL "DoorsOnCogs$Planner" 29 3 1 := ⟨RX3, TX3, 16, rfl, by decide, inX3, in_tab1 _ (List.mem_of_getElem? (i := 229) rfl)⟩
theorem fl_Pl_33 : FL "DoorsOnCogs$Planner" 33 3 8 := ⟨RX3, TX3, 16, rfl, by decide, inX3, in_tab1 _ (List.mem_of_getElem? (i := 236) rfl)⟩
theorem fl_Pl_37 : FL "DoorsOnCogs$Planner" 37 6 0 := ⟨RX6, TX6, 17, rfl, by decide, inX6, in_tab1 _ (List.mem_of_getElem? (i := 59) rfl)⟩
theorem fl_Pl_42 : FL "DoorsOnCogs$Planner" 42 2 1 := ⟨RX2, TX2, 9, rfl, by decide, inX2, in_tab1 _ (List.mem_of_getElem? (i := 164) rfl)⟩
theorem fl_Pl_67 : FL "DoorsOnCogs$Planner" 67 3 9 := ⟨RX3, TX3, 16, rfl, by decide, inX3, in_tab1 _ (List.mem_of_getElem? (i := 238) rfl)⟩
theorem fl_Pl_70 : FL "DoorsOnCogs$Planner" 70 6 10 := ⟨RX6, TX6, 17, rfl, by decide, inX6, in_tab1 _ (List.mem_of_getElem? (i := 99) rfl)⟩
theorem fl_Pl_73 : FL "DoorsOnCogs$Planner" 73 3 10 := ⟨RX3, TX3, 16, rfl, by decide, inX3, in_tab1 _ (List.mem_of_getElem? (i := 239) rfl)⟩
theorem fl_Pl_74 : FL "DoorsOnCogs$Planner" 74 6 11 := ⟨RX6, TX6, 17, rfl, by decide, inX6, in_tab1 _ (List.mem_of_getElem? (i := 102) rfl)⟩
theorem fl_Pl_77 : FL "DoorsOnCogs$Planner" 77 3 11 := ⟨RX3, TX3, 16, rfl, by decide, inX3, in_tab2 _ (List.mem_of_getElem? (i := 0) rfl)⟩
theorem fl_Pl_78 : FL "DoorsOnCogs$Planner" 78 3 13 := ⟨RX3, TX3, 16, rfl, by decide, inX3, in_tab2 _ (List.mem_of_getElem? (i := 2) rfl)⟩
theorem fl_Pl_81 : FL "DoorsOnCogs$Planner" 81 3 12 := ⟨RX3, TX3, 16, rfl, by decide, inX3, in_tab2 _ (List.mem_of_getElem? (i := 1) rfl)⟩
theorem fl_Pl_87 : FL "DoorsOnCogs$Planner" 87 6 3 := ⟨RX6, TX6, 17, rfl, by decide, inX6, in_tab1 _ (List.mem_of_getElem? (i := 74) rfl)⟩
theorem fl_Pl_90 : FL "DoorsOnCogs$Planner" 90 2 7 := ⟨RX2, TX2, 9, rfl, by decide, inX2, in_tab1 _ (List.mem_of_getElem? (i := 176) rfl)⟩
theorem fl_Pl_113 : FL "DoorsOnCogs$Planner" 113 3 14 := ⟨RX3, TX3, 16, rfl, by decide, inX3, in_tab2 _ (List.mem_of_getElem? (i := 3) rfl)⟩
theorem fl_Pl_119 : FL "DoorsOnCogs$Planner" 119 3 15 := ⟨RX3, TX3, 16, rfl, by decide, inX3, in_tab2 _ (List.mem_of_getElem? (i := 4) rfl)⟩
theorem fl_Pl_122 : FL "DoorsOnCogs$Planner" 122 6 2 := ⟨RX6, TX6, 17, rfl, by decide, inX6, in_tab1 _ (List.mem_of_getElem? (i := 69) rfl)⟩
theorem fl_Pl_125 : FL "DoorsOnCogs$Planner" 125 6 9 := ⟨RX6, TX6, 17, rfl, by decide, inX6, in_tab1 _ (List.mem_of_getElem? (i := 95) rfl)⟩
theorem fl_Pl_128 : FL "DoorsOnCogs$Planner" 128 2 4 := ⟨RX2, TX2, 9, rfl, by decide, inX2, in_tab1 _ (List.mem_of_getElem? (i := 171) rfl)⟩
theorem fl_Pl_144 : FL "DoorsOnCogs$Planner" 144 3 6 := ⟨RX3, TX3, 16, rfl, by decide, inX3, in_tab1 _ (List.mem_of_getElem? (i := 234) rfl)⟩
theorem fl_Pl_162 : FL "DoorsOnCogs$Planner" 162 3 7 := ⟨RX3, TX3, 16, rfl, by decide, inX3, in_tab1 _ (List.mem_of_getElem? (i := 235) rfl)⟩
theorem fl_Bo_11 : FL "DoorsOnCogs$RuleBook" 11 4 2 := ⟨RX4, TX4, 6, rfl, by decide, inX4, in_tab2 _ (List.mem_of_getElem? (i := 47) rfl)⟩
theorem fl_Bo_15 : FL "DoorsOnCogs$RuleBook" 15 4 3 := ⟨RX4, TX4, 6, rfl, by decide, inX4, in_tab2 _ (List.mem_of_getElem? (i := 48) rfl)⟩
theorem fl_Bo_18 : FL "DoorsOnCogs$RuleBook" 18 4 4 := ⟨RX4, TX4, 6, rfl, by decide, inX4, in_tab2 _ (List.mem_of_getElem? (i := 49) rfl)⟩
theorem fl_Bo_22 : FL "DoorsOnCogs$RuleBook" 22 4 0 := ⟨RX4, TX4, 6, rfl, by decide, inX4, in_tab2 _ (List.mem_of_getElem? (i := 44) rfl)⟩
theorem fl_Bo_26 : FL "DoorsOnCogs$RuleBook" 26 4 1 := ⟨RX4, TX4, 6, rfl, by decide, inX4, in_tab2 _ (List.mem_of_getElem? (i := 45) rfl)⟩
theorem fl_Bo_30 : FL "DoorsOnCogs$RuleBook" 30 4 5 := ⟨RX4, TX4, 6, rfl, by decide, inX4, in_tab2 _ (List.mem_of_getElem? (i := 50) rfl)⟩
theorem fl_Bo_66 : FL "DoorsOnCogs$RuleBook" 66 2 0 := ⟨RX2, TX2, 9, rfl, by decide, inX2, in_tab1 _ (List.mem_of_getElem? (i := 162) rfl)⟩
theorem fl_Bo_72 : FL "DoorsOnCogs$RuleBook" 72 6 1 := ⟨RX6, TX6, 17, rfl, by decide, inX6, in_tab1 _ (List.mem_of_getElem? (i := 67) rfl)⟩
theorem fl_Bo_77 : FL "DoorsOnCogs$RuleBook" 77 6 2 := ⟨RX6, TX6, 17, rfl, by decide, inX6, in_tab1 _ (List.mem_of_getElem? (i := 71) rfl)⟩
theorem fl_Rr_9 : FL "DoorsOnCogs$RuleReader" 9 5 2 := ⟨RX5, TX5, 9, rfl, by decide, inX5, in_tab2 _ (List.mem_of_getElem? (i := 85) rfl)⟩
theorem fl_Rr_15 : FL "DoorsOnCogs$RuleReader" 15 5 0 := ⟨RX5, TX5, 9, rfl, by decide, inX5, in_tab2 _ (List.mem_of_getElem? (i := 83) rfl)⟩
theorem fl_Rr_19 : FL "DoorsOnCogs$RuleReader" 19 5 1 := ⟨RX5, TX5, 9, rfl, by decide, inX5, in_tab2 _ (List.mem_of_getElem? (i := 84) rfl)⟩
theorem fl_Rr_23 : FL "DoorsOnCogs$RuleReader" 23 5 3 := ⟨RX5, TX5, 9, rfl, by decide, inX5, in_tab2 _ (List.mem_of_getElem? (i := 86) rfl)⟩
theorem fl_Rr_27 : FL "DoorsOnCogs$RuleReader" 27 5 4 := ⟨RX5, TX5, 9, rfl, by decide, inX5, in_tab2 _ (List.mem_of_getElem? (i := 87) rfl)⟩
theorem fl_Rr_30 : FL "DoorsOnCogs$RuleReader" 30 5 5 := ⟨RX5, TX5, 9, rfl, by decide, inX5, in_tab2 _ (List.mem_of_getElem? (i := 88) rfl)⟩
theorem fl_Rr_33 : FL "DoorsOnCogs$RuleReader" 33 5 6 := ⟨RX5, TX5, 9, rfl, by decide, inX5, in_tab2 _ (List.mem_of_getElem? (i := 89) rfl)⟩
theorem fl_Rr_36 : FL "DoorsOnCogs$RuleReader" 36 5 7 := ⟨RX5, TX5, 9, rfl, by decide, inX5, in_tab2 _ (List.mem_of_getElem? (i := 90) rfl)⟩
theorem fl_Rr_39 : FL "DoorsOnCogs$RuleReader" 39 5 8 := ⟨RX5, TX5, 9, rfl, by decide, inX5, in_tab2 _ (List.mem_of_getElem? (i := 91) rfl)⟩
theorem fl_Rr_69 : FL "DoorsOnCogs$RuleReader" 69 7 2 := ⟨RX7, TX7, 4, rfl, by decide, inX7, in_tab1 _ (List.mem_of_getElem? (i := 39) rfl)⟩
theorem fl_Sc_9 : FL "DoorsOnCogs$Scene" 9 6 1 := ⟨RX6, TX6, 17, rfl, by decide, inX6, in_tab1 _ (List.mem_of_getElem? (i := 64) rfl)⟩
theorem fl_Sc_15 : FL "DoorsOnCogs$Scene" 15 6 2 := ⟨RX6, TX6, 17, rfl, by decide, inX6, in_tab1 _ (List.mem_of_getElem? (i := 68) rfl)⟩
theorem fl_Sc_18 : FL "DoorsOnCogs$Scene" 18 6 6 := ⟨RX6, TX6, 17, rfl, by decide, inX6, in_tab1 _ (List.mem_of_getElem? (i := 85) rfl)⟩
theorem fl_Sc_21 : FL "DoorsOnCogs$Scene" 21 6 7 := ⟨RX6, TX6, 17, rfl, by decide, inX6, in_tab1 _ (List.mem_of_getElem? (i := 88) rfl)⟩
theorem fl_Sc_24 : FL "DoorsOnCogs$Scene" 24 6 8 := ⟨RX6, TX6, 17, rfl, by decide, inX6, in_tab1 _ (List.mem_of_getElem? (i := 91) rfl)⟩
theorem fl_Sc_27 : FL "DoorsOnCogs$Scene" 27 6 9 := ⟨RX6, TX6, 17, rfl, by decide, inX6, in_tab1 _ (List.mem_of_getElem? (i := 94) rfl)⟩
theorem fl_Sc_31 : FL "DoorsOnCogs$Scene" 31 6 13 := ⟨RX6, TX6, 17, rfl, by decide, inX6, in_tab1 _ (List.mem_of_getElem? (i := 106) rfl)⟩
theorem fl_Sc_34 : FL "DoorsOnCogs$Scene" 34 6 15 := ⟨RX6, TX6, 17, rfl, by decide, inX6, in_tab1 _ (List.mem_of_getElem? (i := 110) rfl)⟩
theorem fl_Sc_37 : FL "DoorsOnCogs$Scene" 37 6 0 := ⟨RX6, TX6, 17, rfl, by decide, inX6, in_tab1 _ (List.mem_of_getElem? (i := 58) rfl)⟩
theorem fl_Sc_41 : FL "DoorsOnCogs$Scene" 41 6 3 := ⟨RX6, TX6, 17, rfl, by decide, inX6, in_tab1 _ (List.mem_of_getElem? (i := 73) rfl)⟩
theorem fl_Sc_44 : FL "DoorsOnCogs$Scene" 44 6 4 := ⟨RX6, TX6, 17, rfl, by decide, inX6, in_tab1 _ (List.mem_of_getElem? (i := 78) rfl)⟩
theorem fl_Sc_47 : FL "DoorsOnCogs$Scene" 47 6 5 := ⟨RX6, TX6, 17, rfl, by decide, inX6, in_tab1 _ (List.mem_of_getElem? (i := 83) rfl)⟩
theorem fl_Sc_56 : FL "DoorsOnCogs$Scene" 56 6 10 := ⟨RX6, TX6, 17, rfl, by decide, inX6, in_tab1 _ (List.mem_of_getElem? (i := 98) rfl)⟩
theorem fl_Sc_59 : FL "DoorsOnCogs$Scene" 59 6 11 := ⟨RX6, TX6, 17, rfl, by decide, inX6, in_tab1 _ (List.mem_of_getElem? (i := 101) rfl)⟩
theorem fl_Sc_62 : FL "DoorsOnCogs$Scene" 62 6 12 := ⟨RX6, TX6, 17, rfl, by decide, inX6, in_tab1 _ (List.mem_of_getElem? (i := 104) rfl)⟩
theorem fl_Sc_65 : FL "DoorsOnCogs$Scene" 65 6 14 := ⟨RX6, TX6, 17, rfl, by decide, inX6, in_tab1 _ (List.mem_of_getElem? (i := 108) rfl)⟩
theorem fl_Sc_68 : FL "DoorsOnCogs$Scene" 68 6 16 := ⟨RX6, TX6, 17, rfl, by decide, inX6, in_tab1 _ (List.mem_of_getElem? (i := 112) rfl)⟩
theorem fl_Sp_9 : FL "DoorsOnCogs$Script" 9 7 0 := ⟨RX7, TX7, 4, rfl, by decide, inX7, in_tab1 _ (List.mem_of_getElem? (i := 34) rfl)⟩
theorem fl_Sp_21 : FL "DoorsOnCogs$Script" 21 7 1 := ⟨RX7, TX7, 4, rfl, by decide, inX7, in_tab1 _ (List.mem_of_getElem? (i := 35) rfl)⟩
theorem fl_Sp_25 : FL "DoorsOnCogs$Script" 25 7 2 := ⟨RX7, TX7, 4, rfl, by decide, inX7, in_tab1 _ (List.mem_of_getElem? (i := 37) rfl)⟩
theorem fl_Sp_28 : FL "DoorsOnCogs$Script" 28 7 3 := ⟨RX7, TX7, 4, rfl, by decide, inX7, in_tab1 _ (List.mem_of_getElem? (i := 40) rfl)⟩
theorem fl_Sr_9 : FL "DoorsOnCogs$StreetReader" 9 8 0 := ⟨RX8, TX8, 2, rfl, by decide, inX8, in_tab2 _ (List.mem_of_getElem? (i := 70) rfl)⟩
theorem fl_Sr_15 : FL "DoorsOnCogs$StreetReader" 15 8 1 := ⟨RX8, TX8, 2, rfl, by decide, inX8, in_tab2 _ (List.mem_of_getElem? (i := 71) rfl)⟩
theorem fl_Sr_37 : FL "DoorsOnCogs$StreetReader" 37 6 0 := ⟨RX6, TX6, 17, rfl, by decide, inX6, in_tab1 _ (List.mem_of_getElem? (i := 60) rfl)⟩
theorem fl_Sr_41 : FL "DoorsOnCogs$StreetReader" 41 7 1 := ⟨RX7, TX7, 4, rfl, by decide, inX7, in_tab1 _ (List.mem_of_getElem? (i := 36) rfl)⟩
theorem fl_Sr_52 : FL "DoorsOnCogs$StreetReader" 52 7 2 := ⟨RX7, TX7, 4, rfl, by decide, inX7, in_tab1 _ (List.mem_of_getElem? (i := 38) rfl)⟩
theorem fl_Sr_82 : FL "DoorsOnCogs$StreetReader" 82 6 4 := ⟨RX6, TX6, 17, rfl, by decide, inX6, in_tab1 _ (List.mem_of_getElem? (i := 81) rfl)⟩
theorem fl_Sr_85 : FL "DoorsOnCogs$StreetReader" 85 6 5 := ⟨RX6, TX6, 17, rfl, by decide, inX6, in_tab1 _ (List.mem_of_getElem? (i := 84) rfl)⟩
theorem fl_Sr_98 : FL "DoorsOnCogs$StreetReader" 98 6 3 := ⟨RX6, TX6, 17, rfl, by decide, inX6, in_tab1 _ (List.mem_of_getElem? (i := 75) rfl)⟩
theorem fl_M_7 : FL "DoorsOnCogsModel" 7 10 0 := ⟨RX10, TX10, 47, rfl, by decide, inX10, in_tab5 _ (List.mem_of_getElem? (i := 134) rfl)⟩
theorem fl_M_13 : FL "DoorsOnCogsModel" 13 10 3 := ⟨RX10, TX10, 47, rfl, by decide, inX10, in_tab5 _ (List.mem_of_getElem? (i := 137) rfl)⟩
theorem fl_M_17 : FL "DoorsOnCogsModel" 17 10 4 := ⟨RX10, TX10, 47, rfl, by decide, inX10, in_tab5 _ (List.mem_of_getElem? (i := 138) rfl)⟩
theorem fl_M_20 : FL "DoorsOnCogsModel" 20 10 5 := ⟨RX10, TX10, 47, rfl, by decide, inX10, in_tab5 _ (List.mem_of_getElem? (i := 139) rfl)⟩
theorem fl_M_23 : FL "DoorsOnCogsModel" 23 10 6 := ⟨RX10, TX10, 47, rfl, by decide, inX10, in_tab5 _ (List.mem_of_getElem? (i := 140) rfl)⟩
theorem fl_M_26 : FL "DoorsOnCogsModel" 26 10 11 := ⟨RX10, TX10, 47, rfl, by decide, inX10, in_tab5 _ (List.mem_of_getElem? (i := 145) rfl)⟩
theorem fl_M_29 : FL "DoorsOnCogsModel" 29 10 12 := ⟨RX10, TX10, 47, rfl, by decide, inX10, in_tab5 _ (List.mem_of_getElem? (i := 146) rfl)⟩
theorem fl_M_32 : FL "DoorsOnCogsModel" 32 10 20 := ⟨RX10, TX10, 47, rfl, by decide, inX10, in_tab5 _ (List.mem_of_getElem? (i := 154) rfl)⟩
theorem fl_M_35 : FL "DoorsOnCogsModel" 35 10 22 := ⟨RX10, TX10, 47, rfl, by decide, inX10, in_tab5 _ (List.mem_of_getElem? (i := 156) rfl)⟩
theorem fl_M_39 : FL "DoorsOnCogsModel" 39 10 24 := ⟨RX10, TX10, 47, rfl, by decide, inX10, in_tab5 _ (List.mem_of_getElem? (i := 158) rfl)⟩
theorem fl_M_42 : FL "DoorsOnCogsModel" 42 10 25 := ⟨RX10, TX10, 47, rfl, by decide, inX10, in_tab5 _ (List.mem_of_getElem? (i := 159) rfl)⟩
theorem fl_M_45 : FL "DoorsOnCogsModel" 45 10 26 := ⟨RX10, TX10, 47, rfl, by decide, inX10, in_tab5 _ (List.mem_of_getElem? (i := 160) rfl)⟩
theorem fl_M_48 : FL "DoorsOnCogsModel" 48 10 27 := ⟨RX10, TX10, 47, rfl, by decide, inX10, in_tab5 _ (List.mem_of_getElem? (i := 161) rfl)⟩
theorem fl_M_51 : FL "DoorsOnCogsModel" 51 10 28 := ⟨RX10, TX10, 47, rfl, by decide, inX10, in_tab5 _ (List.mem_of_getElem? (i := 162) rfl)⟩
theorem fl_M_54 : FL "DoorsOnCogsModel" 54 10 29 := ⟨RX10, TX10, 47, rfl, by decide, inX10, in_tab5 _ (List.mem_of_getElem? (i := 163) rfl)⟩
theorem fl_M_57 : FL "DoorsOnCogsModel" 57 10 30 := ⟨RX10, TX10, 47, rfl, by decide, inX10, in_tab5 _ (List.mem_of_getElem? (i := 164) rfl)⟩
theorem fl_M_60 : FL "DoorsOnCogsModel" 60 10 31 := ⟨RX10, TX10, 47, rfl, by decide, inX10, in_tab5 _ (List.mem_of_getElem? (i := 165) rfl)⟩
theorem fl_M_64 : FL "DoorsOnCogsModel" 64 10 32 := ⟨RX10, TX10, 47, rfl, by decide, inX10, in_tab5 _ (List.mem_of_getElem? (i := 166) rfl)⟩
theorem fl_M_68 : FL "DoorsOnCogsModel" 68 10 33 := ⟨RX10, TX10, 47, rfl, by decide, inX10, in_tab5 _ (List.mem_of_getElem? (i := 167) rfl)⟩
theorem fl_M_71 : FL "DoorsOnCogsModel" 71 10 34 := ⟨RX10, TX10, 47, rfl, by decide, inX10, in_tab5 _ (List.mem_of_getElem? (i := 168) rfl)⟩
theorem fl_M_74 : FL "DoorsOnCogsModel" 74 10 35 := ⟨RX10, TX10, 47, rfl, by decide, inX10, in_tab5 _ (List.mem_of_getElem? (i := 169) rfl)⟩
theorem fl_M_77 : FL "DoorsOnCogsModel" 77 10 37 := ⟨RX10, TX10, 47, rfl, by decide, inX10, in_tab5 _ (List.mem_of_getElem? (i := 171) rfl)⟩
theorem fl_M_80 : FL "DoorsOnCogsModel" 80 10 38 := ⟨RX10, TX10, 47, rfl, by decide, inX10, in_tab5 _ (List.mem_of_getElem? (i := 172) rfl)⟩
theorem fl_M_83 : FL "DoorsOnCogsModel" 83 10 43 := ⟨RX10, TX10, 47, rfl, by decide, inX10, in_tab5 _ (List.mem_of_getElem? (i := 177) rfl)⟩
theorem fl_M_86 : FL "DoorsOnCogsModel" 86 10 44 := ⟨RX10, TX10, 47, rfl, by decide, inX10, in_tab5 _ (List.mem_of_getElem? (i := 178) rfl)⟩
theorem fl_M_89 : FL "DoorsOnCogsModel" 89 10 45 := ⟨RX10, TX10, 47, rfl, by decide, inX10, in_tab5 _ (List.mem_of_getElem? (i := 179) rfl)⟩
theorem fl_M_92 : FL "DoorsOnCogsModel" 92 10 46 := ⟨RX10, TX10, 47, rfl, by decide, inX10, in_tab5 _ (List.mem_of_getElem? (i := 180) rfl)⟩
theorem fl_M_99 : FL "DoorsOnCogsModel" 99 10 1 := ⟨RX10, TX10, 47, rfl, by decide, inX10, in_tab5 _ (List.mem_of_getElem? (i := 135) rfl)⟩
theorem fl_M_107 : FL "DoorsOnCogsModel" 107 10 14 := ⟨RX10, TX10, 47, rfl, by decide, inX10, in_tab5 _ (List.mem_of_getElem? (i := 148) rfl)⟩
theorem fl_M_110 : FL "DoorsOnCogsModel" 110 10 13 := ⟨RX10, TX10, 47, rfl, by decide, inX10, in_tab5 _ (List.mem_of_getElem? (i := 147) rfl)⟩
theorem fl_M_135 : FL "DoorsOnCogsModel" 135 10 15 := ⟨RX10, TX10, 47, rfl, by decide, inX10, in_tab5 _ (List.mem_of_getElem? (i := 149) rfl)⟩
theorem fl_M_158 : FL "DoorsOnCogsModel" 158 10 16 := ⟨RX10, TX10, 47, rfl, by decide, inX10, in_tab5 _ (List.mem_of_getElem? (i := 150) rfl)⟩
theorem fl_M_161 : FL "DoorsOnCogsModel" 161 10 17 := ⟨RX10, TX10, 47, rfl, by decide, inX10, in_tab5 _ (List.mem_of_getElem? (i := 151) rfl)⟩
theorem fl_M_164 : FL "DoorsOnCogsModel" 164 10 18 := ⟨RX10, TX10, 47, rfl, by decide, inX10, in_tab5 _ (List.mem_of_getElem? (i := 152) rfl)⟩
theorem fl_M_167 : FL "DoorsOnCogsModel" 167 10 21 := ⟨RX10, TX10, 47, rfl, by decide, inX10, in_tab5 _ (List.mem_of_getElem? (i := 155) rfl)⟩
theorem fl_M_230 : FL "DoorsOnCogsModel" 230 10 7 := ⟨RX10, TX10, 47, rfl, by decide, inX10, in_tab5 _ (List.mem_of_getElem? (i := 141) rfl)⟩
theorem fl_M_233 : FL "DoorsOnCogsModel" 233 10 8 := ⟨RX10, TX10, 47, rfl, by decide, inX10, in_tab5 _ (List.mem_of_getElem? (i := 142) rfl)⟩
theorem fl_M_236 : FL "DoorsOnCogsModel" 236 10 9 := ⟨RX10, TX10, 47, rfl, by decide, inX10, in_tab5 _ (List.mem_of_getElem? (i := 143) rfl)⟩
theorem fl_M_239 : FL "DoorsOnCogsModel" 239 10 10 := ⟨RX10, TX10, 47, rfl, by decide, inX10, in_tab5 _ (List.mem_of_getElem? (i := 144) rfl)⟩
theorem fl_M_255 : FL "DoorsOnCogsModel" 255 10 19 := ⟨RX10, TX10, 47, rfl, by decide, inX10, in_tab5 _ (List.mem_of_getElem? (i := 153) rfl)⟩
theorem fl_M_273 : FL "DoorsOnCogsModel" 273 10 2 := ⟨RX10, TX10, 47, rfl, by decide, inX10, in_tab5 _ (List.mem_of_getElem? (i := 136) rfl)⟩
theorem fl_M_282 : FL "DoorsOnCogsModel" 282 10 23 := ⟨RX10, TX10, 47, rfl, by decide, inX10, in_tab5 _ (List.mem_of_getElem? (i := 157) rfl)⟩
theorem fl_M_403 : FL "DoorsOnCogsModel" 403 10 36 := ⟨RX10, TX10, 47, rfl, by decide, inX10, in_tab5 _ (List.mem_of_getElem? (i := 170) rfl)⟩
theorem fl_M_420 : FL "DoorsOnCogsModel" 420 10 39 := ⟨RX10, TX10, 47, rfl, by decide, inX10, in_tab5 _ (List.mem_of_getElem? (i := 173) rfl)⟩
theorem fl_M_468 : FL "DoorsOnCogsModel" 468 10 40 := ⟨RX10, TX10, 47, rfl, by decide, inX10, in_tab5 _ (List.mem_of_getElem? (i := 174) rfl)⟩
theorem fl_M_471 : FL "DoorsOnCogsModel" 471 10 41 := ⟨RX10, TX10, 47, rfl, by decide, inX10, in_tab5 _ (List.mem_of_getElem? (i := 175) rfl)⟩
theorem fl_M_474 : FL "DoorsOnCogsModel" 474 10 42 := ⟨RX10, TX10, 47, rfl, by decide, inX10, in_tab5 _ (List.mem_of_getElem? (i := 176) rfl)⟩
theorem fp_0_2 : FP 0 2 .int := ⟨RX0, TX0, 4, tyX0, rfl, tyX0_ok, nmX0, rfl, by decide +kernel⟩
theorem fp_0_3 : FP 0 3 .int := ⟨RX0, TX0, 4, tyX0, rfl, tyX0_ok, nmX0, rfl, by decide +kernel⟩
theorem fp_1_2 : FP 1 2 .int := ⟨RX1, TX1, 6, tyX1, rfl, tyX1_ok, nmX1, rfl, by decide +kernel⟩
theorem fp_1_3 : FP 1 3 .int := ⟨RX1, TX1, 6, tyX1, rfl, tyX1_ok, nmX1, rfl, by decide +kernel⟩
theorem fp_1_4 : FP 1 4 .int := ⟨RX1, TX1, 6, tyX1, rfl, tyX1_ok, nmX1, rfl, by decide +kernel⟩
theorem fp_2_7 : FP 2 7 .int := ⟨RX2, TX2, 9, tyX2, rfl, tyX2_ok, nmX2, rfl, by decide +kernel⟩
theorem fp_2_8 : FP 2 8 .int := ⟨RX2, TX2, 9, tyX2, rfl, tyX2_ok, nmX2, rfl, by decide +kernel⟩
theorem fp_3_6 : FP 3 6 .int := ⟨RX3, TX3, 16, tyX3, rfl, tyX3_ok, nmX3, rfl, by decide +kernel⟩
theorem fp_3_7 : FP 3 7 .int := ⟨RX3, TX3, 16, tyX3, rfl, tyX3_ok, nmX3, rfl, by decide +kernel⟩
theorem fp_3_8 : FP 3 8 .int := ⟨RX3, TX3, 16, tyX3, rfl, tyX3_ok, nmX3, rfl, by decide +kernel⟩
theorem fp_3_9 : FP 3 9 .int := ⟨RX3, TX3, 16, tyX3, rfl, tyX3_ok, nmX3, rfl, by decide +kernel⟩
theorem fp_3_10 : FP 3 10 .int := ⟨RX3, TX3, 16, tyX3, rfl, tyX3_ok, nmX3, rfl, by decide +kernel⟩
theorem fp_3_11 : FP 3 11 .int := ⟨RX3, TX3, 16, tyX3, rfl, tyX3_ok, nmX3, rfl, by decide +kernel⟩
theorem fp_3_12 : FP 3 12 .int := ⟨RX3, TX3, 16, tyX3, rfl, tyX3_ok, nmX3, rfl, by decide +kernel⟩
theorem fp_3_13 : FP 3 13 .int := ⟨RX3, TX3, 16, tyX3, rfl, tyX3_ok, nmX3, rfl, by decide +kernel⟩
theorem fp_3_14 : FP 3 14 .long := ⟨RX3, TX3, 16, tyX3, rfl, tyX3_ok, nmX3, rfl, by decide +kernel⟩
theorem fp_3_15 : FP 3 15 .long := ⟨RX3, TX3, 16, tyX3, rfl, tyX3_ok, nmX3, rfl, by decide +kernel⟩
theorem fp_4_1 : FP 4 1 .int := ⟨RX4, TX4, 6, tyX4, rfl, tyX4_ok, nmX4, rfl, by decide +kernel⟩
theorem fp_4_5 : FP 4 5 .int := ⟨RX4, TX4, 6, tyX4, rfl, tyX4_ok, nmX4, rfl, by decide +kernel⟩
theorem fp_5_3 : FP 5 3 .int := ⟨RX5, TX5, 9, tyX5, rfl, tyX5_ok, nmX5, rfl, by decide +kernel⟩
theorem fp_5_4 : FP 5 4 .int := ⟨RX5, TX5, 9, tyX5, rfl, tyX5_ok, nmX5, rfl, by decide +kernel⟩
theorem fp_5_5 : FP 5 5 .int := ⟨RX5, TX5, 9, tyX5, rfl, tyX5_ok, nmX5, rfl, by decide +kernel⟩
theorem fp_5_6 : FP 5 6 .int := ⟨RX5, TX5, 9, tyX5, rfl, tyX5_ok, nmX5, rfl, by decide +kernel⟩
theorem fp_5_7 : FP 5 7 .int := ⟨RX5, TX5, 9, tyX5, rfl, tyX5_ok, nmX5, rfl, by decide +kernel⟩
theorem fp_5_8 : FP 5 8 .int := ⟨RX5, TX5, 9, tyX5, rfl, tyX5_ok, nmX5, rfl, by decide +kernel⟩
theorem fp_6_0 : FP 6 0 .int := ⟨RX6, TX6, 17, tyX6, rfl, tyX6_ok, nmX6, rfl, by decide +kernel⟩
theorem fp_6_3 : FP 6 3 .int := ⟨RX6, TX6, 17, tyX6, rfl, tyX6_ok, nmX6, rfl, by decide +kernel⟩
theorem fp_6_4 : FP 6 4 .int := ⟨RX6, TX6, 17, tyX6, rfl, tyX6_ok, nmX6, rfl, by decide +kernel⟩
theorem fp_6_5 : FP 6 5 .int := ⟨RX6, TX6, 17, tyX6, rfl, tyX6_ok, nmX6, rfl, by decide +kernel⟩
theorem fp_6_10 : FP 6 10 .int := ⟨RX6, TX6, 17, tyX6, rfl, tyX6_ok, nmX6, rfl, by decide +kernel⟩
theorem fp_6_11 : FP 6 11 .int := ⟨RX6, TX6, 17, tyX6, rfl, tyX6_ok, nmX6, rfl, by decide +kernel⟩
theorem fp_6_12 : FP 6 12 .int := ⟨RX6, TX6, 17, tyX6, rfl, tyX6_ok, nmX6, rfl, by decide +kernel⟩
theorem fp_6_14 : FP 6 14 .int := ⟨RX6, TX6, 17, tyX6, rfl, tyX6_ok, nmX6, rfl, by decide +kernel⟩
theorem fp_6_16 : FP 6 16 .int := ⟨RX6, TX6, 17, tyX6, rfl, tyX6_ok, nmX6, rfl, by decide +kernel⟩
theorem fp_7_1 : FP 7 1 .int := ⟨RX7, TX7, 4, tyX7, rfl, tyX7_ok, nmX7, rfl, by decide +kernel⟩
theorem fp_7_2 : FP 7 2 .int := ⟨RX7, TX7, 4, tyX7, rfl, tyX7_ok, nmX7, rfl, by decide +kernel⟩
theorem fp_7_3 : FP 7 3 .int := ⟨RX7, TX7, 4, tyX7, rfl, tyX7_ok, nmX7, rfl, by decide +kernel⟩
theorem fp_9_1 : FP 9 1 .int := ⟨RX9, TX9, 15, tyX9, rfl, tyX9_ok, nmX9, rfl, by decide +kernel⟩
theorem fp_10_1 : FP 10 1 .int := ⟨RX10, TX10, 47, tyX10, rfl, tyX10_ok, nmX10, rfl, by decide +kernel⟩
theorem fp_10_2 : FP 10 2 .int := ⟨RX10, TX10, 47, tyX10, rfl, tyX10_ok, nmX10, rfl, by decide +kernel⟩
theorem fp_10_7 : FP 10 7 .int := ⟨RX10, TX10, 47, tyX10, rfl, tyX10_ok, nmX10, rfl, by decide +kernel⟩
theorem fp_10_8 : FP 10 8 .int := ⟨RX10, TX10, 47, tyX10, rfl, tyX10_ok, nmX10, rfl, by decide +kernel⟩
theorem fp_10_9 : FP 10 9 .int := ⟨RX10, TX10, 47, tyX10, rfl, tyX10_ok, nmX10, rfl, by decide +kernel⟩
theorem fp_10_10 : FP 10 10 .int := ⟨RX10, TX10, 47, tyX10, rfl, tyX10_ok, nmX10, rfl, by decide +kernel⟩
theorem fp_10_13 : FP 10 13 .int := ⟨RX10, TX10, 47, tyX10, rfl, tyX10_ok, nmX10, rfl, by decide +kernel⟩
theorem fp_10_14 : FP 10 14 .int := ⟨RX10, TX10, 47, tyX10, rfl, tyX10_ok, nmX10, rfl, by decide +kernel⟩
theorem fp_10_15 : FP 10 15 .int := ⟨RX10, TX10, 47, tyX10, rfl, tyX10_ok, nmX10, rfl, by decide +kernel⟩
theorem fp_10_16 : FP 10 16 .int := ⟨RX10, TX10, 47, tyX10, rfl, tyX10_ok, nmX10, rfl, by decide +kernel⟩
theorem fp_10_17 : FP 10 17 .int := ⟨RX10, TX10, 47, tyX10, rfl, tyX10_ok, nmX10, rfl, by decide +kernel⟩
theorem fp_10_18 : FP 10 18 .int := ⟨RX10, TX10, 47, tyX10, rfl, tyX10_ok, nmX10, rfl, by decide +kernel⟩
theorem fp_10_19 : FP 10 19 .int := ⟨RX10, TX10, 47, tyX10, rfl, tyX10_ok, nmX10, rfl, by decide +kernel⟩
theorem fp_10_21 : FP 10 21 .int := ⟨RX10, TX10, 47, tyX10, rfl, tyX10_ok, nmX10, rfl, by decide +kernel⟩
theorem fp_10_23 : FP 10 23 .int := ⟨RX10, TX10, 47, tyX10, rfl, tyX10_ok, nmX10, rfl, by decide +kernel⟩
theorem fp_10_32 : FP 10 32 .long := ⟨RX10, TX10, 47, tyX10, rfl, tyX10_ok, nmX10, rfl, by decide +kernel⟩
theorem fp_10_36 : FP 10 36 .int := ⟨RX10, TX10, 47, tyX10, rfl, tyX10_ok, nmX10, rfl, by decide +kernel⟩
theorem fp_10_39 : FP 10 39 .int := ⟨RX10, TX10, 47, tyX10, rfl, tyX10_ok, nmX10, rfl, by decide +kernel⟩
theorem fp_10_40 : FP 10 40 .int := ⟨RX10, TX10, 47, tyX10, rfl, tyX10_ok, nmX10, rfl, by decide +kernel⟩
theorem fp_10_41 : FP 10 41 .int := ⟨RX10, TX10, 47, tyX10, rfl, tyX10_ok, nmX10, rfl, by decide +kernel⟩
theorem fp_10_42 : FP 10 42 .int := ⟨RX10, TX10, 47, tyX10, rfl, tyX10_ok, nmX10, rfl, by decide +kernel⟩
