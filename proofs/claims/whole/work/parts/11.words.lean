/-! words: methods -/
theorem mw_Cu_fewest : MW y_Cu_fewest 2 := ⟨in_tab4 _ (List.mem_of_getElem? (i := 202) rfl), in_tab1 _ (List.mem_of_getElem? (i := 6) rfl), by decide, by decide, by decide +kernel, by decide +kernel⟩
theorem mv_Cu_fewest : MV y_Cu_fewest := ⟨in_tab4 _ (List.mem_of_getElem? (i := 200) rfl), in_tab4 _ (List.mem_of_getElem? (i := 201) rfl)⟩
theorem mw_Cu_nextOfSize : MW y_Cu_nextOfSize 1 := ⟨in_tab4 _ (List.mem_of_getElem? (i := 211) rfl), in_tab1 _ (List.mem_of_getElem? (i := 6) rfl), by decide, by decide, by decide +kernel, by decide +kernel⟩
theorem ms_Cu_nextOfSize : Cond.static y_Cu_nextOfSize.1 ∈ lw_tbl := in_tab4 _ (List.mem_of_getElem? (i := 210) rfl)
theorem mw_Cu_isEnough : MW y_Cu_isEnough 1 := ⟨in_tab4 _ (List.mem_of_getElem? (i := 206) rfl), in_tab1 _ (List.mem_of_getElem? (i := 6) rfl), by decide, by decide, by decide +kernel, by decide +kernel⟩
theorem mv_Cu_isEnough : MV y_Cu_isEnough := ⟨in_tab4 _ (List.mem_of_getElem? (i := 204) rfl), in_tab4 _ (List.mem_of_getElem? (i := 205) rfl)⟩
theorem mw_Di_clear : MW y_Di_clear 0 := ⟨in_tab5 _ (List.mem_of_getElem? (i := 12) rfl), in_tab1 _ (List.mem_of_getElem? (i := 11) rfl), by decide, by decide, by decide +kernel, by decide +kernel⟩
theorem mv_Di_clear : MV y_Di_clear := ⟨in_tab5 _ (List.mem_of_getElem? (i := 10) rfl), in_tab5 _ (List.mem_of_getElem? (i := 11) rfl)⟩
theorem mw_Di_spend : MW y_Di_spend 3 := ⟨in_tab5 _ (List.mem_of_getElem? (i := 17) rfl), in_tab1 _ (List.mem_of_getElem? (i := 11) rfl), by decide, by decide, by decide +kernel, by decide +kernel⟩
theorem mv_Di_spend : MV y_Di_spend := ⟨in_tab5 _ (List.mem_of_getElem? (i := 15) rfl), in_tab5 _ (List.mem_of_getElem? (i := 16) rfl)⟩
theorem mw_Di_pushBy : MW y_Di_pushBy 2 := ⟨in_tab5 _ (List.mem_of_getElem? (i := 68) rfl), in_tab1 _ (List.mem_of_getElem? (i := 11) rfl), by decide, by decide, by decide +kernel, by decide +kernel⟩
theorem mv_Di_pushBy : MV y_Di_pushBy := ⟨in_tab5 _ (List.mem_of_getElem? (i := 66) rfl), in_tab5 _ (List.mem_of_getElem? (i := 67) rfl)⟩
theorem mw_Di_tally : MW y_Di_tally 1 := ⟨in_tab5 _ (List.mem_of_getElem? (i := 94) rfl), in_tab1 _ (List.mem_of_getElem? (i := 11) rfl), by decide, by decide, by decide +kernel, by decide +kernel⟩
theorem mv_Di_tally : MV y_Di_tally := ⟨in_tab5 _ (List.mem_of_getElem? (i := 92) rfl), in_tab5 _ (List.mem_of_getElem? (i := 93) rfl)⟩
theorem mw_Ge_fit : MW y_Ge_fit 0 := ⟨in_tab3 _ (List.mem_of_getElem? (i := 119) rfl), in_tab1 _ (List.mem_of_getElem? (i := 4) rfl), by decide, by decide, by decide +kernel, by decide +kernel⟩
theorem mv_Ge_fit : MV y_Ge_fit := ⟨in_tab3 _ (List.mem_of_getElem? (i := 117) rfl), in_tab3 _ (List.mem_of_getElem? (i := 118) rfl)⟩
theorem mw_Ge_hang : MW y_Ge_hang 1 := ⟨in_tab3 _ (List.mem_of_getElem? (i := 123) rfl), in_tab1 _ (List.mem_of_getElem? (i := 4) rfl), by decide, by decide, by decide +kernel, by decide +kernel⟩
theorem mv_Ge_hang : MV y_Ge_hang := ⟨in_tab3 _ (List.mem_of_getElem? (i := 121) rfl), in_tab3 _ (List.mem_of_getElem? (i := 122) rfl)⟩
theorem mw_Ge_gather : MW y_Ge_gather 2 := ⟨in_tab3 _ (List.mem_of_getElem? (i := 130) rfl), in_tab1 _ (List.mem_of_getElem? (i := 4) rfl), by decide, by decide, by decide +kernel, by decide +kernel⟩
theorem mv_Ge_gather : MV y_Ge_gather := ⟨in_tab3 _ (List.mem_of_getElem? (i := 128) rfl), in_tab3 _ (List.mem_of_getElem? (i := 129) rfl)⟩
theorem mw_Ge_hangOn : MW y_Ge_hangOn 4 := ⟨in_tab3 _ (List.mem_of_getElem? (i := 137) rfl), in_tab1 _ (List.mem_of_getElem? (i := 4) rfl), by decide, by decide, by decide +kernel, by decide +kernel⟩
theorem mv_Ge_hangOn : MV y_Ge_hangOn := ⟨in_tab3 _ (List.mem_of_getElem? (i := 135) rfl), in_tab3 _ (List.mem_of_getElem? (i := 136) rfl)⟩
theorem mw_Ge_agrees : MW y_Ge_agrees 1 := ⟨in_tab3 _ (List.mem_of_getElem? (i := 147) rfl), in_tab1 _ (List.mem_of_getElem? (i := 4) rfl), by decide, by decide, by decide +kernel, by decide +kernel⟩
theorem mv_Ge_agrees : MV y_Ge_agrees := ⟨in_tab3 _ (List.mem_of_getElem? (i := 145) rfl), in_tab3 _ (List.mem_of_getElem? (i := 146) rfl)⟩
theorem mw_Ge_setOf : MW y_Ge_setOf 1 := ⟨in_tab3 _ (List.mem_of_getElem? (i := 151) rfl), in_tab1 _ (List.mem_of_getElem? (i := 4) rfl), by decide, by decide, by decide +kernel, by decide +kernel⟩
theorem mv_Ge_setOf : MV y_Ge_setOf := ⟨in_tab3 _ (List.mem_of_getElem? (i := 149) rfl), in_tab3 _ (List.mem_of_getElem? (i := 150) rfl)⟩
theorem mw_Ge_measure : MW y_Ge_measure 0 := ⟨in_tab3 _ (List.mem_of_getElem? (i := 155) rfl), in_tab1 _ (List.mem_of_getElem? (i := 4) rfl), by decide, by decide, by decide +kernel, by decide +kernel⟩
theorem mv_Ge_measure : MV y_Ge_measure := ⟨in_tab3 _ (List.mem_of_getElem? (i := 153) rfl), in_tab3 _ (List.mem_of_getElem? (i := 154) rfl)⟩
theorem mw_Ge_canTurn : MW y_Ge_canTurn 2 := ⟨in_tab3 _ (List.mem_of_getElem? (i := 159) rfl), in_tab1 _ (List.mem_of_getElem? (i := 4) rfl), by decide, by decide, by decide +kernel, by decide +kernel⟩
theorem mv_Ge_canTurn : MV y_Ge_canTurn := ⟨in_tab3 _ (List.mem_of_getElem? (i := 157) rfl), in_tab3 _ (List.mem_of_getElem? (i := 158) rfl)⟩
theorem mw_Ge_ratioOf : MW y_Ge_ratioOf 3 := ⟨in_tab3 _ (List.mem_of_getElem? (i := 163) rfl), in_tab1 _ (List.mem_of_getElem? (i := 4) rfl), by decide, by decide, by decide +kernel, by decide +kernel⟩
theorem mv_Ge_ratioOf : MV y_Ge_ratioOf := ⟨in_tab3 _ (List.mem_of_getElem? (i := 161) rfl), in_tab3 _ (List.mem_of_getElem? (i := 162) rfl)⟩
theorem mw_Ge_stepOf : MW y_Ge_stepOf 2 := ⟨in_tab4 _ (List.mem_of_getElem? (i := 77) rfl), in_tab1 _ (List.mem_of_getElem? (i := 4) rfl), by decide, by decide, by decide +kernel, by decide +kernel⟩
theorem mv_Ge_stepOf : MV y_Ge_stepOf := ⟨in_tab4 _ (List.mem_of_getElem? (i := 75) rfl), in_tab4 _ (List.mem_of_getElem? (i := 76) rfl)⟩
theorem mw_Ge_tryPush : MW y_Ge_tryPush 2 := ⟨in_tab4 _ (List.mem_of_getElem? (i := 92) rfl), in_tab1 _ (List.mem_of_getElem? (i := 4) rfl), by decide, by decide, by decide +kernel, by decide +kernel⟩
theorem mv_Ge_tryPush : MV y_Ge_tryPush := ⟨in_tab4 _ (List.mem_of_getElem? (i := 90) rfl), in_tab4 _ (List.mem_of_getElem? (i := 91) rfl)⟩
theorem mw_Ge_turnSet : MW y_Ge_turnSet 2 := ⟨in_tab4 _ (List.mem_of_getElem? (i := 101) rfl), in_tab1 _ (List.mem_of_getElem? (i := 4) rfl), by decide, by decide, by decide +kernel, by decide +kernel⟩
theorem mv_Ge_turnSet : MV y_Ge_turnSet := ⟨in_tab4 _ (List.mem_of_getElem? (i := 99) rfl), in_tab4 _ (List.mem_of_getElem? (i := 100) rfl)⟩
theorem mw_Ge_isBeyond : MW y_Ge_isBeyond 2 := ⟨in_tab4 _ (List.mem_of_getElem? (i := 97) rfl), in_tab1 _ (List.mem_of_getElem? (i := 4) rfl), by decide, by decide, by decide +kernel, by decide +kernel⟩
theorem mv_Ge_isBeyond : MV y_Ge_isBeyond := ⟨in_tab4 _ (List.mem_of_getElem? (i := 95) rfl), in_tab4 _ (List.mem_of_getElem? (i := 96) rfl)⟩
theorem mw_Ge_isOpen : MW y_Ge_isOpen 1 := ⟨in_tab4 _ (List.mem_of_getElem? (i := 48) rfl), in_tab1 _ (List.mem_of_getElem? (i := 4) rfl), by decide, by decide, by decide +kernel, by decide +kernel⟩
theorem mv_Ge_isOpen : MV y_Ge_isOpen := ⟨in_tab4 _ (List.mem_of_getElem? (i := 46) rfl), in_tab4 _ (List.mem_of_getElem? (i := 47) rfl)⟩
theorem mw_Ge_isOpenAt : MW y_Ge_isOpenAt 2 := ⟨in_tab4 _ (List.mem_of_getElem? (i := 52) rfl), in_tab1 _ (List.mem_of_getElem? (i := 4) rfl), by decide, by decide, by decide +kernel, by decide +kernel⟩
theorem mv_Ge_isOpenAt : MV y_Ge_isOpenAt := ⟨in_tab4 _ (List.mem_of_getElem? (i := 50) rfl), in_tab4 _ (List.mem_of_getElem? (i := 51) rfl)⟩
theorem mw_Ge_openSet : MW y_Ge_openSet 0 := ⟨in_tab5 _ (List.mem_of_getElem? (i := 37) rfl), in_tab1 _ (List.mem_of_getElem? (i := 4) rfl), by decide, by decide, by decide +kernel, by decide +kernel⟩
theorem mv_Ge_openSet : MV y_Ge_openSet := ⟨in_tab5 _ (List.mem_of_getElem? (i := 35) rfl), in_tab5 _ (List.mem_of_getElem? (i := 36) rfl)⟩
theorem mw_Ge_wholeTeeth : MW y_Ge_wholeTeeth 1 := ⟨in_tab4 _ (List.mem_of_getElem? (i := 232) rfl), in_tab1 _ (List.mem_of_getElem? (i := 4) rfl), by decide, by decide, by decide +kernel, by decide +kernel⟩
theorem mv_Ge_wholeTeeth : MV y_Ge_wholeTeeth := ⟨in_tab4 _ (List.mem_of_getElem? (i := 230) rfl), in_tab4 _ (List.mem_of_getElem? (i := 231) rfl)⟩
theorem mw_Ge_keepSpots : MW y_Ge_keepSpots 0 := ⟨in_tab5 _ (List.mem_of_getElem? (i := 84) rfl), in_tab1 _ (List.mem_of_getElem? (i := 4) rfl), by decide, by decide, by decide +kernel, by decide +kernel⟩
theorem mv_Ge_keepSpots : MV y_Ge_keepSpots := ⟨in_tab5 _ (List.mem_of_getElem? (i := 82) rfl), in_tab5 _ (List.mem_of_getElem? (i := 83) rfl)⟩
theorem mw_Ge_takeSpotsBack : MW y_Ge_takeSpotsBack 0 := ⟨in_tab5 _ (List.mem_of_getElem? (i := 90) rfl), in_tab1 _ (List.mem_of_getElem? (i := 4) rfl), by decide, by decide, by decide +kernel, by decide +kernel⟩
theorem mv_Ge_takeSpotsBack : MV y_Ge_takeSpotsBack := ⟨in_tab5 _ (List.mem_of_getElem? (i := 88) rfl), in_tab5 _ (List.mem_of_getElem? (i := 89) rfl)⟩
theorem mw_Pl_solve : MW y_Pl_solve 3 := ⟨in_tab4 _ (List.mem_of_getElem? (i := 131) rfl), in_tab1 _ (List.mem_of_getElem? (i := 7) rfl), by decide, by decide, by decide +kernel, by decide +kernel⟩
theorem mv_Pl_solve : MV y_Pl_solve := ⟨in_tab4 _ (List.mem_of_getElem? (i := 129) rfl), in_tab4 _ (List.mem_of_getElem? (i := 130) rfl)⟩
theorem mw_Pl_choose : MW y_Pl_choose 3 := ⟨in_tab4 _ (List.mem_of_getElem? (i := 135) rfl), in_tab1 _ (List.mem_of_getElem? (i := 7) rfl), by decide, by decide, by decide +kernel, by decide +kernel⟩
theorem mv_Pl_choose : MV y_Pl_choose := ⟨in_tab4 _ (List.mem_of_getElem? (i := 133) rfl), in_tab4 _ (List.mem_of_getElem? (i := 134) rfl)⟩
theorem mw_Pl_isPushedAlike : MW y_Pl_isPushedAlike 1 := ⟨in_tab4 _ (List.mem_of_getElem? (i := 141) rfl), in_tab1 _ (List.mem_of_getElem? (i := 7) rfl), by decide, by decide, by decide +kernel, by decide +kernel⟩
theorem mv_Pl_isPushedAlike : MV y_Pl_isPushedAlike := ⟨in_tab4 _ (List.mem_of_getElem? (i := 139) rfl), in_tab4 _ (List.mem_of_getElem? (i := 140) rfl)⟩
theorem mw_Pl_bound : MW y_Pl_bound 1 := ⟨in_tab4 _ (List.mem_of_getElem? (i := 147) rfl), in_tab1 _ (List.mem_of_getElem? (i := 7) rfl), by decide, by decide, by decide +kernel, by decide +kernel⟩
theorem mv_Pl_bound : MV y_Pl_bound := ⟨in_tab4 _ (List.mem_of_getElem? (i := 145) rfl), in_tab4 _ (List.mem_of_getElem? (i := 146) rfl)⟩
theorem mw_Pl_search : MW y_Pl_search 0 := ⟨in_tab4 _ (List.mem_of_getElem? (i := 168) rfl), in_tab1 _ (List.mem_of_getElem? (i := 7) rfl), by decide, by decide, by decide +kernel, by decide +kernel⟩
theorem mv_Pl_search : MV y_Pl_search := ⟨in_tab4 _ (List.mem_of_getElem? (i := 166) rfl), in_tab4 _ (List.mem_of_getElem? (i := 167) rfl)⟩
theorem mw_Pl_spread : MW y_Pl_spread 2 := ⟨in_tab4 _ (List.mem_of_getElem? (i := 182) rfl), in_tab1 _ (List.mem_of_getElem? (i := 7) rfl), by decide, by decide, by decide +kernel, by decide +kernel⟩
theorem mv_Pl_spread : MV y_Pl_spread := ⟨in_tab4 _ (List.mem_of_getElem? (i := 180) rfl), in_tab4 _ (List.mem_of_getElem? (i := 181) rfl)⟩
theorem mw_Pl_isKnown : MW y_Pl_isKnown 1 := ⟨in_tab4 _ (List.mem_of_getElem? (i := 173) rfl), in_tab1 _ (List.mem_of_getElem? (i := 7) rfl), by decide, by decide, by decide +kernel, by decide +kernel⟩
theorem mv_Pl_isKnown : MV y_Pl_isKnown := ⟨in_tab4 _ (List.mem_of_getElem? (i := 171) rfl), in_tab4 _ (List.mem_of_getElem? (i := 172) rfl)⟩
theorem mw_Pl_addState : MW y_Pl_addState 3 := ⟨in_tab4 _ (List.mem_of_getElem? (i := 178) rfl), in_tab1 _ (List.mem_of_getElem? (i := 7) rfl), by decide, by decide, by decide +kernel, by decide +kernel⟩
theorem mv_Pl_addState : MV y_Pl_addState := ⟨in_tab4 _ (List.mem_of_getElem? (i := 176) rfl), in_tab4 _ (List.mem_of_getElem? (i := 177) rfl)⟩
theorem mw_Pl_isWatchedOpen : MW y_Pl_isWatchedOpen 1 := ⟨in_tab4 _ (List.mem_of_getElem? (i := 186) rfl), in_tab1 _ (List.mem_of_getElem? (i := 7) rfl), by decide, by decide, by decide +kernel, by decide +kernel⟩
theorem mv_Pl_isWatchedOpen : MV y_Pl_isWatchedOpen := ⟨in_tab4 _ (List.mem_of_getElem? (i := 184) rfl), in_tab4 _ (List.mem_of_getElem? (i := 185) rfl)⟩
theorem mw_Pl_isAsWanted : MW y_Pl_isAsWanted 1 := ⟨in_tab4 _ (List.mem_of_getElem? (i := 159) rfl), in_tab1 _ (List.mem_of_getElem? (i := 7) rfl), by decide, by decide, by decide +kernel, by decide +kernel⟩
theorem mv_Pl_isAsWanted : MV y_Pl_isAsWanted := ⟨in_tab4 _ (List.mem_of_getElem? (i := 157) rfl), in_tab4 _ (List.mem_of_getElem? (i := 158) rfl)⟩
theorem mw_Pl_isOpenBehind : MW y_Pl_isOpenBehind 2 := ⟨in_tab4 _ (List.mem_of_getElem? (i := 163) rfl), in_tab1 _ (List.mem_of_getElem? (i := 7) rfl), by decide, by decide, by decide +kernel, by decide +kernel⟩
theorem mv_Pl_isOpenBehind : MV y_Pl_isOpenBehind := ⟨in_tab4 _ (List.mem_of_getElem? (i := 161) rfl), in_tab4 _ (List.mem_of_getElem? (i := 162) rfl)⟩
theorem mw_Pl_followBack : MW y_Pl_followBack 2 := ⟨in_tab4 _ (List.mem_of_getElem? (i := 190) rfl), in_tab1 _ (List.mem_of_getElem? (i := 7) rfl), by decide, by decide, by decide +kernel, by decide +kernel⟩
theorem mv_Pl_followBack : MV y_Pl_followBack := ⟨in_tab4 _ (List.mem_of_getElem? (i := 188) rfl), in_tab4 _ (List.mem_of_getElem? (i := 189) rfl)⟩
theorem mw_Bo_startDraft : MW y_Bo_startDraft 0 := ⟨in_tab3 _ (List.mem_of_getElem? (i := 176) rfl), in_tab1 _ (List.mem_of_getElem? (i := 8) rfl), by decide, by decide, by decide +kernel, by decide +kernel⟩
theorem mv_Bo_startDraft : MV y_Bo_startDraft := ⟨in_tab3 _ (List.mem_of_getElem? (i := 174) rfl), in_tab3 _ (List.mem_of_getElem? (i := 175) rfl)⟩
theorem mw_Bo_emit : MW y_Bo_emit 1 := ⟨in_tab3 _ (List.mem_of_getElem? (i := 233) rfl), in_tab1 _ (List.mem_of_getElem? (i := 8) rfl), by decide, by decide, by decide +kernel, by decide +kernel⟩
theorem mv_Bo_emit : MV y_Bo_emit := ⟨in_tab3 _ (List.mem_of_getElem? (i := 231) rfl), in_tab3 _ (List.mem_of_getElem? (i := 232) rfl)⟩
theorem mw_Bo_keepDraft : MW y_Bo_keepDraft 0 := ⟨in_tab4 _ (List.mem_of_getElem? (i := 35) rfl), in_tab1 _ (List.mem_of_getElem? (i := 8) rfl), by decide, by decide, by decide +kernel, by decide +kernel⟩
theorem mv_Bo_keepDraft : MV y_Bo_keepDraft := ⟨in_tab4 _ (List.mem_of_getElem? (i := 33) rfl), in_tab4 _ (List.mem_of_getElem? (i := 34) rfl)⟩
theorem mw_Bo_teethFor : MW y_Bo_teethFor 3 := ⟨in_tab5 _ (List.mem_of_getElem? (i := 23) rfl), in_tab1 _ (List.mem_of_getElem? (i := 8) rfl), by decide, by decide, by decide +kernel, by decide +kernel⟩
theorem mv_Bo_teethFor : MV y_Bo_teethFor := ⟨in_tab5 _ (List.mem_of_getElem? (i := 21) rfl), in_tab5 _ (List.mem_of_getElem? (i := 22) rfl)⟩
theorem mw_Bo_put : MW y_Bo_put 1 := ⟨in_tab5 _ (List.mem_of_getElem? (i := 27) rfl), in_tab1 _ (List.mem_of_getElem? (i := 8) rfl), by decide, by decide, by decide +kernel, by decide +kernel⟩
theorem mv_Bo_put : MV y_Bo_put := ⟨in_tab5 _ (List.mem_of_getElem? (i := 25) rfl), in_tab5 _ (List.mem_of_getElem? (i := 26) rfl)⟩
theorem mw_Bo_take : MW y_Bo_take 0 := ⟨in_tab5 _ (List.mem_of_getElem? (i := 51) rfl), in_tab1 _ (List.mem_of_getElem? (i := 8) rfl), by decide, by decide, by decide +kernel, by decide +kernel⟩
theorem mv_Bo_take : MV y_Bo_take := ⟨in_tab5 _ (List.mem_of_getElem? (i := 49) rfl), in_tab5 _ (List.mem_of_getElem? (i := 50) rfl)⟩
theorem mw_Bo_held : MW y_Bo_held 1 := ⟨in_tab5 _ (List.mem_of_getElem? (i := 60) rfl), in_tab1 _ (List.mem_of_getElem? (i := 8) rfl), by decide, by decide, by decide +kernel, by decide +kernel⟩
theorem ms_Bo_held : Cond.static y_Bo_held.1 ∈ lw_tbl := in_tab5 _ (List.mem_of_getElem? (i := 59) rfl)
theorem mw_Bo_wordOf : MW y_Bo_wordOf 3 := ⟨in_tab5 _ (List.mem_of_getElem? (i := 31) rfl), in_tab1 _ (List.mem_of_getElem? (i := 8) rfl), by decide, by decide, by decide +kernel, by decide +kernel⟩
theorem mv_Bo_wordOf : MV y_Bo_wordOf := ⟨in_tab5 _ (List.mem_of_getElem? (i := 29) rfl), in_tab5 _ (List.mem_of_getElem? (i := 30) rfl)⟩
theorem mw_Bo_spelling : MW y_Bo_spelling 1 := ⟨in_tab3 _ (List.mem_of_getElem? (i := 217) rfl), in_tab1 _ (List.mem_of_getElem? (i := 8) rfl), by decide, by decide, by decide +kernel, by decide +kernel⟩
theorem ms_Bo_spelling : Cond.static y_Bo_spelling.1 ∈ lw_tbl := in_tab3 _ (List.mem_of_getElem? (i := 216) rfl)
theorem mw_Bo_reckoningOf : MW y_Bo_reckoningOf 1 := ⟨in_tab4 _ (List.mem_of_getElem? (i := 0) rfl), in_tab1 _ (List.mem_of_getElem? (i := 8) rfl), by decide, by decide, by decide +kernel, by decide +kernel⟩
theorem ms_Bo_reckoningOf : Cond.static y_Bo_reckoningOf.1 ∈ lw_tbl := in_tab3 _ (List.mem_of_getElem? (i := 239) rfl)
theorem mw_Bo_comparisonOf : MW y_Bo_comparisonOf 2 := ⟨in_tab4 _ (List.mem_of_getElem? (i := 19) rfl), in_tab1 _ (List.mem_of_getElem? (i := 8) rfl), by decide, by decide, by decide +kernel, by decide +kernel⟩
theorem ms_Bo_comparisonOf : Cond.static y_Bo_comparisonOf.1 ∈ lw_tbl := in_tab4 _ (List.mem_of_getElem? (i := 18) rfl)
theorem mw_Bo_bondOf : MW y_Bo_bondOf 1 := ⟨in_tab4 _ (List.mem_of_getElem? (i := 11) rfl), in_tab1 _ (List.mem_of_getElem? (i := 8) rfl), by decide, by decide, by decide +kernel, by decide +kernel⟩
theorem ms_Bo_bondOf : Cond.static y_Bo_bondOf.1 ∈ lw_tbl := in_tab4 _ (List.mem_of_getElem? (i := 10) rfl)
theorem mw_Bo_joined : MW y_Bo_joined 3 := ⟨in_tab5 _ (List.mem_of_getElem? (i := 54) rfl), in_tab1 _ (List.mem_of_getElem? (i := 8) rfl), by decide, by decide, by decide +kernel, by decide +kernel⟩
theorem ms_Bo_joined : Cond.static y_Bo_joined.1 ∈ lw_tbl := in_tab5 _ (List.mem_of_getElem? (i := 53) rfl)
theorem mw_Bo_holds : MW y_Bo_holds 3 := ⟨in_tab5 _ (List.mem_of_getElem? (i := 57) rfl), in_tab1 _ (List.mem_of_getElem? (i := 8) rfl), by decide, by decide, by decide +kernel, by decide +kernel⟩
theorem ms_Bo_holds : Cond.static y_Bo_holds.1 ∈ lw_tbl := in_tab5 _ (List.mem_of_getElem? (i := 56) rfl)
theorem mw_Rr_read : MW y_Rr_read 0 := ⟨in_tab3 _ (List.mem_of_getElem? (i := 180) rfl), in_tab1 _ (List.mem_of_getElem? (i := 10) rfl), by decide, by decide, by decide +kernel, by decide +kernel⟩
theorem mv_Rr_read : MV y_Rr_read := ⟨in_tab3 _ (List.mem_of_getElem? (i := 178) rfl), in_tab3 _ (List.mem_of_getElem? (i := 179) rfl)⟩
theorem mw_Rr_startClause : MW y_Rr_startClause 0 := ⟨in_tab3 _ (List.mem_of_getElem? (i := 184) rfl), in_tab1 _ (List.mem_of_getElem? (i := 10) rfl), by decide, by decide, by decide +kernel, by decide +kernel⟩
theorem mv_Rr_startClause : MV y_Rr_startClause := ⟨in_tab3 _ (List.mem_of_getElem? (i := 182) rfl), in_tab3 _ (List.mem_of_getElem? (i := 183) rfl)⟩
theorem mw_Rr_isOpener : MW y_Rr_isOpener 0 := ⟨in_tab3 _ (List.mem_of_getElem? (i := 193) rfl), in_tab1 _ (List.mem_of_getElem? (i := 10) rfl), by decide, by decide, by decide +kernel, by decide +kernel⟩
theorem mv_Rr_isOpener : MV y_Rr_isOpener := ⟨in_tab3 _ (List.mem_of_getElem? (i := 191) rfl), in_tab3 _ (List.mem_of_getElem? (i := 192) rfl)⟩
theorem mw_Rr_readOpener : MW y_Rr_readOpener 0 := ⟨in_tab3 _ (List.mem_of_getElem? (i := 199) rfl), in_tab1 _ (List.mem_of_getElem? (i := 10) rfl), by decide, by decide, by decide +kernel, by decide +kernel⟩
theorem mv_Rr_readOpener : MV y_Rr_readOpener := ⟨in_tab3 _ (List.mem_of_getElem? (i := 197) rfl), in_tab3 _ (List.mem_of_getElem? (i := 198) rfl)⟩
theorem mw_Rr_readValue : MW y_Rr_readValue 0 := ⟨in_tab3 _ (List.mem_of_getElem? (i := 208) rfl), in_tab1 _ (List.mem_of_getElem? (i := 10) rfl), by decide, by decide, by decide +kernel, by decide +kernel⟩
theorem mv_Rr_readValue : MV y_Rr_readValue := ⟨in_tab3 _ (List.mem_of_getElem? (i := 206) rfl), in_tab3 _ (List.mem_of_getElem? (i := 207) rfl)⟩
theorem mw_Rr_takeValueWord : MW y_Rr_takeValueWord 0 := ⟨in_tab3 _ (List.mem_of_getElem? (i := 214) rfl), in_tab1 _ (List.mem_of_getElem? (i := 10) rfl), by decide, by decide, by decide +kernel, by decide +kernel⟩
theorem mv_Rr_takeValueWord : MV y_Rr_takeValueWord := ⟨in_tab3 _ (List.mem_of_getElem? (i := 212) rfl), in_tab3 _ (List.mem_of_getElem? (i := 213) rfl)⟩
theorem mw_Rr_isRoomForValue : MW y_Rr_isRoomForValue 1 := ⟨in_tab3 _ (List.mem_of_getElem? (i := 229) rfl), in_tab1 _ (List.mem_of_getElem? (i := 10) rfl), by decide, by decide, by decide +kernel, by decide +kernel⟩
theorem mv_Rr_isRoomForValue : MV y_Rr_isRoomForValue := ⟨in_tab3 _ (List.mem_of_getElem? (i := 227) rfl), in_tab3 _ (List.mem_of_getElem? (i := 228) rfl)⟩
theorem mw_Rr_readBehind : MW y_Rr_readBehind 0 := ⟨in_tab3 _ (List.mem_of_getElem? (i := 237) rfl), in_tab1 _ (List.mem_of_getElem? (i := 10) rfl), by decide, by decide, by decide +kernel, by decide +kernel⟩
theorem mv_Rr_readBehind : MV y_Rr_readBehind := ⟨in_tab3 _ (List.mem_of_getElem? (i := 235) rfl), in_tab3 _ (List.mem_of_getElem? (i := 236) rfl)⟩
theorem mw_Rr_readComparison : MW y_Rr_readComparison 1 := ⟨in_tab4 _ (List.mem_of_getElem? (i := 15) rfl), in_tab1 _ (List.mem_of_getElem? (i := 10) rfl), by decide, by decide, by decide +kernel, by decide +kernel⟩
theorem mv_Rr_readComparison : MV y_Rr_readComparison := ⟨in_tab4 _ (List.mem_of_getElem? (i := 13) rfl), in_tab4 _ (List.mem_of_getElem? (i := 14) rfl)⟩
theorem mw_Rr_readClosing : MW y_Rr_readClosing 0 := ⟨in_tab4 _ (List.mem_of_getElem? (i := 26) rfl), in_tab1 _ (List.mem_of_getElem? (i := 10) rfl), by decide, by decide, by decide +kernel, by decide +kernel⟩
theorem mv_Rr_readClosing : MV y_Rr_readClosing := ⟨in_tab4 _ (List.mem_of_getElem? (i := 24) rfl), in_tab4 _ (List.mem_of_getElem? (i := 25) rfl)⟩
theorem mw_Rr_endClause : MW y_Rr_endClause 0 := ⟨in_tab4 _ (List.mem_of_getElem? (i := 30) rfl), in_tab1 _ (List.mem_of_getElem? (i := 10) rfl), by decide, by decide, by decide +kernel, by decide +kernel⟩
theorem mv_Rr_endClause : MV y_Rr_endClause := ⟨in_tab4 _ (List.mem_of_getElem? (i := 28) rfl), in_tab4 _ (List.mem_of_getElem? (i := 29) rfl)⟩
theorem mw_Rr_joinBy : MW y_Rr_joinBy 2 := ⟨in_tab4 _ (List.mem_of_getElem? (i := 4) rfl), in_tab1 _ (List.mem_of_getElem? (i := 10) rfl), by decide, by decide, by decide +kernel, by decide +kernel⟩
theorem mv_Rr_joinBy : MV y_Rr_joinBy := ⟨in_tab4 _ (List.mem_of_getElem? (i := 2) rfl), in_tab4 _ (List.mem_of_getElem? (i := 3) rfl)⟩
theorem mw_Rr_hold : MW y_Rr_hold 1 := ⟨in_tab3 _ (List.mem_of_getElem? (i := 204) rfl), in_tab1 _ (List.mem_of_getElem? (i := 10) rfl), by decide, by decide, by decide +kernel, by decide +kernel⟩
theorem mv_Rr_hold : MV y_Rr_hold := ⟨in_tab3 _ (List.mem_of_getElem? (i := 202) rfl), in_tab3 _ (List.mem_of_getElem? (i := 203) rfl)⟩
theorem mw_Rr_settle : MW y_Rr_settle 1 := ⟨in_tab4 _ (List.mem_of_getElem? (i := 8) rfl), in_tab1 _ (List.mem_of_getElem? (i := 10) rfl), by decide, by decide, by decide +kernel, by decide +kernel⟩
theorem mv_Rr_settle : MV y_Rr_settle := ⟨in_tab4 _ (List.mem_of_getElem? (i := 6) rfl), in_tab4 _ (List.mem_of_getElem? (i := 7) rfl)⟩
theorem mw_Sc_clear : MW y_Sc_clear 0 := ⟨in_tab2 _ (List.mem_of_getElem? (i := 214) rfl), in_tab1 _ (List.mem_of_getElem? (i := 3) rfl), by decide, by decide, by decide +kernel, by decide +kernel⟩
theorem mv_Sc_clear : MV y_Sc_clear := ⟨in_tab2 _ (List.mem_of_getElem? (i := 212) rfl), in_tab2 _ (List.mem_of_getElem? (i := 213) rfl)⟩
theorem mw_Sc_copyFrom : MW y_Sc_copyFrom 1 := ⟨in_tab3 _ (List.mem_of_getElem? (i := 112) rfl), in_tab1 _ (List.mem_of_getElem? (i := 3) rfl), by decide, by decide, by decide +kernel, by decide +kernel⟩
theorem mv_Sc_copyFrom : MV y_Sc_copyFrom := ⟨in_tab3 _ (List.mem_of_getElem? (i := 110) rfl), in_tab3 _ (List.mem_of_getElem? (i := 111) rfl)⟩
theorem mw_Sc_isDoor : MW y_Sc_isDoor 1 := ⟨in_tab4 _ (List.mem_of_getElem? (i := 43) rfl), in_tab1 _ (List.mem_of_getElem? (i := 3) rfl), by decide, by decide, by decide +kernel, by decide +kernel⟩
theorem mv_Sc_isDoor : MV y_Sc_isDoor := ⟨in_tab4 _ (List.mem_of_getElem? (i := 41) rfl), in_tab4 _ (List.mem_of_getElem? (i := 42) rfl)⟩
theorem mw_Sc_isSet : MW y_Sc_isSet 1 := ⟨in_tab4 _ (List.mem_of_getElem? (i := 119) rfl), in_tab1 _ (List.mem_of_getElem? (i := 3) rfl), by decide, by decide, by decide +kernel, by decide +kernel⟩
theorem mv_Sc_isSet : MV y_Sc_isSet := ⟨in_tab4 _ (List.mem_of_getElem? (i := 117) rfl), in_tab4 _ (List.mem_of_getElem? (i := 118) rfl)⟩
theorem mw_Sc_addDoor : MW y_Sc_addDoor 2 := ⟨in_tab3 _ (List.mem_of_getElem? (i := 87) rfl), in_tab1 _ (List.mem_of_getElem? (i := 3) rfl), by decide, by decide, by decide +kernel, by decide +kernel⟩
theorem mv_Sc_addDoor : MV y_Sc_addDoor := ⟨in_tab3 _ (List.mem_of_getElem? (i := 85) rfl), in_tab3 _ (List.mem_of_getElem? (i := 86) rfl)⟩
theorem mw_Sc_addJoin : MW y_Sc_addJoin 3 := ⟨in_tab3 _ (List.mem_of_getElem? (i := 100) rfl), in_tab1 _ (List.mem_of_getElem? (i := 3) rfl), by decide, by decide, by decide +kernel, by decide +kernel⟩
theorem mv_Sc_addJoin : MV y_Sc_addJoin := ⟨in_tab3 _ (List.mem_of_getElem? (i := 98) rfl), in_tab3 _ (List.mem_of_getElem? (i := 99) rfl)⟩
theorem mw_Sc_joinsOf : MW y_Sc_joinsOf 1 := ⟨in_tab5 _ (List.mem_of_getElem? (i := 47) rfl), in_tab1 _ (List.mem_of_getElem? (i := 3) rfl), by decide, by decide, by decide +kernel, by decide +kernel⟩
theorem mv_Sc_joinsOf : MV y_Sc_joinsOf := ⟨in_tab5 _ (List.mem_of_getElem? (i := 45) rfl), in_tab5 _ (List.mem_of_getElem? (i := 46) rfl)⟩
theorem mw_Sp_open : MW y_Sp_open 1 := ⟨in_tab2 _ (List.mem_of_getElem? (i := 203) rfl), in_tab1 _ (List.mem_of_getElem? (i := 2) rfl), by decide, by decide, by decide +kernel, by decide +kernel⟩
theorem mv_Sp_open : MV y_Sp_open := ⟨in_tab2 _ (List.mem_of_getElem? (i := 201) rfl), in_tab2 _ (List.mem_of_getElem? (i := 202) rfl)⟩
theorem mw_Sp_isSound : MW y_Sp_isSound 0 := ⟨in_tab3 _ (List.mem_of_getElem? (i := 83) rfl), in_tab1 _ (List.mem_of_getElem? (i := 2) rfl), by decide, by decide, by decide +kernel, by decide +kernel⟩
theorem mv_Sp_isSound : MV y_Sp_isSound := ⟨in_tab3 _ (List.mem_of_getElem? (i := 81) rfl), in_tab3 _ (List.mem_of_getElem? (i := 82) rfl)⟩
theorem mw_Sp_fail : MW y_Sp_fail 2 := ⟨in_tab3 _ (List.mem_of_getElem? (i := 52) rfl), in_tab1 _ (List.mem_of_getElem? (i := 2) rfl), by decide, by decide, by decide +kernel, by decide +kernel⟩
theorem mv_Sp_fail : MV y_Sp_fail := ⟨in_tab3 _ (List.mem_of_getElem? (i := 50) rfl), in_tab3 _ (List.mem_of_getElem? (i := 51) rfl)⟩
theorem mw_Sp_byteAt : MW y_Sp_byteAt 1 := ⟨in_tab3 _ (List.mem_of_getElem? (i := 6) rfl), in_tab1 _ (List.mem_of_getElem? (i := 2) rfl), by decide, by decide, by decide +kernel, by decide +kernel⟩
theorem mv_Sp_byteAt : MV y_Sp_byteAt := ⟨in_tab3 _ (List.mem_of_getElem? (i := 4) rfl), in_tab3 _ (List.mem_of_getElem? (i := 5) rfl)⟩
theorem mw_Sp_nextSign : MW y_Sp_nextSign 0 := ⟨in_tab2 _ (List.mem_of_getElem? (i := 232) rfl), in_tab1 _ (List.mem_of_getElem? (i := 2) rfl), by decide, by decide, by decide +kernel, by decide +kernel⟩
theorem mv_Sp_nextSign : MV y_Sp_nextSign := ⟨in_tab2 _ (List.mem_of_getElem? (i := 230) rfl), in_tab2 _ (List.mem_of_getElem? (i := 231) rfl)⟩
theorem mw_Sp_takeSign : MW y_Sp_takeSign 1 := ⟨in_tab3 _ (List.mem_of_getElem? (i := 108) rfl), in_tab1 _ (List.mem_of_getElem? (i := 2) rfl), by decide, by decide, by decide +kernel, by decide +kernel⟩
theorem mv_Sp_takeSign : MV y_Sp_takeSign := ⟨in_tab3 _ (List.mem_of_getElem? (i := 106) rfl), in_tab3 _ (List.mem_of_getElem? (i := 107) rfl)⟩
theorem mw_Sp_isAtDigit : MW y_Sp_isAtDigit 0 := ⟨in_tab3 _ (List.mem_of_getElem? (i := 78) rfl), in_tab1 _ (List.mem_of_getElem? (i := 2) rfl), by decide, by decide, by decide +kernel, by decide +kernel⟩
theorem mv_Sp_isAtDigit : MV y_Sp_isAtDigit := ⟨in_tab3 _ (List.mem_of_getElem? (i := 76) rfl), in_tab3 _ (List.mem_of_getElem? (i := 77) rfl)⟩
theorem mw_Sp_isAtWord : MW y_Sp_isAtWord 1 := ⟨in_tab2 _ (List.mem_of_getElem? (i := 228) rfl), in_tab1 _ (List.mem_of_getElem? (i := 2) rfl), by decide, by decide, by decide +kernel, by decide +kernel⟩
theorem mv_Sp_isAtWord : MV y_Sp_isAtWord := ⟨in_tab2 _ (List.mem_of_getElem? (i := 226) rfl), in_tab2 _ (List.mem_of_getElem? (i := 227) rfl)⟩
theorem mw_Sp_takeWord : MW y_Sp_takeWord 1 := ⟨in_tab3 _ (List.mem_of_getElem? (i := 64) rfl), in_tab1 _ (List.mem_of_getElem? (i := 2) rfl), by decide, by decide, by decide +kernel, by decide +kernel⟩
theorem mv_Sp_takeWord : MV y_Sp_takeWord := ⟨in_tab3 _ (List.mem_of_getElem? (i := 62) rfl), in_tab3 _ (List.mem_of_getElem? (i := 63) rfl)⟩
theorem mw_Sp_takeNumber : MW y_Sp_takeNumber 0 := ⟨in_tab3 _ (List.mem_of_getElem? (i := 74) rfl), in_tab1 _ (List.mem_of_getElem? (i := 2) rfl), by decide, by decide, by decide +kernel, by decide +kernel⟩
theorem mv_Sp_takeNumber : MV y_Sp_takeNumber := ⟨in_tab3 _ (List.mem_of_getElem? (i := 72) rfl), in_tab3 _ (List.mem_of_getElem? (i := 73) rfl)⟩
theorem mw_Sp_takeClauseBreak : MW y_Sp_takeClauseBreak 0 := ⟨in_tab3 _ (List.mem_of_getElem? (i := 104) rfl), in_tab1 _ (List.mem_of_getElem? (i := 2) rfl), by decide, by decide, by decide +kernel, by decide +kernel⟩
theorem mv_Sp_takeClauseBreak : MV y_Sp_takeClauseBreak := ⟨in_tab3 _ (List.mem_of_getElem? (i := 102) rfl), in_tab3 _ (List.mem_of_getElem? (i := 103) rfl)⟩
theorem mw_Sr_read : MW y_Sr_read 0 := ⟨in_tab2 _ (List.mem_of_getElem? (i := 210) rfl), in_tab1 _ (List.mem_of_getElem? (i := 9) rfl), by decide, by decide, by decide +kernel, by decide +kernel⟩
theorem mv_Sr_read : MV y_Sr_read := ⟨in_tab2 _ (List.mem_of_getElem? (i := 208) rfl), in_tab2 _ (List.mem_of_getElem? (i := 209) rfl)⟩
theorem mw_Sr_readClause : MW y_Sr_readClause 1 := ⟨in_tab2 _ (List.mem_of_getElem? (i := 219) rfl), in_tab1 _ (List.mem_of_getElem? (i := 9) rfl), by decide, by decide, by decide +kernel, by decide +kernel⟩
theorem mv_Sr_readClause : MV y_Sr_readClause := ⟨in_tab2 _ (List.mem_of_getElem? (i := 217) rfl), in_tab2 _ (List.mem_of_getElem? (i := 218) rfl)⟩
theorem mw_Sr_clauseAtHand : MW y_Sr_clauseAtHand 0 := ⟨in_tab2 _ (List.mem_of_getElem? (i := 223) rfl), in_tab1 _ (List.mem_of_getElem? (i := 9) rfl), by decide, by decide, by decide +kernel, by decide +kernel⟩
theorem mv_Sr_clauseAtHand : MV y_Sr_clauseAtHand := ⟨in_tab2 _ (List.mem_of_getElem? (i := 221) rfl), in_tab2 _ (List.mem_of_getElem? (i := 222) rfl)⟩
theorem mw_Sr_isFullFor : MW y_Sr_isFullFor 1 := ⟨in_tab3 _ (List.mem_of_getElem? (i := 56) rfl), in_tab1 _ (List.mem_of_getElem? (i := 9) rfl), by decide, by decide, by decide +kernel, by decide +kernel⟩
theorem mv_Sr_isFullFor : MV y_Sr_isFullFor := ⟨in_tab3 _ (List.mem_of_getElem? (i := 54) rfl), in_tab3 _ (List.mem_of_getElem? (i := 55) rfl)⟩
theorem mw_Sr_readDoor : MW y_Sr_readDoor 0 := ⟨in_tab3 _ (List.mem_of_getElem? (i := 60) rfl), in_tab1 _ (List.mem_of_getElem? (i := 9) rfl), by decide, by decide, by decide +kernel, by decide +kernel⟩
theorem mv_Sr_readDoor : MV y_Sr_readDoor := ⟨in_tab3 _ (List.mem_of_getElem? (i := 58) rfl), in_tab3 _ (List.mem_of_getElem? (i := 59) rfl)⟩
theorem mw_Sr_readFixed : MW y_Sr_readFixed 0 := ⟨in_tab3 _ (List.mem_of_getElem? (i := 91) rfl), in_tab1 _ (List.mem_of_getElem? (i := 9) rfl), by decide, by decide, by decide +kernel, by decide +kernel⟩
theorem mv_Sr_readFixed : MV y_Sr_readFixed := ⟨in_tab3 _ (List.mem_of_getElem? (i := 89) rfl), in_tab3 _ (List.mem_of_getElem? (i := 90) rfl)⟩
theorem mw_Sr_readJoin : MW y_Sr_readJoin 1 := ⟨in_tab3 _ (List.mem_of_getElem? (i := 95) rfl), in_tab1 _ (List.mem_of_getElem? (i := 9) rfl), by decide, by decide, by decide +kernel, by decide +kernel⟩
theorem mv_Sr_readJoin : MV y_Sr_readJoin := ⟨in_tab3 _ (List.mem_of_getElem? (i := 93) rfl), in_tab3 _ (List.mem_of_getElem? (i := 94) rfl)⟩
theorem mw_Sr_numberWithin : MW y_Sr_numberWithin 3 := ⟨in_tab3 _ (List.mem_of_getElem? (i := 69) rfl), in_tab1 _ (List.mem_of_getElem? (i := 9) rfl), by decide, by decide, by decide +kernel, by decide +kernel⟩
theorem mv_Sr_numberWithin : MV y_Sr_numberWithin := ⟨in_tab3 _ (List.mem_of_getElem? (i := 67) rfl), in_tab3 _ (List.mem_of_getElem? (i := 68) rfl)⟩
theorem mw_D_feed : MW y_D_feed 5 := ⟨in_tab2 _ (List.mem_of_getElem? (i := 187) rfl), in_tab1 _ (List.mem_of_getElem? (i := 1) rfl), by decide, by decide, by decide +kernel, by decide +kernel⟩
theorem mv_D_feed : MV y_D_feed := ⟨in_tab2 _ (List.mem_of_getElem? (i := 185) rfl), in_tab2 _ (List.mem_of_getElem? (i := 186) rfl)⟩
theorem mw_D_feedNumber : MW y_D_feedNumber 1 := ⟨in_tab2 _ (List.mem_of_getElem? (i := 191) rfl), in_tab1 _ (List.mem_of_getElem? (i := 1) rfl), by decide, by decide, by decide +kernel, by decide +kernel⟩
theorem mv_D_feedNumber : MV y_D_feedNumber := ⟨in_tab2 _ (List.mem_of_getElem? (i := 190) rfl), in_sel _ (List.mem_of_getElem? (i := 0) rfl)⟩
theorem mw_D_end : MW y_D_end 1 := ⟨in_tab2 _ (List.mem_of_getElem? (i := 195) rfl), in_tab1 _ (List.mem_of_getElem? (i := 1) rfl), by decide, by decide, by decide +kernel, by decide +kernel⟩
theorem mv_D_end : MV y_D_end := ⟨in_tab2 _ (List.mem_of_getElem? (i := 193) rfl), in_tab2 _ (List.mem_of_getElem? (i := 194) rfl)⟩
theorem mw_D_street : MW y_D_street 0 := ⟨in_tab2 _ (List.mem_of_getElem? (i := 199) rfl), in_tab1 _ (List.mem_of_getElem? (i := 1) rfl), by decide, by decide, by decide +kernel, by decide +kernel⟩
theorem mv_D_street : MV y_D_street := ⟨in_tab2 _ (List.mem_of_getElem? (i := 197) rfl), in_tab2 _ (List.mem_of_getElem? (i := 198) rfl)⟩
theorem mw_D_rule : MW y_D_rule 0 := ⟨in_tab3 _ (List.mem_of_getElem? (i := 172) rfl), in_tab1 _ (List.mem_of_getElem? (i := 1) rfl), by decide, by decide, by decide +kernel, by decide +kernel⟩
theorem mv_D_rule : MV y_D_rule := ⟨in_tab3 _ (List.mem_of_getElem? (i := 170) rfl), in_tab3 _ (List.mem_of_getElem? (i := 171) rfl)⟩
theorem mw_D_door : MW y_D_door 2 := ⟨in_tab4 _ (List.mem_of_getElem? (i := 39) rfl), in_tab1 _ (List.mem_of_getElem? (i := 1) rfl), by decide, by decide, by decide +kernel, by decide +kernel⟩
theorem mv_D_door : MV y_D_door := ⟨in_tab4 _ (List.mem_of_getElem? (i := 37) rfl), in_tab4 _ (List.mem_of_getElem? (i := 38) rfl)⟩
theorem mw_D_place : MW y_D_place 2 := ⟨in_tab4 _ (List.mem_of_getElem? (i := 60) rfl), in_tab1 _ (List.mem_of_getElem? (i := 1) rfl), by decide, by decide, by decide +kernel, by decide +kernel⟩
theorem mv_D_place : MV y_D_place := ⟨in_tab4 _ (List.mem_of_getElem? (i := 58) rfl), in_tab4 _ (List.mem_of_getElem? (i := 59) rfl)⟩
theorem mw_D_join : MW y_D_join 2 := ⟨in_tab4 _ (List.mem_of_getElem? (i := 69) rfl), in_tab1 _ (List.mem_of_getElem? (i := 1) rfl), by decide, by decide, by decide +kernel, by decide +kernel⟩
theorem mv_D_join : MV y_D_join := ⟨in_tab4 _ (List.mem_of_getElem? (i := 67) rfl), in_tab4 _ (List.mem_of_getElem? (i := 68) rfl)⟩
theorem mw_D_ratio : MW y_D_ratio 3 := ⟨in_tab4 _ (List.mem_of_getElem? (i := 73) rfl), in_tab1 _ (List.mem_of_getElem? (i := 1) rfl), by decide, by decide, by decide +kernel, by decide +kernel⟩
theorem mv_D_ratio : MV y_D_ratio := ⟨in_tab4 _ (List.mem_of_getElem? (i := 71) rfl), in_tab4 _ (List.mem_of_getElem? (i := 72) rfl)⟩
theorem mw_D_push : MW y_D_push 2 := ⟨in_tab4 _ (List.mem_of_getElem? (i := 81) rfl), in_tab1 _ (List.mem_of_getElem? (i := 1) rfl), by decide, by decide, by decide +kernel, by decide +kernel⟩
theorem mv_D_push : MV y_D_push := ⟨in_tab4 _ (List.mem_of_getElem? (i := 79) rfl), in_tab4 _ (List.mem_of_getElem? (i := 80) rfl)⟩
theorem mw_D_can : MW y_D_can 2 := ⟨in_tab4 _ (List.mem_of_getElem? (i := 85) rfl), in_tab1 _ (List.mem_of_getElem? (i := 1) rfl), by decide, by decide, by decide +kernel, by decide +kernel⟩
theorem mv_D_can : MV y_D_can := ⟨in_tab4 _ (List.mem_of_getElem? (i := 83) rfl), in_tab4 _ (List.mem_of_getElem? (i := 84) rfl)⟩
theorem mw_D_reach : MW y_D_reach 2 := ⟨in_tab4 _ (List.mem_of_getElem? (i := 106) rfl), in_tab1 _ (List.mem_of_getElem? (i := 1) rfl), by decide, by decide, by decide +kernel, by decide +kernel⟩
theorem mv_D_reach : MV y_D_reach := ⟨in_tab4 _ (List.mem_of_getElem? (i := 104) rfl), in_tab4 _ (List.mem_of_getElem? (i := 105) rfl)⟩
theorem mw_D_slip : MW y_D_slip 2 := ⟨in_tab4 _ (List.mem_of_getElem? (i := 110) rfl), in_tab1 _ (List.mem_of_getElem? (i := 1) rfl), by decide, by decide, by decide +kernel, by decide +kernel⟩
theorem mv_D_slip : MV y_D_slip := ⟨in_tab4 _ (List.mem_of_getElem? (i := 108) rfl), in_tab4 _ (List.mem_of_getElem? (i := 109) rfl)⟩
theorem mw_D_want : MW y_D_want 2 := ⟨in_tab4 _ (List.mem_of_getElem? (i := 115) rfl), in_tab1 _ (List.mem_of_getElem? (i := 1) rfl), by decide, by decide, by decide +kernel, by decide +kernel⟩
theorem mv_D_want : MV y_D_want := ⟨in_tab4 _ (List.mem_of_getElem? (i := 113) rfl), in_tab4 _ (List.mem_of_getElem? (i := 114) rfl)⟩
theorem mw_D_planned : MW y_D_planned 2 := ⟨in_tab4 _ (List.mem_of_getElem? (i := 123) rfl), in_tab1 _ (List.mem_of_getElem? (i := 1) rfl), by decide, by decide, by decide +kernel, by decide +kernel⟩
theorem mv_D_planned : MV y_D_planned := ⟨in_tab4 _ (List.mem_of_getElem? (i := 121) rfl), in_tab4 _ (List.mem_of_getElem? (i := 122) rfl)⟩
theorem mw_D_row : MW y_D_row 3 := ⟨in_tab4 _ (List.mem_of_getElem? (i := 194) rfl), in_tab1 _ (List.mem_of_getElem? (i := 1) rfl), by decide, by decide, by decide +kernel, by decide +kernel⟩
theorem mv_D_row : MV y_D_row := ⟨in_tab4 _ (List.mem_of_getElem? (i := 192) rfl), in_tab4 _ (List.mem_of_getElem? (i := 193) rfl)⟩
theorem mw_D_isPlanOf : MW y_D_isPlanOf 2 := ⟨in_tab4 _ (List.mem_of_getElem? (i := 127) rfl), in_tab1 _ (List.mem_of_getElem? (i := 1) rfl), by decide, by decide, by decide +kernel, by decide +kernel⟩
theorem mv_D_isPlanOf : MV y_D_isPlanOf := ⟨in_tab4 _ (List.mem_of_getElem? (i := 126) rfl), in_sel _ (List.mem_of_getElem? (i := 1) rfl)⟩
theorem mw_D_cut : MW y_D_cut 2 := ⟨in_tab4 _ (List.mem_of_getElem? (i := 198) rfl), in_tab1 _ (List.mem_of_getElem? (i := 1) rfl), by decide, by decide, by decide +kernel, by decide +kernel⟩
theorem mv_D_cut : MV y_D_cut := ⟨in_tab4 _ (List.mem_of_getElem? (i := 196) rfl), in_tab4 _ (List.mem_of_getElem? (i := 197) rfl)⟩
theorem mw_D_freed : MW y_D_freed 1 := ⟨in_tab4 _ (List.mem_of_getElem? (i := 216) rfl), in_tab1 _ (List.mem_of_getElem? (i := 1) rfl), by decide, by decide, by decide +kernel, by decide +kernel⟩
theorem mv_D_freed : MV y_D_freed := ⟨in_tab4 _ (List.mem_of_getElem? (i := 214) rfl), in_tab4 _ (List.mem_of_getElem? (i := 215) rfl)⟩
theorem mw_D_seen : MW y_D_seen 2 := ⟨in_tab4 _ (List.mem_of_getElem? (i := 220) rfl), in_tab1 _ (List.mem_of_getElem? (i := 1) rfl), by decide, by decide, by decide +kernel, by decide +kernel⟩
theorem mv_D_seen : MV y_D_seen := ⟨in_tab4 _ (List.mem_of_getElem? (i := 218) rfl), in_tab4 _ (List.mem_of_getElem? (i := 219) rfl)⟩
theorem mw_D_slipped : MW y_D_slipped 1 := ⟨in_tab4 _ (List.mem_of_getElem? (i := 224) rfl), in_tab1 _ (List.mem_of_getElem? (i := 1) rfl), by decide, by decide, by decide +kernel, by decide +kernel⟩
theorem mv_D_slipped : MV y_D_slipped := ⟨in_tab4 _ (List.mem_of_getElem? (i := 222) rfl), in_tab4 _ (List.mem_of_getElem? (i := 223) rfl)⟩
theorem mw_D_strayOf : MW y_D_strayOf 1 := ⟨in_tab4 _ (List.mem_of_getElem? (i := 228) rfl), in_tab1 _ (List.mem_of_getElem? (i := 1) rfl), by decide, by decide, by decide +kernel, by decide +kernel⟩
theorem mv_D_strayOf : MV y_D_strayOf := ⟨in_tab4 _ (List.mem_of_getElem? (i := 227) rfl), in_sel _ (List.mem_of_getElem? (i := 2) rfl)⟩
theorem mw_D_coming : MW y_D_coming 1 := ⟨in_tab5 _ (List.mem_of_getElem? (i := 0) rfl), in_tab1 _ (List.mem_of_getElem? (i := 1) rfl), by decide, by decide, by decide +kernel, by decide +kernel⟩
theorem mv_D_coming : MV y_D_coming := ⟨in_tab4 _ (List.mem_of_getElem? (i := 238) rfl), in_tab4 _ (List.mem_of_getElem? (i := 239) rfl)⟩
theorem mw_D_day : MW y_D_day 1 := ⟨in_tab5 _ (List.mem_of_getElem? (i := 4) rfl), in_tab1 _ (List.mem_of_getElem? (i := 1) rfl), by decide, by decide, by decide +kernel, by decide +kernel⟩
theorem mv_D_day : MV y_D_day := ⟨in_tab5 _ (List.mem_of_getElem? (i := 2) rfl), in_tab5 _ (List.mem_of_getElem? (i := 3) rfl)⟩
theorem mw_D_would : MW y_D_would 2 := ⟨in_tab5 _ (List.mem_of_getElem? (i := 76) rfl), in_tab1 _ (List.mem_of_getElem? (i := 1) rfl), by decide, by decide, by decide +kernel, by decide +kernel⟩
theorem mv_D_would : MV y_D_would := ⟨in_tab5 _ (List.mem_of_getElem? (i := 74) rfl), in_tab5 _ (List.mem_of_getElem? (i := 75) rfl)⟩
theorem mw_D_worn : MW y_D_worn 3 := ⟨in_tab5 _ (List.mem_of_getElem? (i := 98) rfl), in_tab1 _ (List.mem_of_getElem? (i := 1) rfl), by decide, by decide, by decide +kernel, by decide +kernel⟩
theorem mv_D_worn : MV y_D_worn := ⟨in_tab5 _ (List.mem_of_getElem? (i := 96) rfl), in_tab5 _ (List.mem_of_getElem? (i := 97) rfl)⟩
theorem mw_D_isDayBy : MW y_D_isDayBy 1 := ⟨in_tab5 _ (List.mem_of_getElem? (i := 8) rfl), in_tab1 _ (List.mem_of_getElem? (i := 1) rfl), by decide, by decide, by decide +kernel, by decide +kernel⟩
theorem mv_D_isDayBy : MV y_D_isDayBy := ⟨in_tab5 _ (List.mem_of_getElem? (i := 7) rfl), in_sel _ (List.mem_of_getElem? (i := 3) rfl)⟩
theorem mw_D_imagineDay : MW y_D_imagineDay 1 := ⟨in_tab5 _ (List.mem_of_getElem? (i := 80) rfl), in_tab1 _ (List.mem_of_getElem? (i := 1) rfl), by decide, by decide, by decide +kernel, by decide +kernel⟩
theorem mv_D_imagineDay : MV y_D_imagineDay := ⟨in_tab5 _ (List.mem_of_getElem? (i := 79) rfl), in_sel _ (List.mem_of_getElem? (i := 4) rfl)⟩
theorem mw_D_seed : MW y_D_seed 1 := ⟨in_tab5 _ (List.mem_of_getElem? (i := 103) rfl), in_tab1 _ (List.mem_of_getElem? (i := 1) rfl), by decide, by decide, by decide +kernel, by decide +kernel⟩
theorem mv_D_seed : MV y_D_seed := ⟨in_tab5 _ (List.mem_of_getElem? (i := 101) rfl), in_tab5 _ (List.mem_of_getElem? (i := 102) rfl)⟩
theorem mw_D_drawn : MW y_D_drawn 4 := ⟨in_tab5 _ (List.mem_of_getElem? (i := 107) rfl), in_tab1 _ (List.mem_of_getElem? (i := 1) rfl), by decide, by decide, by decide +kernel, by decide +kernel⟩
theorem mv_D_drawn : MV y_D_drawn := ⟨in_tab5 _ (List.mem_of_getElem? (i := 105) rfl), in_tab5 _ (List.mem_of_getElem? (i := 106) rfl)⟩
theorem mw_D_drawComings : MW y_D_drawComings 2 := ⟨in_tab5 _ (List.mem_of_getElem? (i := 111) rfl), in_tab1 _ (List.mem_of_getElem? (i := 1) rfl), by decide, by decide, by decide +kernel, by decide +kernel⟩
theorem mv_D_drawComings : MV y_D_drawComings := ⟨in_tab5 _ (List.mem_of_getElem? (i := 110) rfl), in_sel _ (List.mem_of_getElem? (i := 5) rfl)⟩
theorem mw_D_count : MW y_D_count 1 := ⟨in_tab5 _ (List.mem_of_getElem? (i := 119) rfl), in_tab1 _ (List.mem_of_getElem? (i := 1) rfl), by decide, by decide, by decide +kernel, by decide +kernel⟩
theorem mv_D_count : MV y_D_count := ⟨in_tab5 _ (List.mem_of_getElem? (i := 117) rfl), in_tab5 _ (List.mem_of_getElem? (i := 118) rfl)⟩
theorem mw_D_image : MW y_D_image 1 := ⟨in_tab5 _ (List.mem_of_getElem? (i := 123) rfl), in_tab1 _ (List.mem_of_getElem? (i := 1) rfl), by decide, by decide, by decide +kernel, by decide +kernel⟩
theorem mv_D_image : MV y_D_image := ⟨in_tab5 _ (List.mem_of_getElem? (i := 121) rfl), in_tab5 _ (List.mem_of_getElem? (i := 122) rfl)⟩
theorem mw_D_back : MW y_D_back 1 := ⟨in_tab5 _ (List.mem_of_getElem? (i := 127) rfl), in_tab1 _ (List.mem_of_getElem? (i := 1) rfl), by decide, by decide, by decide +kernel, by decide +kernel⟩
theorem mv_D_back : MV y_D_back := ⟨in_tab5 _ (List.mem_of_getElem? (i := 125) rfl), in_tab5 _ (List.mem_of_getElem? (i := 126) rfl)⟩
theorem mw_D_isPart : MW y_D_isPart 1 := ⟨in_tab4 _ (List.mem_of_getElem? (i := 63) rfl), in_tab1 _ (List.mem_of_getElem? (i := 1) rfl), by decide, by decide, by decide +kernel, by decide +kernel⟩
theorem ms_D_isPart : Cond.static y_D_isPart.1 ∈ lw_tbl := in_tab4 _ (List.mem_of_getElem? (i := 62) rfl)
theorem mw_D_isWithin : MW y_D_isWithin 2 := ⟨in_tab4 _ (List.mem_of_getElem? (i := 88) rfl), in_tab1 _ (List.mem_of_getElem? (i := 1) rfl), by decide, by decide, by decide +kernel, by decide +kernel⟩
theorem ms_D_isWithin : Cond.static y_D_isWithin.1 ∈ lw_tbl := in_tab4 _ (List.mem_of_getElem? (i := 87) rfl)
theorem mw_D_bitOf : MW y_D_bitOf 2 := ⟨in_tab3 _ (List.mem_of_getElem? (i := 133) rfl), in_tab1 _ (List.mem_of_getElem? (i := 1) rfl), by decide, by decide, by decide +kernel, by decide +kernel⟩
theorem ms_D_bitOf : Cond.static y_D_bitOf.1 ∈ lw_tbl := in_tab3 _ (List.mem_of_getElem? (i := 132) rfl)
theorem mw_D_divisorOf : MW y_D_divisorOf 2 := ⟨in_tab3 _ (List.mem_of_getElem? (i := 140) rfl), in_tab1 _ (List.mem_of_getElem? (i := 1) rfl), by decide, by decide, by decide +kernel, by decide +kernel⟩
theorem ms_D_divisorOf : Cond.static y_D_divisorOf.1 ∈ lw_tbl := in_tab3 _ (List.mem_of_getElem? (i := 139) rfl)
theorem mw_D_lowest : MW y_D_lowest 3 := ⟨in_tab3 _ (List.mem_of_getElem? (i := 166) rfl), in_tab1 _ (List.mem_of_getElem? (i := 1) rfl), by decide, by decide, by decide +kernel, by decide +kernel⟩
theorem ms_D_lowest : Cond.static y_D_lowest.1 ∈ lw_tbl := in_tab3 _ (List.mem_of_getElem? (i := 165) rfl)
theorem mw_M_in : MW y_M_in 3 := ⟨in_tab6 _ (List.mem_of_getElem? (i := 117) rfl), in_tab1 _ (List.mem_of_getElem? (i := 12) rfl), by decide, by decide, by decide +kernel, by decide +kernel⟩
theorem ms_M_in : Cond.static y_M_in.1 ∈ lw_tbl := in_tab6 _ (List.mem_of_getElem? (i := 116) rfl)
theorem mw_M_isOf : MW y_M_isOf 2 := ⟨in_tab6 _ (List.mem_of_getElem? (i := 214) rfl), in_tab1 _ (List.mem_of_getElem? (i := 12) rfl), by decide, by decide, by decide +kernel, by decide +kernel⟩
theorem ms_M_isOf : Cond.static y_M_isOf.1 ∈ lw_tbl := in_tab6 _ (List.mem_of_getElem? (i := 213) rfl)
theorem mw_M_bits : MW y_M_bits 1 := ⟨in_tab7 _ (List.mem_of_getElem? (i := 158) rfl), in_tab1 _ (List.mem_of_getElem? (i := 12) rfl), by decide, by decide, by decide +kernel, by decide +kernel⟩
theorem ms_M_bits : Cond.static y_M_bits.1 ∈ lw_tbl := in_tab7 _ (List.mem_of_getElem? (i := 157) rfl)
theorem mw_M_divisor : MW y_M_divisor 2 := ⟨in_tab6 _ (List.mem_of_getElem? (i := 233) rfl), in_tab1 _ (List.mem_of_getElem? (i := 12) rfl), by decide, by decide, by decide +kernel, by decide +kernel⟩
theorem ms_M_divisor : Cond.static y_M_divisor.1 ∈ lw_tbl := in_tab6 _ (List.mem_of_getElem? (i := 232) rfl)
theorem mw_M_lowest : MW y_M_lowest 3 := ⟨in_tab6 _ (List.mem_of_getElem? (i := 230) rfl), in_tab1 _ (List.mem_of_getElem? (i := 12) rfl), by decide, by decide, by decide +kernel, by decide +kernel⟩
theorem ms_M_lowest : Cond.static y_M_lowest.1 ∈ lw_tbl := in_tab6 _ (List.mem_of_getElem? (i := 229) rfl)
theorem mw_M_bounded : MW y_M_bounded 3 := ⟨in_tab7 _ (List.mem_of_getElem? (i := 238) rfl), in_tab1 _ (List.mem_of_getElem? (i := 12) rfl), by decide, by decide, by decide +kernel, by decide +kernel⟩
theorem ms_M_bounded : Cond.static y_M_bounded.1 ∈ lw_tbl := in_tab7 _ (List.mem_of_getElem? (i := 237) rfl)
theorem mw_M_floored : MW y_M_floored 2 := ⟨in_tab7 _ (List.mem_of_getElem? (i := 22) rfl), in_tab1 _ (List.mem_of_getElem? (i := 12) rfl), by decide, by decide, by decide +kernel, by decide +kernel⟩
theorem ms_M_floored : Cond.static y_M_floored.1 ∈ lw_tbl := in_tab7 _ (List.mem_of_getElem? (i := 21) rfl)
theorem mw_M_four : MW y_M_four 1 := ⟨in_tab6 _ (List.mem_of_getElem? (i := 43) rfl), in_tab1 _ (List.mem_of_getElem? (i := 12) rfl), by decide, by decide, by decide +kernel, by decide +kernel⟩
theorem mv_M_four : MV y_M_four := ⟨in_tab6 _ (List.mem_of_getElem? (i := 42) rfl), in_sel _ (List.mem_of_getElem? (i := 6) rfl)⟩
theorem mw_M_feed : MW y_M_feed 5 := ⟨in_tab6 _ (List.mem_of_getElem? (i := 39) rfl), in_tab1 _ (List.mem_of_getElem? (i := 12) rfl), by decide, by decide, by decide +kernel, by decide +kernel⟩
theorem mv_M_feed : MV y_M_feed := ⟨in_tab6 _ (List.mem_of_getElem? (i := 37) rfl), in_tab6 _ (List.mem_of_getElem? (i := 38) rfl)⟩
theorem mw_M_end : MW y_M_end 1 := ⟨in_tab6 _ (List.mem_of_getElem? (i := 47) rfl), in_tab1 _ (List.mem_of_getElem? (i := 12) rfl), by decide, by decide, by decide +kernel, by decide +kernel⟩
theorem mv_M_end : MV y_M_end := ⟨in_tab6 _ (List.mem_of_getElem? (i := 45) rfl), in_tab6 _ (List.mem_of_getElem? (i := 46) rfl)⟩
theorem mw_M_fails : MW y_M_fails 2 := ⟨in_tab6 _ (List.mem_of_getElem? (i := 85) rfl), in_tab1 _ (List.mem_of_getElem? (i := 12) rfl), by decide, by decide, by decide +kernel, by decide +kernel⟩
theorem mv_M_fails : MV y_M_fails := ⟨in_tab6 _ (List.mem_of_getElem? (i := 84) rfl), in_sel _ (List.mem_of_getElem? (i := 13) rfl)⟩
theorem mw_M_see : MW y_M_see 0 := ⟨in_tab6 _ (List.mem_of_getElem? (i := 63) rfl), in_tab1 _ (List.mem_of_getElem? (i := 12) rfl), by decide, by decide, by decide +kernel, by decide +kernel⟩
theorem mv_M_see : MV y_M_see := ⟨in_tab6 _ (List.mem_of_getElem? (i := 62) rfl), in_sel _ (List.mem_of_getElem? (i := 9) rfl)⟩
theorem mw_M_isDigit : MW y_M_isDigit 1 := ⟨in_tab6 _ (List.mem_of_getElem? (i := 109) rfl), in_tab1 _ (List.mem_of_getElem? (i := 12) rfl), by decide, by decide, by decide +kernel, by decide +kernel⟩
theorem mv_M_isDigit : MV y_M_isDigit := ⟨in_tab6 _ (List.mem_of_getElem? (i := 108) rfl), in_sel _ (List.mem_of_getElem? (i := 19) rfl)⟩
theorem mw_M_isLetter : MW y_M_isLetter 1 := ⟨in_tab6 _ (List.mem_of_getElem? (i := 72) rfl), in_tab1 _ (List.mem_of_getElem? (i := 12) rfl), by decide, by decide, by decide +kernel, by decide +kernel⟩
theorem mv_M_isLetter : MV y_M_isLetter := ⟨in_tab6 _ (List.mem_of_getElem? (i := 71) rfl), in_sel _ (List.mem_of_getElem? (i := 11) rfl)⟩
theorem mw_M_isWord : MW y_M_isWord 1 := ⟨in_tab6 _ (List.mem_of_getElem? (i := 68) rfl), in_tab1 _ (List.mem_of_getElem? (i := 12) rfl), by decide, by decide, by decide +kernel, by decide +kernel⟩
theorem mv_M_isWord : MV y_M_isWord := ⟨in_tab6 _ (List.mem_of_getElem? (i := 67) rfl), in_sel _ (List.mem_of_getElem? (i := 10) rfl)⟩
theorem mw_M_passWord : MW y_M_passWord 0 := ⟨in_tab6 _ (List.mem_of_getElem? (i := 93) rfl), in_tab1 _ (List.mem_of_getElem? (i := 12) rfl), by decide, by decide, by decide +kernel, by decide +kernel⟩
theorem mv_M_passWord : MV y_M_passWord := ⟨in_tab6 _ (List.mem_of_getElem? (i := 92) rfl), in_sel _ (List.mem_of_getElem? (i := 15) rfl)⟩
theorem mw_M_takesWord : MW y_M_takesWord 1 := ⟨in_tab6 _ (List.mem_of_getElem? (i := 141) rfl), in_tab1 _ (List.mem_of_getElem? (i := 12) rfl), by decide, by decide, by decide +kernel, by decide +kernel⟩
theorem mv_M_takesWord : MV y_M_takesWord := ⟨in_tab6 _ (List.mem_of_getElem? (i := 140) rfl), in_sel _ (List.mem_of_getElem? (i := 24) rfl)⟩
theorem mw_M_numberHere : MW y_M_numberHere 2 := ⟨in_tab6 _ (List.mem_of_getElem? (i := 114) rfl), in_tab1 _ (List.mem_of_getElem? (i := 12) rfl), by decide, by decide, by decide +kernel, by decide +kernel⟩
theorem mv_M_numberHere : MV y_M_numberHere := ⟨in_tab6 _ (List.mem_of_getElem? (i := 113) rfl), in_sel _ (List.mem_of_getElem? (i := 20) rfl)⟩
theorem mw_M_wordHere : MW y_M_wordHere 0 := ⟨in_tab6 _ (List.mem_of_getElem? (i := 129) rfl), in_tab1 _ (List.mem_of_getElem? (i := 12) rfl), by decide, by decide, by decide +kernel, by decide +kernel⟩
theorem mv_M_wordHere : MV y_M_wordHere := ⟨in_tab6 _ (List.mem_of_getElem? (i := 128) rfl), in_sel _ (List.mem_of_getElem? (i := 23) rfl)⟩
theorem mw_M_puts : MW y_M_puts 2 := ⟨in_tab6 _ (List.mem_of_getElem? (i := 125) rfl), in_tab1 _ (List.mem_of_getElem? (i := 12) rfl), by decide, by decide, by decide +kernel, by decide +kernel⟩
theorem mv_M_puts : MV y_M_puts := ⟨in_tab6 _ (List.mem_of_getElem? (i := 124) rfl), in_sel _ (List.mem_of_getElem? (i := 22) rfl)⟩
theorem mw_M_makes : MW y_M_makes 1 := ⟨in_tab6 _ (List.mem_of_getElem? (i := 121) rfl), in_tab1 _ (List.mem_of_getElem? (i := 12) rfl), by decide, by decide, by decide +kernel, by decide +kernel⟩
theorem mv_M_makes : MV y_M_makes := ⟨in_tab6 _ (List.mem_of_getElem? (i := 120) rfl), in_sel _ (List.mem_of_getElem? (i := 21) rfl)⟩
theorem mw_M_opens : MW y_M_opens 1 := ⟨in_tab6 _ (List.mem_of_getElem? (i := 154) rfl), in_tab1 _ (List.mem_of_getElem? (i := 12) rfl), by decide, by decide, by decide +kernel, by decide +kernel⟩
theorem mv_M_opens : MV y_M_opens := ⟨in_tab6 _ (List.mem_of_getElem? (i := 153) rfl), in_sel _ (List.mem_of_getElem? (i := 27) rfl)⟩
theorem mw_M_strength : MW y_M_strength 1 := ⟨in_tab6 _ (List.mem_of_getElem? (i := 169) rfl), in_tab1 _ (List.mem_of_getElem? (i := 12) rfl), by decide, by decide, by decide +kernel, by decide +kernel⟩
theorem ms_M_strength : Cond.static y_M_strength.1 ∈ lw_tbl := in_tab6 _ (List.mem_of_getElem? (i := 168) rfl)
theorem mw_M_settles : MW y_M_settles 1 := ⟨in_tab6 _ (List.mem_of_getElem? (i := 166) rfl), in_tab1 _ (List.mem_of_getElem? (i := 12) rfl), by decide, by decide, by decide +kernel, by decide +kernel⟩
theorem mv_M_settles : MV y_M_settles := ⟨in_tab6 _ (List.mem_of_getElem? (i := 165) rfl), in_sel _ (List.mem_of_getElem? (i := 30) rfl)⟩
theorem mw_M_value : MW y_M_value 0 := ⟨in_tab6 _ (List.mem_of_getElem? (i := 105) rfl), in_tab1 _ (List.mem_of_getElem? (i := 12) rfl), by decide, by decide, by decide +kernel, by decide +kernel⟩
theorem mv_M_value : MV y_M_value := ⟨in_tab6 _ (List.mem_of_getElem? (i := 104) rfl), in_sel _ (List.mem_of_getElem? (i := 18) rfl)⟩
theorem mw_M_term : MW y_M_term 0 := ⟨in_tab6 _ (List.mem_of_getElem? (i := 101) rfl), in_tab1 _ (List.mem_of_getElem? (i := 12) rfl), by decide, by decide, by decide +kernel, by decide +kernel⟩
theorem mv_M_term : MV y_M_term := ⟨in_tab6 _ (List.mem_of_getElem? (i := 100) rfl), in_sel _ (List.mem_of_getElem? (i := 17) rfl)⟩
theorem mw_M_sum : MW y_M_sum 0 := ⟨in_tab6 _ (List.mem_of_getElem? (i := 97) rfl), in_tab1 _ (List.mem_of_getElem? (i := 12) rfl), by decide, by decide, by decide +kernel, by decide +kernel⟩
theorem mv_M_sum : MV y_M_sum := ⟨in_tab6 _ (List.mem_of_getElem? (i := 96) rfl), in_sel _ (List.mem_of_getElem? (i := 16) rfl)⟩
theorem mw_M_compare : MW y_M_compare 0 := ⟨in_tab6 _ (List.mem_of_getElem? (i := 158) rfl), in_tab1 _ (List.mem_of_getElem? (i := 12) rfl), by decide, by decide, by decide +kernel, by decide +kernel⟩
theorem mv_M_compare : MV y_M_compare := ⟨in_tab6 _ (List.mem_of_getElem? (i := 157) rfl), in_sel _ (List.mem_of_getElem? (i := 28) rfl)⟩
theorem mw_M_fact : MW y_M_fact 0 := ⟨in_tab6 _ (List.mem_of_getElem? (i := 149) rfl), in_tab1 _ (List.mem_of_getElem? (i := 12) rfl), by decide, by decide, by decide +kernel, by decide +kernel⟩
theorem mv_M_fact : MV y_M_fact := ⟨in_tab6 _ (List.mem_of_getElem? (i := 148) rfl), in_sel _ (List.mem_of_getElem? (i := 26) rfl)⟩
theorem mw_M_isInside : MW y_M_isInside 0 := ⟨in_tab6 _ (List.mem_of_getElem? (i := 173) rfl), in_tab1 _ (List.mem_of_getElem? (i := 12) rfl), by decide, by decide, by decide +kernel, by decide +kernel⟩
theorem mv_M_isInside : MV y_M_isInside := ⟨in_tab6 _ (List.mem_of_getElem? (i := 172) rfl), in_sel _ (List.mem_of_getElem? (i := 31) rfl)⟩
theorem mw_M_closes : MW y_M_closes 0 := ⟨in_tab6 _ (List.mem_of_getElem? (i := 162) rfl), in_tab1 _ (List.mem_of_getElem? (i := 12) rfl), by decide, by decide, by decide +kernel, by decide +kernel⟩
theorem mv_M_closes : MV y_M_closes := ⟨in_tab6 _ (List.mem_of_getElem? (i := 161) rfl), in_sel _ (List.mem_of_getElem? (i := 29) rfl)⟩
theorem mw_M_tested : MW y_M_tested 0 := ⟨in_tab6 _ (List.mem_of_getElem? (i := 145) rfl), in_tab1 _ (List.mem_of_getElem? (i := 12) rfl), by decide, by decide, by decide +kernel, by decide +kernel⟩
theorem mv_M_tested : MV y_M_tested := ⟨in_tab6 _ (List.mem_of_getElem? (i := 144) rfl), in_sel _ (List.mem_of_getElem? (i := 25) rfl)⟩
theorem mw_M_isPushHere : MW y_M_isPushHere 0 := ⟨in_tab6 _ (List.mem_of_getElem? (i := 89) rfl), in_tab1 _ (List.mem_of_getElem? (i := 12) rfl), by decide, by decide, by decide +kernel, by decide +kernel⟩
theorem mv_M_isPushHere : MV y_M_isPushHere := ⟨in_tab6 _ (List.mem_of_getElem? (i := 88) rfl), in_sel _ (List.mem_of_getElem? (i := 14) rfl)⟩
theorem mw_M_isDoorHere : MW y_M_isDoorHere 1 := ⟨in_tab6 _ (List.mem_of_getElem? (i := 179) rfl), in_tab1 _ (List.mem_of_getElem? (i := 12) rfl), by decide, by decide, by decide +kernel, by decide +kernel⟩
theorem mv_M_isDoorHere : MV y_M_isDoorHere := ⟨in_tab6 _ (List.mem_of_getElem? (i := 178) rfl), in_sel _ (List.mem_of_getElem? (i := 32) rfl)⟩
theorem mw_M_isJoinHere : MW y_M_isJoinHere 2 := ⟨in_tab6 _ (List.mem_of_getElem? (i := 187) rfl), in_tab1 _ (List.mem_of_getElem? (i := 12) rfl), by decide, by decide, by decide +kernel, by decide +kernel⟩
theorem mv_M_isJoinHere : MV y_M_isJoinHere := ⟨in_tab6 _ (List.mem_of_getElem? (i := 186) rfl), in_sel _ (List.mem_of_getElem? (i := 34) rfl)⟩
theorem mw_M_isFixedHere : MW y_M_isFixedHere 0 := ⟨in_tab6 _ (List.mem_of_getElem? (i := 183) rfl), in_tab1 _ (List.mem_of_getElem? (i := 12) rfl), by decide, by decide, by decide +kernel, by decide +kernel⟩
theorem mv_M_isFixedHere : MV y_M_isFixedHere := ⟨in_tab6 _ (List.mem_of_getElem? (i := 182) rfl), in_sel _ (List.mem_of_getElem? (i := 33) rfl)⟩
theorem mw_M_joinSort : MW y_M_joinSort 0 := ⟨in_tab6 _ (List.mem_of_getElem? (i := 77) rfl), in_tab1 _ (List.mem_of_getElem? (i := 12) rfl), by decide, by decide, by decide +kernel, by decide +kernel⟩
theorem mv_M_joinSort : MV y_M_joinSort := ⟨in_tab6 _ (List.mem_of_getElem? (i := 76) rfl), in_sel _ (List.mem_of_getElem? (i := 12) rfl)⟩
theorem mw_M_clauseHere : MW y_M_clauseHere 0 := ⟨in_tab6 _ (List.mem_of_getElem? (i := 59) rfl), in_tab1 _ (List.mem_of_getElem? (i := 12) rfl), by decide, by decide, by decide +kernel, by decide +kernel⟩
theorem mv_M_clauseHere : MV y_M_clauseHere := ⟨in_tab6 _ (List.mem_of_getElem? (i := 58) rfl), in_sel _ (List.mem_of_getElem? (i := 8) rfl)⟩
theorem mw_M_readsAll : MW y_M_readsAll 0 := ⟨in_tab6 _ (List.mem_of_getElem? (i := 55) rfl), in_tab1 _ (List.mem_of_getElem? (i := 12) rfl), by decide, by decide, by decide +kernel, by decide +kernel⟩
theorem mv_M_readsAll : MV y_M_readsAll := ⟨in_tab6 _ (List.mem_of_getElem? (i := 54) rfl), in_sel _ (List.mem_of_getElem? (i := 7) rfl)⟩
theorem mw_M_rule : MW y_M_rule 0 := ⟨in_tab6 _ (List.mem_of_getElem? (i := 51) rfl), in_tab1 _ (List.mem_of_getElem? (i := 12) rfl), by decide, by decide, by decide +kernel, by decide +kernel⟩
theorem mv_M_rule : MV y_M_rule := ⟨in_tab6 _ (List.mem_of_getElem? (i := 49) rfl), in_tab6 _ (List.mem_of_getElem? (i := 50) rfl)⟩
theorem mw_M_street : MW y_M_street 0 := ⟨in_tab6 _ (List.mem_of_getElem? (i := 191) rfl), in_tab1 _ (List.mem_of_getElem? (i := 12) rfl), by decide, by decide, by decide +kernel, by decide +kernel⟩
theorem mv_M_street : MV y_M_street := ⟨in_tab6 _ (List.mem_of_getElem? (i := 189) rfl), in_tab6 _ (List.mem_of_getElem? (i := 190) rfl)⟩
theorem mw_M_isRule : MW y_M_isRule 1 := ⟨in_tab7 _ (List.mem_of_getElem? (i := 192) rfl), in_tab1 _ (List.mem_of_getElem? (i := 12) rfl), by decide, by decide, by decide +kernel, by decide +kernel⟩
theorem mv_M_isRule : MV y_M_isRule := ⟨in_tab7 _ (List.mem_of_getElem? (i := 191) rfl), in_sel _ (List.mem_of_getElem? (i := 70) rfl)⟩
theorem mw_M_heaps : MW y_M_heaps 1 := ⟨in_tab7 _ (List.mem_of_getElem? (i := 228) rfl), in_tab1 _ (List.mem_of_getElem? (i := 12) rfl), by decide, by decide, by decide +kernel, by decide +kernel⟩
theorem mv_M_heaps : MV y_M_heaps := ⟨in_tab7 _ (List.mem_of_getElem? (i := 227) rfl), in_sel _ (List.mem_of_getElem? (i := 79) rfl)⟩
theorem mw_M_pop : MW y_M_pop 0 := ⟨in_tab7 _ (List.mem_of_getElem? (i := 232) rfl), in_tab1 _ (List.mem_of_getElem? (i := 12) rfl), by decide, by decide, by decide +kernel, by decide +kernel⟩
theorem mv_M_pop : MV y_M_pop := ⟨in_tab7 _ (List.mem_of_getElem? (i := 231) rfl), in_sel _ (List.mem_of_getElem? (i := 80) rfl)⟩
theorem mw_M_one : MW y_M_one 3 := ⟨in_tab7 _ (List.mem_of_getElem? (i := 235) rfl), in_tab1 _ (List.mem_of_getElem? (i := 12) rfl), by decide, by decide, by decide +kernel, by decide +kernel⟩
theorem ms_M_one : Cond.static y_M_one.1 ∈ lw_tbl := in_tab7 _ (List.mem_of_getElem? (i := 234) rfl)
theorem mw_M_reckons : MW y_M_reckons 3 := ⟨in_tab7 _ (List.mem_of_getElem? (i := 224) rfl), in_tab1 _ (List.mem_of_getElem? (i := 12) rfl), by decide, by decide, by decide +kernel, by decide +kernel⟩
theorem mv_M_reckons : MV y_M_reckons := ⟨in_tab7 _ (List.mem_of_getElem? (i := 223) rfl), in_sel _ (List.mem_of_getElem? (i := 78) rfl)⟩
theorem mw_M_isDoor : MW y_M_isDoor 1 := ⟨in_tab7 _ (List.mem_of_getElem? (i := 5) rfl), in_tab1 _ (List.mem_of_getElem? (i := 12) rfl), by decide, by decide, by decide +kernel, by decide +kernel⟩
theorem mv_M_isDoor : MV y_M_isDoor := ⟨in_tab7 _ (List.mem_of_getElem? (i := 4) rfl), in_sel _ (List.mem_of_getElem? (i := 44) rfl)⟩
theorem mw_M_isJoin : MW y_M_isJoin 1 := ⟨in_tab7 _ (List.mem_of_getElem? (i := 35) rfl), in_tab1 _ (List.mem_of_getElem? (i := 12) rfl), by decide, by decide, by decide +kernel, by decide +kernel⟩
theorem mv_M_isJoin : MV y_M_isJoin := ⟨in_tab7 _ (List.mem_of_getElem? (i := 34) rfl), in_sel _ (List.mem_of_getElem? (i := 48) rfl)⟩
theorem mw_M_teeth : MW y_M_teeth 1 := ⟨in_tab6 _ (List.mem_of_getElem? (i := 203) rfl), in_tab1 _ (List.mem_of_getElem? (i := 12) rfl), by decide, by decide, by decide +kernel, by decide +kernel⟩
theorem mv_M_teeth : MV y_M_teeth := ⟨in_tab6 _ (List.mem_of_getElem? (i := 202) rfl), in_sel _ (List.mem_of_getElem? (i := 37) rfl)⟩
theorem mw_M_span : MW y_M_span 1 := ⟨in_tab7 _ (List.mem_of_getElem? (i := 18) rfl), in_tab1 _ (List.mem_of_getElem? (i := 12) rfl), by decide, by decide, by decide +kernel, by decide +kernel⟩
theorem mv_M_span : MV y_M_span := ⟨in_tab7 _ (List.mem_of_getElem? (i := 17) rfl), in_sel _ (List.mem_of_getElem? (i := 47) rfl)⟩
theorem mw_M_joinOf : MW y_M_joinOf 2 := ⟨in_tab6 _ (List.mem_of_getElem? (i := 199) rfl), in_tab1 _ (List.mem_of_getElem? (i := 12) rfl), by decide, by decide, by decide +kernel, by decide +kernel⟩
theorem mv_M_joinOf : MV y_M_joinOf := ⟨in_tab6 _ (List.mem_of_getElem? (i := 198) rfl), in_sel _ (List.mem_of_getElem? (i := 36) rfl)⟩
theorem mw_M_isSet : MW y_M_isSet 1 := ⟨in_tab7 _ (List.mem_of_getElem? (i := 93) rfl), in_tab1 _ (List.mem_of_getElem? (i := 12) rfl), by decide, by decide, by decide +kernel, by decide +kernel⟩
theorem mv_M_isSet : MV y_M_isSet := ⟨in_tab7 _ (List.mem_of_getElem? (i := 92) rfl), in_sel _ (List.mem_of_getElem? (i := 55) rfl)⟩
theorem mw_M_above : MW y_M_above 2 := ⟨in_tab6 _ (List.mem_of_getElem? (i := 222) rfl), in_tab1 _ (List.mem_of_getElem? (i := 12) rfl), by decide, by decide, by decide +kernel, by decide +kernel⟩
theorem mv_M_above : MV y_M_above := ⟨in_tab6 _ (List.mem_of_getElem? (i := 221) rfl), in_sel _ (List.mem_of_getElem? (i := 41) rfl)⟩
theorem mw_M_below : MW y_M_below 2 := ⟨in_tab6 _ (List.mem_of_getElem? (i := 227) rfl), in_tab1 _ (List.mem_of_getElem? (i := 12) rfl), by decide, by decide, by decide +kernel, by decide +kernel⟩
theorem mv_M_below : MV y_M_below := ⟨in_tab6 _ (List.mem_of_getElem? (i := 226) rfl), in_sel _ (List.mem_of_getElem? (i := 42) rfl)⟩
theorem mw_M_isTurnedAlike : MW y_M_isTurnedAlike 3 := ⟨in_tab6 _ (List.mem_of_getElem? (i := 237) rfl), in_tab1 _ (List.mem_of_getElem? (i := 12) rfl), by decide, by decide, by decide +kernel, by decide +kernel⟩
theorem mv_M_isTurnedAlike : MV y_M_isTurnedAlike := ⟨in_tab6 _ (List.mem_of_getElem? (i := 236) rfl), in_sel _ (List.mem_of_getElem? (i := 43) rfl)⟩
theorem mw_M_turns : MW y_M_turns 3 := ⟨in_tab6 _ (List.mem_of_getElem? (i := 218) rfl), in_tab1 _ (List.mem_of_getElem? (i := 12) rfl), by decide, by decide, by decide +kernel, by decide +kernel⟩
theorem mv_M_turns : MV y_M_turns := ⟨in_tab6 _ (List.mem_of_getElem? (i := 217) rfl), in_sel _ (List.mem_of_getElem? (i := 40) rfl)⟩
theorem mw_M_reaches : MW y_M_reaches 1 := ⟨in_tab6 _ (List.mem_of_getElem? (i := 211) rfl), in_tab1 _ (List.mem_of_getElem? (i := 12) rfl), by decide, by decide, by decide +kernel, by decide +kernel⟩
theorem mv_M_reaches : MV y_M_reaches := ⟨in_tab6 _ (List.mem_of_getElem? (i := 210) rfl), in_sel _ (List.mem_of_getElem? (i := 39) rfl)⟩
theorem mw_M_hangsWithout : MW y_M_hangsWithout 1 := ⟨in_tab6 _ (List.mem_of_getElem? (i := 207) rfl), in_tab1 _ (List.mem_of_getElem? (i := 12) rfl), by decide, by decide, by decide +kernel, by decide +kernel⟩
theorem mv_M_hangsWithout : MV y_M_hangsWithout := ⟨in_tab6 _ (List.mem_of_getElem? (i := 206) rfl), in_sel _ (List.mem_of_getElem? (i := 38) rfl)⟩
theorem mw_M_hangs : MW y_M_hangs 0 := ⟨in_tab6 _ (List.mem_of_getElem? (i := 195) rfl), in_tab1 _ (List.mem_of_getElem? (i := 12) rfl), by decide, by decide, by decide +kernel, by decide +kernel⟩
theorem mv_M_hangs : MV y_M_hangs := ⟨in_tab6 _ (List.mem_of_getElem? (i := 194) rfl), in_sel _ (List.mem_of_getElem? (i := 35) rfl)⟩
theorem mw_M_areJoined : MW y_M_areJoined 2 := ⟨in_tab7 _ (List.mem_of_getElem? (i := 43) rfl), in_tab1 _ (List.mem_of_getElem? (i := 12) rfl), by decide, by decide, by decide +kernel, by decide +kernel⟩
theorem mv_M_areJoined : MV y_M_areJoined := ⟨in_tab7 _ (List.mem_of_getElem? (i := 42) rfl), in_sel _ (List.mem_of_getElem? (i := 49) rfl)⟩
theorem mw_M_ratioOf : MW y_M_ratioOf 3 := ⟨in_tab7 _ (List.mem_of_getElem? (i := 47) rfl), in_tab1 _ (List.mem_of_getElem? (i := 12) rfl), by decide, by decide, by decide +kernel, by decide +kernel⟩
theorem mv_M_ratioOf : MV y_M_ratioOf := ⟨in_tab7 _ (List.mem_of_getElem? (i := 46) rfl), in_sel _ (List.mem_of_getElem? (i := 50) rfl)⟩
theorem mw_M_partsOf : MW y_M_partsOf 2 := ⟨in_tab7 _ (List.mem_of_getElem? (i := 64) rfl), in_tab1 _ (List.mem_of_getElem? (i := 12) rfl), by decide, by decide, by decide +kernel, by decide +kernel⟩
theorem mv_M_partsOf : MV y_M_partsOf := ⟨in_tab7 _ (List.mem_of_getElem? (i := 63) rfl), in_sel _ (List.mem_of_getElem? (i := 52) rfl)⟩
theorem mw_M_isOpenAt : MW y_M_isOpenAt 2 := ⟨in_tab7 _ (List.mem_of_getElem? (i := 14) rfl), in_tab1 _ (List.mem_of_getElem? (i := 12) rfl), by decide, by decide, by decide +kernel, by decide +kernel⟩
theorem mv_M_isOpenAt : MV y_M_isOpenAt := ⟨in_tab7 _ (List.mem_of_getElem? (i := 13) rfl), in_sel _ (List.mem_of_getElem? (i := 46) rfl)⟩
theorem mw_M_isOpen : MW y_M_isOpen 1 := ⟨in_tab7 _ (List.mem_of_getElem? (i := 10) rfl), in_tab1 _ (List.mem_of_getElem? (i := 12) rfl), by decide, by decide, by decide +kernel, by decide +kernel⟩
theorem mv_M_isOpen : MV y_M_isOpen := ⟨in_tab7 _ (List.mem_of_getElem? (i := 9) rfl), in_sel _ (List.mem_of_getElem? (i := 45) rfl)⟩
theorem mw_M_openOnes : MW y_M_openOnes 0 := ⟨in_tab7 _ (List.mem_of_getElem? (i := 216) rfl), in_tab1 _ (List.mem_of_getElem? (i := 12) rfl), by decide, by decide, by decide +kernel, by decide +kernel⟩
theorem mv_M_openOnes : MV y_M_openOnes := ⟨in_tab7 _ (List.mem_of_getElem? (i := 215) rfl), in_sel _ (List.mem_of_getElem? (i := 76) rfl)⟩
theorem mw_M_door : MW y_M_door 2 := ⟨in_tab7 _ (List.mem_of_getElem? (i := 1) rfl), in_tab1 _ (List.mem_of_getElem? (i := 12) rfl), by decide, by decide, by decide +kernel, by decide +kernel⟩
theorem mv_M_door : MV y_M_door := ⟨in_tab6 _ (List.mem_of_getElem? (i := 239) rfl), in_tab7 _ (List.mem_of_getElem? (i := 0) rfl)⟩
theorem mw_M_place : MW y_M_place 2 := ⟨in_tab7 _ (List.mem_of_getElem? (i := 26) rfl), in_tab1 _ (List.mem_of_getElem? (i := 12) rfl), by decide, by decide, by decide +kernel, by decide +kernel⟩
theorem mv_M_place : MV y_M_place := ⟨in_tab7 _ (List.mem_of_getElem? (i := 24) rfl), in_tab7 _ (List.mem_of_getElem? (i := 25) rfl)⟩
theorem mw_M_join : MW y_M_join 2 := ⟨in_tab7 _ (List.mem_of_getElem? (i := 31) rfl), in_tab1 _ (List.mem_of_getElem? (i := 12) rfl), by decide, by decide, by decide +kernel, by decide +kernel⟩
theorem mv_M_join : MV y_M_join := ⟨in_tab7 _ (List.mem_of_getElem? (i := 29) rfl), in_tab7 _ (List.mem_of_getElem? (i := 30) rfl)⟩
theorem mw_M_ratio : MW y_M_ratio 3 := ⟨in_tab7 _ (List.mem_of_getElem? (i := 39) rfl), in_tab1 _ (List.mem_of_getElem? (i := 12) rfl), by decide, by decide, by decide +kernel, by decide +kernel⟩
theorem mv_M_ratio : MV y_M_ratio := ⟨in_tab7 _ (List.mem_of_getElem? (i := 37) rfl), in_tab7 _ (List.mem_of_getElem? (i := 38) rfl)⟩
theorem mw_M_isBeyond : MW y_M_isBeyond 2 := ⟨in_tab7 _ (List.mem_of_getElem? (i := 68) rfl), in_tab1 _ (List.mem_of_getElem? (i := 12) rfl), by decide, by decide, by decide +kernel, by decide +kernel⟩
theorem mv_M_isBeyond : MV y_M_isBeyond := ⟨in_tab7 _ (List.mem_of_getElem? (i := 67) rfl), in_sel _ (List.mem_of_getElem? (i := 53) rfl)⟩
theorem mw_M_pushes : MW y_M_pushes 2 := ⟨in_tab7 _ (List.mem_of_getElem? (i := 60) rfl), in_tab1 _ (List.mem_of_getElem? (i := 12) rfl), by decide, by decide, by decide +kernel, by decide +kernel⟩
theorem mv_M_pushes : MV y_M_pushes := ⟨in_tab7 _ (List.mem_of_getElem? (i := 59) rfl), in_sel _ (List.mem_of_getElem? (i := 51) rfl)⟩
theorem mw_M_turnsAll : MW y_M_turnsAll 2 := ⟨in_tab7 _ (List.mem_of_getElem? (i := 77) rfl), in_tab1 _ (List.mem_of_getElem? (i := 12) rfl), by decide, by decide, by decide +kernel, by decide +kernel⟩
theorem mv_M_turnsAll : MV y_M_turnsAll := ⟨in_tab7 _ (List.mem_of_getElem? (i := 76) rfl), in_sel _ (List.mem_of_getElem? (i := 54) rfl)⟩
theorem mw_M_isPush : MW y_M_isPush 1 := ⟨in_tab7 _ (List.mem_of_getElem? (i := 54) rfl), in_tab1 _ (List.mem_of_getElem? (i := 12) rfl), by decide, by decide, by decide +kernel, by decide +kernel⟩
theorem ms_M_isPush : Cond.static y_M_isPush.1 ∈ lw_tbl := in_tab7 _ (List.mem_of_getElem? (i := 53) rfl)
theorem mw_M_can : MW y_M_can 2 := ⟨in_tab7 _ (List.mem_of_getElem? (i := 51) rfl), in_tab1 _ (List.mem_of_getElem? (i := 12) rfl), by decide, by decide, by decide +kernel, by decide +kernel⟩
theorem mv_M_can : MV y_M_can := ⟨in_tab7 _ (List.mem_of_getElem? (i := 49) rfl), in_tab7 _ (List.mem_of_getElem? (i := 50) rfl)⟩
theorem mw_M_push : MW y_M_push 2 := ⟨in_tab7 _ (List.mem_of_getElem? (i := 72) rfl), in_tab1 _ (List.mem_of_getElem? (i := 12) rfl), by decide, by decide, by decide +kernel, by decide +kernel⟩
theorem mv_M_push : MV y_M_push := ⟨in_tab7 _ (List.mem_of_getElem? (i := 70) rfl), in_tab7 _ (List.mem_of_getElem? (i := 71) rfl)⟩
theorem mw_M_reach : MW y_M_reach 2 := ⟨in_tab7 _ (List.mem_of_getElem? (i := 81) rfl), in_tab1 _ (List.mem_of_getElem? (i := 12) rfl), by decide, by decide, by decide +kernel, by decide +kernel⟩
theorem mv_M_reach : MV y_M_reach := ⟨in_tab7 _ (List.mem_of_getElem? (i := 79) rfl), in_tab7 _ (List.mem_of_getElem? (i := 80) rfl)⟩
theorem mw_M_slip : MW y_M_slip 2 := ⟨in_tab7 _ (List.mem_of_getElem? (i := 85) rfl), in_tab1 _ (List.mem_of_getElem? (i := 12) rfl), by decide, by decide, by decide +kernel, by decide +kernel⟩
theorem mv_M_slip : MV y_M_slip := ⟨in_tab7 _ (List.mem_of_getElem? (i := 83) rfl), in_tab7 _ (List.mem_of_getElem? (i := 84) rfl)⟩
theorem mw_M_want : MW y_M_want 2 := ⟨in_tab7 _ (List.mem_of_getElem? (i := 89) rfl), in_tab1 _ (List.mem_of_getElem? (i := 12) rfl), by decide, by decide, by decide +kernel, by decide +kernel⟩
theorem mv_M_want : MV y_M_want := ⟨in_tab7 _ (List.mem_of_getElem? (i := 87) rfl), in_tab7 _ (List.mem_of_getElem? (i := 88) rfl)⟩
theorem mw_M_placeAt : MW y_M_placeAt 2 := ⟨in_tab7 _ (List.mem_of_getElem? (i := 117) rfl), in_tab1 _ (List.mem_of_getElem? (i := 12) rfl), by decide, by decide, by decide +kernel, by decide +kernel⟩
theorem mv_M_placeAt : MV y_M_placeAt := ⟨in_tab7 _ (List.mem_of_getElem? (i := 116) rfl), in_sel _ (List.mem_of_getElem? (i := 60) rfl)⟩
theorem mw_M_isWanted : MW y_M_isWanted 2 := ⟨in_tab7 _ (List.mem_of_getElem? (i := 113) rfl), in_tab1 _ (List.mem_of_getElem? (i := 12) rfl), by decide, by decide, by decide +kernel, by decide +kernel⟩
theorem mv_M_isWanted : MV y_M_isWanted := ⟨in_tab7 _ (List.mem_of_getElem? (i := 112) rfl), in_sel _ (List.mem_of_getElem? (i := 59) rfl)⟩
theorem mw_M_slotOf : MW y_M_slotOf 1 := ⟨in_tab7 _ (List.mem_of_getElem? (i := 129) rfl), in_tab1 _ (List.mem_of_getElem? (i := 12) rfl), by decide, by decide, by decide +kernel, by decide +kernel⟩
theorem mv_M_slotOf : MV y_M_slotOf := ⟨in_tab7 _ (List.mem_of_getElem? (i := 128) rfl), in_sel _ (List.mem_of_getElem? (i := 63) rfl)⟩
theorem mw_M_isKnown : MW y_M_isKnown 1 := ⟨in_tab7 _ (List.mem_of_getElem? (i := 135) rfl), in_tab1 _ (List.mem_of_getElem? (i := 12) rfl), by decide, by decide, by decide +kernel, by decide +kernel⟩
theorem mv_M_isKnown : MV y_M_isKnown := ⟨in_tab7 _ (List.mem_of_getElem? (i := 134) rfl), in_sel _ (List.mem_of_getElem? (i := 64) rfl)⟩
theorem mw_M_comesTo : MW y_M_comesTo 3 := ⟨in_tab7 _ (List.mem_of_getElem? (i := 125) rfl), in_tab1 _ (List.mem_of_getElem? (i := 12) rfl), by decide, by decide, by decide +kernel, by decide +kernel⟩
theorem mv_M_comesTo : MV y_M_comesTo := ⟨in_tab7 _ (List.mem_of_getElem? (i := 124) rfl), in_sel _ (List.mem_of_getElem? (i := 62) rfl)⟩
theorem mw_M_mayStand : MW y_M_mayStand 3 := ⟨in_tab7 _ (List.mem_of_getElem? (i := 139) rfl), in_tab1 _ (List.mem_of_getElem? (i := 12) rfl), by decide, by decide, by decide +kernel, by decide +kernel⟩
theorem mv_M_mayStand : MV y_M_mayStand := ⟨in_tab7 _ (List.mem_of_getElem? (i := 138) rfl), in_sel _ (List.mem_of_getElem? (i := 65) rfl)⟩
theorem mw_M_searches : MW y_M_searches 3 := ⟨in_tab7 _ (List.mem_of_getElem? (i := 121) rfl), in_tab1 _ (List.mem_of_getElem? (i := 12) rfl), by decide, by decide, by decide +kernel, by decide +kernel⟩
theorem mv_M_searches : MV y_M_searches := ⟨in_tab7 _ (List.mem_of_getElem? (i := 120) rfl), in_sel _ (List.mem_of_getElem? (i := 61) rfl)⟩
theorem mw_M_rows : MW y_M_rows 1 := ⟨in_tab7 _ (List.mem_of_getElem? (i := 143) rfl), in_tab1 _ (List.mem_of_getElem? (i := 12) rfl), by decide, by decide, by decide +kernel, by decide +kernel⟩
theorem mv_M_rows : MV y_M_rows := ⟨in_tab7 _ (List.mem_of_getElem? (i := 142) rfl), in_sel _ (List.mem_of_getElem? (i := 66) rfl)⟩
theorem mw_M_isSomething : MW y_M_isSomething 1 := ⟨in_tab7 _ (List.mem_of_getElem? (i := 109) rfl), in_tab1 _ (List.mem_of_getElem? (i := 12) rfl), by decide, by decide, by decide +kernel, by decide +kernel⟩
theorem mv_M_isSomething : MV y_M_isSomething := ⟨in_tab7 _ (List.mem_of_getElem? (i := 108) rfl), in_sel _ (List.mem_of_getElem? (i := 58) rfl)⟩
theorem mw_M_plans : MW y_M_plans 2 := ⟨in_tab7 _ (List.mem_of_getElem? (i := 105) rfl), in_tab1 _ (List.mem_of_getElem? (i := 12) rfl), by decide, by decide, by decide +kernel, by decide +kernel⟩
theorem mv_M_plans : MV y_M_plans := ⟨in_tab7 _ (List.mem_of_getElem? (i := 104) rfl), in_sel _ (List.mem_of_getElem? (i := 57) rfl)⟩
theorem mw_M_canPlan : MW y_M_canPlan 2 := ⟨in_tab7 _ (List.mem_of_getElem? (i := 101) rfl), in_tab1 _ (List.mem_of_getElem? (i := 12) rfl), by decide, by decide, by decide +kernel, by decide +kernel⟩
theorem mv_M_canPlan : MV y_M_canPlan := ⟨in_tab7 _ (List.mem_of_getElem? (i := 100) rfl), in_sel _ (List.mem_of_getElem? (i := 56) rfl)⟩
theorem mw_M_planned : MW y_M_planned 2 := ⟨in_tab7 _ (List.mem_of_getElem? (i := 97) rfl), in_tab1 _ (List.mem_of_getElem? (i := 12) rfl), by decide, by decide, by decide +kernel, by decide +kernel⟩
theorem mv_M_planned : MV y_M_planned := ⟨in_tab7 _ (List.mem_of_getElem? (i := 95) rfl), in_tab7 _ (List.mem_of_getElem? (i := 96) rfl)⟩
theorem mw_M_row : MW y_M_row 3 := ⟨in_tab7 _ (List.mem_of_getElem? (i := 147) rfl), in_tab1 _ (List.mem_of_getElem? (i := 12) rfl), by decide, by decide, by decide +kernel, by decide +kernel⟩
theorem mv_M_row : MV y_M_row := ⟨in_tab7 _ (List.mem_of_getElem? (i := 145) rfl), in_tab7 _ (List.mem_of_getElem? (i := 146) rfl)⟩
theorem mw_M_without : MW y_M_without 2 := ⟨in_tab7 _ (List.mem_of_getElem? (i := 155) rfl), in_tab1 _ (List.mem_of_getElem? (i := 12) rfl), by decide, by decide, by decide +kernel, by decide +kernel⟩
theorem mv_M_without : MV y_M_without := ⟨in_tab7 _ (List.mem_of_getElem? (i := 154) rfl), in_sel _ (List.mem_of_getElem? (i := 67) rfl)⟩
theorem mw_M_cut : MW y_M_cut 2 := ⟨in_tab7 _ (List.mem_of_getElem? (i := 151) rfl), in_tab1 _ (List.mem_of_getElem? (i := 12) rfl), by decide, by decide, by decide +kernel, by decide +kernel⟩
theorem mv_M_cut : MV y_M_cut := ⟨in_tab7 _ (List.mem_of_getElem? (i := 149) rfl), in_tab7 _ (List.mem_of_getElem? (i := 150) rfl)⟩
theorem mw_M_freed : MW y_M_freed 1 := ⟨in_tab7 _ (List.mem_of_getElem? (i := 162) rfl), in_tab1 _ (List.mem_of_getElem? (i := 12) rfl), by decide, by decide, by decide +kernel, by decide +kernel⟩
theorem mv_M_freed : MV y_M_freed := ⟨in_tab7 _ (List.mem_of_getElem? (i := 160) rfl), in_tab7 _ (List.mem_of_getElem? (i := 161) rfl)⟩
theorem mw_M_seen : MW y_M_seen 2 := ⟨in_tab7 _ (List.mem_of_getElem? (i := 166) rfl), in_tab1 _ (List.mem_of_getElem? (i := 12) rfl), by decide, by decide, by decide +kernel, by decide +kernel⟩
theorem mv_M_seen : MV y_M_seen := ⟨in_tab7 _ (List.mem_of_getElem? (i := 164) rfl), in_tab7 _ (List.mem_of_getElem? (i := 165) rfl)⟩
theorem mw_M_areSeen : MW y_M_areSeen 2 := ⟨in_tab7 _ (List.mem_of_getElem? (i := 176) rfl), in_tab1 _ (List.mem_of_getElem? (i := 12) rfl), by decide, by decide, by decide +kernel, by decide +kernel⟩
theorem mv_M_areSeen : MV y_M_areSeen := ⟨in_tab7 _ (List.mem_of_getElem? (i := 175) rfl), in_sel _ (List.mem_of_getElem? (i := 68) rfl)⟩
theorem mw_M_slipped : MW y_M_slipped 1 := ⟨in_tab7 _ (List.mem_of_getElem? (i := 172) rfl), in_tab1 _ (List.mem_of_getElem? (i := 12) rfl), by decide, by decide, by decide +kernel, by decide +kernel⟩
theorem mv_M_slipped : MV y_M_slipped := ⟨in_tab7 _ (List.mem_of_getElem? (i := 170) rfl), in_tab7 _ (List.mem_of_getElem? (i := 171) rfl)⟩
theorem mw_M_coming : MW y_M_coming 1 := ⟨in_tab7 _ (List.mem_of_getElem? (i := 180) rfl), in_tab1 _ (List.mem_of_getElem? (i := 12) rfl), by decide, by decide, by decide +kernel, by decide +kernel⟩
theorem mv_M_coming : MV y_M_coming := ⟨in_tab7 _ (List.mem_of_getElem? (i := 178) rfl), in_tab7 _ (List.mem_of_getElem? (i := 179) rfl)⟩
theorem mw_M_joinsOf : MW y_M_joinsOf 1 := ⟨in_tab7 _ (List.mem_of_getElem? (i := 220) rfl), in_tab1 _ (List.mem_of_getElem? (i := 12) rfl), by decide, by decide, by decide +kernel, by decide +kernel⟩
theorem mv_M_joinsOf : MV y_M_joinsOf := ⟨in_tab7 _ (List.mem_of_getElem? (i := 219) rfl), in_sel _ (List.mem_of_getElem? (i := 77) rfl)⟩
theorem mw_M_words : MW y_M_words 2 := ⟨in_tab7 _ (List.mem_of_getElem? (i := 212) rfl), in_tab1 _ (List.mem_of_getElem? (i := 12) rfl), by decide, by decide, by decide +kernel, by decide +kernel⟩
theorem mv_M_words : MV y_M_words := ⟨in_tab7 _ (List.mem_of_getElem? (i := 211) rfl), in_sel _ (List.mem_of_getElem? (i := 75) rfl)⟩
theorem mw_M_pushedBy : MW y_M_pushedBy 3 := ⟨in_tab7 _ (List.mem_of_getElem? (i := 208) rfl), in_tab1 _ (List.mem_of_getElem? (i := 12) rfl), by decide, by decide, by decide +kernel, by decide +kernel⟩
theorem mv_M_pushedBy : MV y_M_pushedBy := ⟨in_tab7 _ (List.mem_of_getElem? (i := 207) rfl), in_sel _ (List.mem_of_getElem? (i := 74) rfl)⟩
theorem mw_M_begins : MW y_M_begins 0 := ⟨in_tab7 _ (List.mem_of_getElem? (i := 200) rfl), in_tab1 _ (List.mem_of_getElem? (i := 12) rfl), by decide, by decide, by decide +kernel, by decide +kernel⟩
theorem mv_M_begins : MV y_M_begins := ⟨in_tab7 _ (List.mem_of_getElem? (i := 199) rfl), in_sel _ (List.mem_of_getElem? (i := 72) rfl)⟩
theorem mw_M_comes : MW y_M_comes 3 := ⟨in_tab7 _ (List.mem_of_getElem? (i := 204) rfl), in_tab1 _ (List.mem_of_getElem? (i := 12) rfl), by decide, by decide, by decide +kernel, by decide +kernel⟩
theorem mv_M_comes : MV y_M_comes := ⟨in_tab7 _ (List.mem_of_getElem? (i := 203) rfl), in_sel _ (List.mem_of_getElem? (i := 73) rfl)⟩
theorem mw_M_passesDay : MW y_M_passesDay 1 := ⟨in_tab7 _ (List.mem_of_getElem? (i := 196) rfl), in_tab1 _ (List.mem_of_getElem? (i := 12) rfl), by decide, by decide, by decide +kernel, by decide +kernel⟩
theorem mv_M_passesDay : MV y_M_passesDay := ⟨in_tab7 _ (List.mem_of_getElem? (i := 195) rfl), in_sel _ (List.mem_of_getElem? (i := 71) rfl)⟩
theorem mw_M_keeps : MW y_M_keeps 0 := ⟨in_tab8 _ (List.mem_of_getElem? (i := 7) rfl), in_tab1 _ (List.mem_of_getElem? (i := 12) rfl), by decide, by decide, by decide +kernel, by decide +kernel⟩
theorem mv_M_keeps : MV y_M_keeps := ⟨in_tab8 _ (List.mem_of_getElem? (i := 6) rfl), in_sel _ (List.mem_of_getElem? (i := 81) rfl)⟩
theorem mw_M_putsBack : MW y_M_putsBack 0 := ⟨in_tab8 _ (List.mem_of_getElem? (i := 11) rfl), in_tab1 _ (List.mem_of_getElem? (i := 12) rfl), by decide, by decide, by decide +kernel, by decide +kernel⟩
theorem mv_M_putsBack : MV y_M_putsBack := ⟨in_tab8 _ (List.mem_of_getElem? (i := 10) rfl), in_sel _ (List.mem_of_getElem? (i := 82) rfl)⟩
theorem mw_M_canPass : MW y_M_canPass 1 := ⟨in_tab7 _ (List.mem_of_getElem? (i := 188) rfl), in_tab1 _ (List.mem_of_getElem? (i := 12) rfl), by decide, by decide, by decide +kernel, by decide +kernel⟩
theorem mv_M_canPass : MV y_M_canPass := ⟨in_tab7 _ (List.mem_of_getElem? (i := 187) rfl), in_sel _ (List.mem_of_getElem? (i := 69) rfl)⟩
theorem mw_M_day : MW y_M_day 1 := ⟨in_tab7 _ (List.mem_of_getElem? (i := 184) rfl), in_tab1 _ (List.mem_of_getElem? (i := 12) rfl), by decide, by decide, by decide +kernel, by decide +kernel⟩
theorem mv_M_day : MV y_M_day := ⟨in_tab7 _ (List.mem_of_getElem? (i := 182) rfl), in_tab7 _ (List.mem_of_getElem? (i := 183) rfl)⟩
theorem mw_M_would : MW y_M_would 2 := ⟨in_tab8 _ (List.mem_of_getElem? (i := 2) rfl), in_tab1 _ (List.mem_of_getElem? (i := 12) rfl), by decide, by decide, by decide +kernel, by decide +kernel⟩
theorem mv_M_would : MV y_M_would := ⟨in_tab8 _ (List.mem_of_getElem? (i := 0) rfl), in_tab8 _ (List.mem_of_getElem? (i := 1) rfl)⟩
theorem mw_M_worn : MW y_M_worn 3 := ⟨in_tab8 _ (List.mem_of_getElem? (i := 15) rfl), in_tab1 _ (List.mem_of_getElem? (i := 12) rfl), by decide, by decide, by decide +kernel, by decide +kernel⟩
theorem mv_M_worn : MV y_M_worn := ⟨in_tab8 _ (List.mem_of_getElem? (i := 13) rfl), in_tab8 _ (List.mem_of_getElem? (i := 14) rfl)⟩
theorem mw_M_seed : MW y_M_seed 1 := ⟨in_tab8 _ (List.mem_of_getElem? (i := 19) rfl), in_tab1 _ (List.mem_of_getElem? (i := 12) rfl), by decide, by decide, by decide +kernel, by decide +kernel⟩
theorem mv_M_seed : MV y_M_seed := ⟨in_tab8 _ (List.mem_of_getElem? (i := 17) rfl), in_tab8 _ (List.mem_of_getElem? (i := 18) rfl)⟩
theorem mw_M_drawn : MW y_M_drawn 4 := ⟨in_tab8 _ (List.mem_of_getElem? (i := 23) rfl), in_tab1 _ (List.mem_of_getElem? (i := 12) rfl), by decide, by decide, by decide +kernel, by decide +kernel⟩
theorem mv_M_drawn : MV y_M_drawn := ⟨in_tab8 _ (List.mem_of_getElem? (i := 21) rfl), in_tab8 _ (List.mem_of_getElem? (i := 22) rfl)⟩
theorem mw_M_count : MW y_M_count 1 := ⟨in_tab8 _ (List.mem_of_getElem? (i := 32) rfl), in_tab1 _ (List.mem_of_getElem? (i := 12) rfl), by decide, by decide, by decide +kernel, by decide +kernel⟩
theorem mv_M_count : MV y_M_count := ⟨in_tab8 _ (List.mem_of_getElem? (i := 30) rfl), in_tab8 _ (List.mem_of_getElem? (i := 31) rfl)⟩
theorem mw_M_image : MW y_M_image 1 := ⟨in_tab8 _ (List.mem_of_getElem? (i := 36) rfl), in_tab1 _ (List.mem_of_getElem? (i := 12) rfl), by decide, by decide, by decide +kernel, by decide +kernel⟩
theorem mv_M_image : MV y_M_image := ⟨in_tab8 _ (List.mem_of_getElem? (i := 34) rfl), in_tab8 _ (List.mem_of_getElem? (i := 35) rfl)⟩
theorem mw_M_back : MW y_M_back 1 := ⟨in_tab8 _ (List.mem_of_getElem? (i := 40) rfl), in_tab1 _ (List.mem_of_getElem? (i := 12) rfl), by decide, by decide, by decide +kernel, by decide +kernel⟩
theorem mv_M_back : MV y_M_back := ⟨in_tab8 _ (List.mem_of_getElem? (i := 38) rfl), in_tab8 _ (List.mem_of_getElem? (i := 39) rfl)⟩
theorem mw_Jint_bitCount : MW y_Jint_bitCount 1 := ⟨in_tab5 _ (List.mem_of_getElem? (i := 40) rfl), in_tab1 _ (List.mem_of_getElem? (i := 19) rfl), by decide, by decide, by decide +kernel, by decide +kernel⟩
theorem ms_Jint_bitCount : Cond.static y_Jint_bitCount.1 ∈ lw_tbl := in_tab5 _ (List.mem_of_getElem? (i := 39) rfl)
theorem mw_Jmath_floorDiv : MW y_Jmath_floorDiv 2 := ⟨in_tab4 _ (List.mem_of_getElem? (i := 235) rfl), in_tab1 _ (List.mem_of_getElem? (i := 13) rfl), by decide, by decide, by decide +kernel, by decide +kernel⟩
theorem ms_Jmath_floorDiv : Cond.static y_Jmath_floorDiv.1 ∈ lw_tbl := in_tab4 _ (List.mem_of_getElem? (i := 234) rfl)
theorem mw_Jmath_floorMod : MW y_Jmath_floorMod 2 := ⟨in_tab4 _ (List.mem_of_getElem? (i := 56) rfl), in_tab1 _ (List.mem_of_getElem? (i := 13) rfl), by decide, by decide, by decide +kernel, by decide +kernel⟩
theorem ms_Jmath_floorMod : Cond.static y_Jmath_floorMod.1 ∈ lw_tbl := in_tab4 _ (List.mem_of_getElem? (i := 55) rfl)
theorem mw_Jmath_abs : MW y_Jmath_abs 1 := ⟨in_tab3 _ (List.mem_of_getElem? (i := 143) rfl), in_tab1 _ (List.mem_of_getElem? (i := 13) rfl), by decide, by decide, by decide +kernel, by decide +kernel⟩
theorem ms_Jmath_abs : Cond.static y_Jmath_abs.1 ∈ lw_tbl := in_tab3 _ (List.mem_of_getElem? (i := 142) rfl)
theorem mw_Jmath_max : MW y_Jmath_max 2 := ⟨in_tab4 _ (List.mem_of_getElem? (i := 155) rfl), in_tab1 _ (List.mem_of_getElem? (i := 13) rfl), by decide, by decide, by decide +kernel, by decide +kernel⟩
theorem ms_Jmath_max : Cond.static y_Jmath_max.1 ∈ lw_tbl := in_tab4 _ (List.mem_of_getElem? (i := 154) rfl)
theorem mw_Jmath_min_II : MW y_Jmath_min_II 2 := ⟨in_tab2 _ (List.mem_of_getElem? (i := 206) rfl), in_tab1 _ (List.mem_of_getElem? (i := 13) rfl), by decide, by decide, by decide +kernel, by decide +kernel⟩
theorem ms_Jmath_min_II : Cond.static y_Jmath_min_II.1 ∈ lw_tbl := in_tab2 _ (List.mem_of_getElem? (i := 205) rfl)
theorem mw_Jmath_min_JJ : MW y_Jmath_min_JJ 2 := ⟨in_tab4 _ (List.mem_of_getElem? (i := 152) rfl), in_tab1 _ (List.mem_of_getElem? (i := 13) rfl), by decide, by decide, by decide +kernel, by decide +kernel⟩
theorem ms_Jmath_min_JJ : Cond.static y_Jmath_min_JJ.1 ∈ lw_tbl := in_tab4 _ (List.mem_of_getElem? (i := 151) rfl)
theorem mw_Jstr_length : MW y_Jstr_length 0 := ⟨in_tab2 _ (List.mem_of_getElem? (i := 236) rfl), in_tab1 _ (List.mem_of_getElem? (i := 14) rfl), by decide, by decide, by decide +kernel, by decide +kernel⟩
theorem mv_Jstr_length : MV y_Jstr_length := ⟨in_tab2 _ (List.mem_of_getElem? (i := 234) rfl), in_tab2 _ (List.mem_of_getElem? (i := 235) rfl)⟩
theorem mw_Jstr_charAt : MW y_Jstr_charAt 1 := ⟨in_tab3 _ (List.mem_of_getElem? (i := 10) rfl), in_tab1 _ (List.mem_of_getElem? (i := 14) rfl), by decide, by decide, by decide +kernel, by decide +kernel⟩
theorem mv_Jstr_charAt : MV y_Jstr_charAt := ⟨in_tab3 _ (List.mem_of_getElem? (i := 8) rfl), in_tab3 _ (List.mem_of_getElem? (i := 9) rfl)⟩
theorem mw_Jstr_coder : MW y_Jstr_coder 0 := ⟨in_tab3 _ (List.mem_of_getElem? (i := 0) rfl), in_tab1 _ (List.mem_of_getElem? (i := 14) rfl), by decide, by decide, by decide +kernel, by decide +kernel⟩
theorem mv_Jstr_coder : MV y_Jstr_coder := ⟨in_tab2 _ (List.mem_of_getElem? (i := 238) rfl), in_tab2 _ (List.mem_of_getElem? (i := 239) rfl)⟩
theorem mw_Jstr_isLatin1 : MW y_Jstr_isLatin1 0 := ⟨in_tab3 _ (List.mem_of_getElem? (i := 14) rfl), in_tab1 _ (List.mem_of_getElem? (i := 14) rfl), by decide, by decide, by decide +kernel, by decide +kernel⟩
theorem mv_Jstr_isLatin1 : MV y_Jstr_isLatin1 := ⟨in_tab3 _ (List.mem_of_getElem? (i := 12) rfl), in_tab3 _ (List.mem_of_getElem? (i := 13) rfl)⟩
theorem mw_Jstr_checkIndex : MW y_Jstr_checkIndex 2 := ⟨in_tab3 _ (List.mem_of_getElem? (i := 20) rfl), in_tab1 _ (List.mem_of_getElem? (i := 14) rfl), by decide, by decide, by decide +kernel, by decide +kernel⟩
theorem ms_Jstr_checkIndex : Cond.static y_Jstr_checkIndex.1 ∈ lw_tbl := in_tab3 _ (List.mem_of_getElem? (i := 19) rfl)
theorem mw_Jlat_charAt : MW y_Jlat_charAt 2 := ⟨in_tab3 _ (List.mem_of_getElem? (i := 17) rfl), in_tab1 _ (List.mem_of_getElem? (i := 15) rfl), by decide, by decide, by decide +kernel, by decide +kernel⟩
theorem ms_Jlat_charAt : Cond.static y_Jlat_charAt.1 ∈ lw_tbl := in_tab3 _ (List.mem_of_getElem? (i := 16) rfl)
theorem mw_Jutf_getChar : MW y_Jutf_getChar 2 := ⟨in_tab3 _ (List.mem_of_getElem? (i := 38) rfl), in_tab1 _ (List.mem_of_getElem? (i := 17) rfl), by decide, by decide, by decide +kernel, by decide +kernel⟩
theorem ms_Jutf_getChar : Cond.static y_Jutf_getChar.1 ∈ lw_tbl := in_tab3 _ (List.mem_of_getElem? (i := 37) rfl)
theorem mw_Jutf_length : MW y_Jutf_length 1 := ⟨in_tab3 _ (List.mem_of_getElem? (i := 34) rfl), in_tab1 _ (List.mem_of_getElem? (i := 17) rfl), by decide, by decide, by decide +kernel, by decide +kernel⟩
theorem ms_Jutf_length : Cond.static y_Jutf_length.1 ∈ lw_tbl := in_tab3 _ (List.mem_of_getElem? (i := 33) rfl)
theorem mw_Jutf_charAt : MW y_Jutf_charAt 2 := ⟨in_tab3 _ (List.mem_of_getElem? (i := 28) rfl), in_tab1 _ (List.mem_of_getElem? (i := 17) rfl), by decide, by decide, by decide +kernel, by decide +kernel⟩
theorem ms_Jutf_charAt : Cond.static y_Jutf_charAt.1 ∈ lw_tbl := in_tab3 _ (List.mem_of_getElem? (i := 27) rfl)
theorem mw_Jutf_checkIndex : MW y_Jutf_checkIndex 2 := ⟨in_tab3 _ (List.mem_of_getElem? (i := 31) rfl), in_tab1 _ (List.mem_of_getElem? (i := 17) rfl), by decide, by decide, by decide +kernel, by decide +kernel⟩
theorem ms_Jutf_checkIndex : Cond.static y_Jutf_checkIndex.1 ∈ lw_tbl := in_tab3 _ (List.mem_of_getElem? (i := 30) rfl)
theorem mw_Jarr_fill_aJJ : MW y_Jarr_fill_aJJ 2 := ⟨in_tab1 _ (List.mem_of_getElem? (i := 159) rfl), in_tab1 _ (List.mem_of_getElem? (i := 5) rfl), by decide, by decide, by decide +kernel, by decide +kernel⟩
theorem ms_Jarr_fill_aJJ : Cond.static y_Jarr_fill_aJJ.1 ∈ lw_tbl := in_tab1 _ (List.mem_of_getElem? (i := 158) rfl)
theorem mw_Jarr_fill_aII : MW y_Jarr_fill_aII 2 := ⟨in_tab3 _ (List.mem_of_getElem? (i := 126) rfl), in_tab1 _ (List.mem_of_getElem? (i := 5) rfl), by decide, by decide, by decide +kernel, by decide +kernel⟩
theorem ms_Jarr_fill_aII : Cond.static y_Jarr_fill_aII.1 ∈ lw_tbl := in_tab3 _ (List.mem_of_getElem? (i := 125) rfl)
theorem mw_Jpre_checkIndex : MW y_Jpre_checkIndex 3 := ⟨in_tab3 _ (List.mem_of_getElem? (i := 25) rfl), in_tab1 _ (List.mem_of_getElem? (i := 16) rfl), by decide, by decide, by decide +kernel, by decide +kernel⟩
theorem ms_Jpre_checkIndex : Cond.static y_Jpre_checkIndex.1 ∈ lw_tbl := in_tab3 _ (List.mem_of_getElem? (i := 24) rfl)
theorem ml_D_108 : Cond.methodLink "DoorsOnCogs" 108 y_D_feedNumber.1 ∈ lw_tbl := in_tab2 _ (List.mem_of_getElem? (i := 188) rfl)
theorem ml_D_112 : Cond.methodLink "DoorsOnCogs" 112 y_Sp_open.1 ∈ lw_tbl := in_tab2 _ (List.mem_of_getElem? (i := 200) rfl)
theorem ml_D_115 : Cond.methodLink "DoorsOnCogs" 115 y_Sr_read.1 ∈ lw_tbl := in_tab2 _ (List.mem_of_getElem? (i := 207) rfl)
theorem ml_D_124 : Cond.methodLink "DoorsOnCogs" 124 y_Sc_copyFrom.1 ∈ lw_tbl := in_tab3 _ (List.mem_of_getElem? (i := 109) rfl)
theorem ml_D_127 : Cond.methodLink "DoorsOnCogs" 127 y_Ge_fit.1 ∈ lw_tbl := in_tab3 _ (List.mem_of_getElem? (i := 116) rfl)
theorem ml_D_136 : Cond.methodLink "DoorsOnCogs" 136 y_Bo_startDraft.1 ∈ lw_tbl := in_tab3 _ (List.mem_of_getElem? (i := 173) rfl)
theorem ml_D_139 : Cond.methodLink "DoorsOnCogs" 139 y_Rr_read.1 ∈ lw_tbl := in_tab3 _ (List.mem_of_getElem? (i := 177) rfl)
theorem ml_D_140 : Cond.methodLink "DoorsOnCogs" 140 y_Bo_keepDraft.1 ∈ lw_tbl := in_tab4 _ (List.mem_of_getElem? (i := 32) rfl)
theorem ml_D_144 : Cond.methodLink "DoorsOnCogs" 144 y_Sc_isDoor.1 ∈ lw_tbl := in_tab4 _ (List.mem_of_getElem? (i := 40) rfl)
theorem ml_D_157 : Cond.methodLink "DoorsOnCogs" 157 y_D_bitOf.1 ∈ lw_tbl ∨ ∃ host, Cond.methodLinkNest "DoorsOnCogs" 157 y_D_bitOf.1 host ∈ lw_tbl := Or.inl (in_tab4 _ (List.mem_of_getElem? (i := 44) rfl))
theorem ml_D_161 : Cond.methodLink "DoorsOnCogs" 161 y_Ge_isOpen.1 ∈ lw_tbl := in_tab4 _ (List.mem_of_getElem? (i := 45) rfl)
theorem ml_D_170 : Cond.methodLink "DoorsOnCogs" 170 y_D_isPart.1 ∈ lw_tbl ∨ ∃ host, Cond.methodLinkNest "DoorsOnCogs" 170 y_D_isPart.1 host ∈ lw_tbl := Or.inl (in_tab4 _ (List.mem_of_getElem? (i := 61) rfl))
theorem ml_D_182 : Cond.methodLink "DoorsOnCogs" 182 y_D_lowest.1 ∈ lw_tbl ∨ ∃ host, Cond.methodLinkNest "DoorsOnCogs" 182 y_D_lowest.1 host ∈ lw_tbl := Or.inl (in_tab4 _ (List.mem_of_getElem? (i := 65) rfl))
theorem ml_D_198 : Cond.methodLink "DoorsOnCogs" 198 y_Ge_stepOf.1 ∈ lw_tbl := in_tab4 _ (List.mem_of_getElem? (i := 74) rfl)
theorem ml_D_202 : Cond.methodLink "DoorsOnCogs" 202 y_D_can.1 ∈ lw_tbl := in_tab4 _ (List.mem_of_getElem? (i := 82) rfl)
theorem ml_D_205 : Cond.methodLink "DoorsOnCogs" 205 y_Ge_turnSet.1 ∈ lw_tbl := in_tab4 _ (List.mem_of_getElem? (i := 98) rfl)
theorem ml_D_209 : Cond.methodLink "DoorsOnCogs" 209 y_D_isWithin.1 ∈ lw_tbl ∨ ∃ host, Cond.methodLinkNest "DoorsOnCogs" 209 y_D_isWithin.1 host ∈ lw_tbl := Or.inl (in_tab4 _ (List.mem_of_getElem? (i := 86) rfl))
theorem ml_D_213 : Cond.methodLink "DoorsOnCogs" 213 y_Ge_tryPush.1 ∈ lw_tbl := in_tab4 _ (List.mem_of_getElem? (i := 89) rfl)
theorem ml_D_216 : Cond.methodLink "DoorsOnCogs" 216 y_Ge_isBeyond.1 ∈ lw_tbl := in_tab4 _ (List.mem_of_getElem? (i := 111) rfl)
theorem ml_D_220 : Cond.methodLink "DoorsOnCogs" 220 y_Sc_isSet.1 ∈ lw_tbl := in_tab4 _ (List.mem_of_getElem? (i := 116) rfl)
theorem ml_D_229 : Cond.methodLink "DoorsOnCogs" 229 y_D_isPlanOf.1 ∈ lw_tbl := in_tab4 _ (List.mem_of_getElem? (i := 124) rfl)
theorem ml_D_232 : Cond.methodLink "DoorsOnCogs" 232 y_Pl_solve.1 ∈ lw_tbl := in_tab4 _ (List.mem_of_getElem? (i := 128) rfl)
theorem ml_D_239 : Cond.methodLink "DoorsOnCogs" 239 y_Cu_fewest.1 ∈ lw_tbl := in_tab4 _ (List.mem_of_getElem? (i := 199) rfl)
theorem ml_D_248 : Cond.methodLink "DoorsOnCogs" 248 y_D_strayOf.1 ∈ lw_tbl := in_tab4 _ (List.mem_of_getElem? (i := 225) rfl)
theorem ml_D_252 : Cond.methodLink "DoorsOnCogs" 252 y_Jmath_abs.1 ∈ lw_tbl ∨ ∃ host, Cond.methodLinkNest "DoorsOnCogs" 252 y_Jmath_abs.1 host ∈ lw_tbl := Or.inl (in_tab3 _ (List.mem_of_getElem? (i := 141) rfl))
theorem ml_D_260 : Cond.methodLink "DoorsOnCogs" 260 y_Ge_wholeTeeth.1 ∈ lw_tbl := in_tab4 _ (List.mem_of_getElem? (i := 229) rfl)
theorem ml_D_269 : Cond.methodLink "DoorsOnCogs" 269 y_D_isDayBy.1 ∈ lw_tbl := in_tab5 _ (List.mem_of_getElem? (i := 5) rfl)
theorem ml_D_272 : Cond.methodLink "DoorsOnCogs" 272 y_Di_clear.1 ∈ lw_tbl := in_tab5 _ (List.mem_of_getElem? (i := 9) rfl)
theorem ml_D_275 : Cond.methodLink "DoorsOnCogs" 275 y_Di_spend.1 ∈ lw_tbl := in_tab5 _ (List.mem_of_getElem? (i := 14) rfl)
theorem ml_D_282 : Cond.methodLink "DoorsOnCogs" 282 y_D_imagineDay.1 ∈ lw_tbl := in_tab5 _ (List.mem_of_getElem? (i := 77) rfl)
theorem ml_D_286 : Cond.methodLink "DoorsOnCogs" 286 y_Di_tally.1 ∈ lw_tbl := in_tab5 _ (List.mem_of_getElem? (i := 91) rfl)
theorem ml_D_294 : Cond.methodLink "DoorsOnCogs" 294 y_Ge_keepSpots.1 ∈ lw_tbl := in_tab5 _ (List.mem_of_getElem? (i := 81) rfl)
theorem ml_D_297 : Cond.methodLink "DoorsOnCogs" 297 y_Ge_openSet.1 ∈ lw_tbl := in_tab5 _ (List.mem_of_getElem? (i := 86) rfl)
theorem ml_D_300 : Cond.methodLink "DoorsOnCogs" 300 y_Ge_takeSpotsBack.1 ∈ lw_tbl := in_tab5 _ (List.mem_of_getElem? (i := 87) rfl)
theorem ml_D_303 : Cond.methodLink "DoorsOnCogs" 303 y_D_drawComings.1 ∈ lw_tbl := in_tab5 _ (List.mem_of_getElem? (i := 108) rfl)
theorem ml_D_318 : Cond.methodLink "DoorsOnCogs" 318 y_D_divisorOf.1 ∈ lw_tbl ∨ ∃ host, Cond.methodLinkNest "DoorsOnCogs" 318 y_D_divisorOf.1 host ∈ lw_tbl := Or.inl (in_tab3 _ (List.mem_of_getElem? (i := 167) rfl))
theorem ml_Cu_36 : Cond.methodLink "DoorsOnCogs$Cutter" 36 y_Cu_isEnough.1 ∈ lw_tbl := in_tab4 _ (List.mem_of_getElem? (i := 203) rfl)
theorem ml_Cu_40 : Cond.methodLink "DoorsOnCogs$Cutter" 40 y_Cu_nextOfSize.1 ∈ lw_tbl ∨ ∃ host, Cond.methodLinkNest "DoorsOnCogs$Cutter" 40 y_Cu_nextOfSize.1 host ∈ lw_tbl := Or.inl (in_tab4 _ (List.mem_of_getElem? (i := 209) rfl))
theorem ml_Cu_45 : Cond.methodLink "DoorsOnCogs$Cutter" 45 y_Ge_hang.1 ∈ lw_tbl := in_tab4 _ (List.mem_of_getElem? (i := 207) rfl)
theorem ml_Cu_52 : Cond.methodLink "DoorsOnCogs$Cutter" 52 y_D_bitOf.1 ∈ lw_tbl ∨ ∃ host, Cond.methodLinkNest "DoorsOnCogs$Cutter" 52 y_D_bitOf.1 host ∈ lw_tbl := Or.inr ⟨"DoorsOnCogs", in_tab4 _ (List.mem_of_getElem? (i := 208) rfl)⟩
theorem ml_Di_33 : Cond.methodLink "DoorsOnCogs$Diary" 33 y_Jarr_fill_aJJ.1 ∈ lw_tbl ∨ ∃ host, Cond.methodLinkNest "DoorsOnCogs$Diary" 33 y_Jarr_fill_aJJ.1 host ∈ lw_tbl := Or.inl (in_tab5 _ (List.mem_of_getElem? (i := 13) rfl))
theorem ml_Di_45 : Cond.methodLink "DoorsOnCogs$Diary" 45 y_Sc_isDoor.1 ∈ lw_tbl := in_tab5 _ (List.mem_of_getElem? (i := 18) rfl)
theorem ml_Di_51 : Cond.methodLink "DoorsOnCogs$Diary" 51 y_Ge_isOpen.1 ∈ lw_tbl := in_tab5 _ (List.mem_of_getElem? (i := 19) rfl)
theorem ml_Di_54 : Cond.methodLink "DoorsOnCogs$Diary" 54 y_Bo_teethFor.1 ∈ lw_tbl := in_tab5 _ (List.mem_of_getElem? (i := 20) rfl)
theorem ml_Di_60 : Cond.methodLink "DoorsOnCogs$Diary" 60 y_Di_pushBy.1 ∈ lw_tbl := in_tab5 _ (List.mem_of_getElem? (i := 65) rfl)
theorem ml_Di_64 : Cond.methodLink "DoorsOnCogs$Diary" 64 y_Ge_tryPush.1 ∈ lw_tbl := in_tab5 _ (List.mem_of_getElem? (i := 69) rfl)
theorem ml_Di_68 : Cond.methodLink "DoorsOnCogs$Diary" 68 y_Ge_turnSet.1 ∈ lw_tbl := in_tab5 _ (List.mem_of_getElem? (i := 70) rfl)
theorem ml_Di_78 : Cond.methodLink "DoorsOnCogs$Diary" 78 y_Ge_stepOf.1 ∈ lw_tbl := in_tab5 _ (List.mem_of_getElem? (i := 71) rfl)
theorem ml_Di_82 : Cond.methodLink "DoorsOnCogs$Diary" 82 y_Jmath_abs.1 ∈ lw_tbl ∨ ∃ host, Cond.methodLinkNest "DoorsOnCogs$Diary" 82 y_Jmath_abs.1 host ∈ lw_tbl := Or.inl (in_tab5 _ (List.mem_of_getElem? (i := 72) rfl))
theorem ml_Ge_35 : Cond.methodLink "DoorsOnCogs$Gears" 35 y_Jarr_fill_aJJ.1 ∈ lw_tbl ∨ ∃ host, Cond.methodLinkNest "DoorsOnCogs$Gears" 35 y_Jarr_fill_aJJ.1 host ∈ lw_tbl := Or.inl (in_tab1 _ (List.mem_of_getElem? (i := 157) rfl))
theorem ml_Ge_41 : Cond.methodLink "DoorsOnCogs$Gears" 41 y_Ge_hang.1 ∈ lw_tbl := in_tab3 _ (List.mem_of_getElem? (i := 120) rfl)
theorem ml_Ge_45 : Cond.methodLink "DoorsOnCogs$Gears" 45 y_Ge_measure.1 ∈ lw_tbl := in_tab3 _ (List.mem_of_getElem? (i := 152) rfl)
theorem ml_Ge_48 : Cond.methodLink "DoorsOnCogs$Gears" 48 y_Jarr_fill_aII.1 ∈ lw_tbl ∨ ∃ host, Cond.methodLinkNest "DoorsOnCogs$Gears" 48 y_Jarr_fill_aII.1 host ∈ lw_tbl := Or.inl (in_tab3 _ (List.mem_of_getElem? (i := 124) rfl))
theorem ml_Ge_63 : Cond.methodLink "DoorsOnCogs$Gears" 63 y_Ge_gather.1 ∈ lw_tbl := in_tab3 _ (List.mem_of_getElem? (i := 127) rfl)
theorem ml_Ge_70 : Cond.methodLink "DoorsOnCogs$Gears" 70 y_D_bitOf.1 ∈ lw_tbl ∨ ∃ host, Cond.methodLinkNest "DoorsOnCogs$Gears" 70 y_D_bitOf.1 host ∈ lw_tbl := Or.inr ⟨"DoorsOnCogs", in_tab3 _ (List.mem_of_getElem? (i := 131) rfl)⟩
theorem ml_Ge_74 : Cond.methodLink "DoorsOnCogs$Gears" 74 y_Ge_agrees.1 ∈ lw_tbl := in_tab3 _ (List.mem_of_getElem? (i := 144) rfl)
theorem ml_Ge_81 : Cond.methodLink "DoorsOnCogs$Gears" 81 y_Ge_setOf.1 ∈ lw_tbl := in_tab3 _ (List.mem_of_getElem? (i := 148) rfl)
theorem ml_Ge_91 : Cond.methodLink "DoorsOnCogs$Gears" 91 y_Ge_hangOn.1 ∈ lw_tbl := in_tab3 _ (List.mem_of_getElem? (i := 134) rfl)
theorem ml_Ge_98 : Cond.methodLink "DoorsOnCogs$Gears" 98 y_D_divisorOf.1 ∈ lw_tbl ∨ ∃ host, Cond.methodLinkNest "DoorsOnCogs$Gears" 98 y_D_divisorOf.1 host ∈ lw_tbl := Or.inr ⟨"DoorsOnCogs", in_tab3 _ (List.mem_of_getElem? (i := 138) rfl)⟩
theorem ml_Ge_102 : Cond.methodLink "DoorsOnCogs$Gears" 102 y_Ge_canTurn.1 ∈ lw_tbl := in_tab3 _ (List.mem_of_getElem? (i := 156) rfl)
theorem ml_Ge_106 : Cond.methodLink "DoorsOnCogs$Gears" 106 y_Ge_ratioOf.1 ∈ lw_tbl := in_tab3 _ (List.mem_of_getElem? (i := 160) rfl)
theorem ml_Ge_110 : Cond.methodLink "DoorsOnCogs$Gears" 110 y_D_lowest.1 ∈ lw_tbl ∨ ∃ host, Cond.methodLinkNest "DoorsOnCogs$Gears" 110 y_D_lowest.1 host ∈ lw_tbl := Or.inr ⟨"DoorsOnCogs", in_tab3 _ (List.mem_of_getElem? (i := 164) rfl)⟩
theorem ml_Ge_120 : Cond.methodLink "DoorsOnCogs$Gears" 120 y_Ge_stepOf.1 ∈ lw_tbl := in_tab4 _ (List.mem_of_getElem? (i := 93) rfl)
theorem ml_Ge_124 : Cond.methodLink "DoorsOnCogs$Gears" 124 y_Ge_isBeyond.1 ∈ lw_tbl := in_tab4 _ (List.mem_of_getElem? (i := 94) rfl)
theorem ml_Ge_131 : Cond.methodLink "DoorsOnCogs$Gears" 131 y_Ge_isOpenAt.1 ∈ lw_tbl := in_tab4 _ (List.mem_of_getElem? (i := 49) rfl)
theorem ml_Ge_136 : Cond.methodLink "DoorsOnCogs$Gears" 136 y_Jmath_floorMod.1 ∈ lw_tbl ∨ ∃ host, Cond.methodLinkNest "DoorsOnCogs$Gears" 136 y_Jmath_floorMod.1 host ∈ lw_tbl := Or.inl (in_tab4 _ (List.mem_of_getElem? (i := 54) rfl))
theorem ml_Ge_141 : Cond.methodLink "DoorsOnCogs$Gears" 141 y_Jmath_floorDiv.1 ∈ lw_tbl ∨ ∃ host, Cond.methodLinkNest "DoorsOnCogs$Gears" 141 y_Jmath_floorDiv.1 host ∈ lw_tbl := Or.inl (in_tab4 _ (List.mem_of_getElem? (i := 233) rfl))
theorem ml_Pl_47 : Cond.methodLink "DoorsOnCogs$Planner" 47 y_Pl_choose.1 ∈ lw_tbl := in_tab4 _ (List.mem_of_getElem? (i := 132) rfl)
theorem ml_Pl_51 : Cond.methodLink "DoorsOnCogs$Planner" 51 y_Pl_isAsWanted.1 ∈ lw_tbl := in_tab4 _ (List.mem_of_getElem? (i := 156) rfl)
theorem ml_Pl_55 : Cond.methodLink "DoorsOnCogs$Planner" 55 y_Pl_search.1 ∈ lw_tbl := in_tab4 _ (List.mem_of_getElem? (i := 165) rfl)
theorem ml_Pl_59 : Cond.methodLink "DoorsOnCogs$Planner" 59 y_Pl_followBack.1 ∈ lw_tbl := in_tab4 _ (List.mem_of_getElem? (i := 187) rfl)
theorem ml_Pl_63 : Cond.methodLink "DoorsOnCogs$Planner" 63 y_Ge_setOf.1 ∈ lw_tbl := in_tab4 _ (List.mem_of_getElem? (i := 136) rfl)
theorem ml_Pl_84 : Cond.methodLink "DoorsOnCogs$Planner" 84 y_D_bitOf.1 ∈ lw_tbl ∨ ∃ host, Cond.methodLinkNest "DoorsOnCogs$Planner" 84 y_D_bitOf.1 host ∈ lw_tbl := Or.inr ⟨"DoorsOnCogs", in_tab4 _ (List.mem_of_getElem? (i := 137) rfl)⟩
theorem ml_Pl_93 : Cond.methodLink "DoorsOnCogs$Planner" 93 y_Pl_isPushedAlike.1 ∈ lw_tbl := in_tab4 _ (List.mem_of_getElem? (i := 138) rfl)
theorem ml_Pl_97 : Cond.methodLink "DoorsOnCogs$Planner" 97 y_Pl_bound.1 ∈ lw_tbl := in_tab4 _ (List.mem_of_getElem? (i := 144) rfl)
theorem ml_Pl_101 : Cond.methodLink "DoorsOnCogs$Planner" 101 y_Ge_stepOf.1 ∈ lw_tbl := in_tab4 _ (List.mem_of_getElem? (i := 142) rfl)
theorem ml_Pl_105 : Cond.methodLink "DoorsOnCogs$Planner" 105 y_Jmath_abs.1 ∈ lw_tbl ∨ ∃ host, Cond.methodLinkNest "DoorsOnCogs$Planner" 105 y_Jmath_abs.1 host ∈ lw_tbl := Or.inl (in_tab4 _ (List.mem_of_getElem? (i := 143) rfl))
theorem ml_Pl_131 : Cond.methodLink "DoorsOnCogs$Planner" 131 y_Jmath_min_JJ.1 ∈ lw_tbl ∨ ∃ host, Cond.methodLinkNest "DoorsOnCogs$Planner" 131 y_Jmath_min_JJ.1 host ∈ lw_tbl := Or.inl (in_tab4 _ (List.mem_of_getElem? (i := 150) rfl))
theorem ml_Pl_135 : Cond.methodLink "DoorsOnCogs$Planner" 135 y_Jmath_max.1 ∈ lw_tbl ∨ ∃ host, Cond.methodLinkNest "DoorsOnCogs$Planner" 135 y_Jmath_max.1 host ∈ lw_tbl := Or.inl (in_tab4 _ (List.mem_of_getElem? (i := 153) rfl))
theorem ml_Pl_138 : Cond.methodLink "DoorsOnCogs$Planner" 138 y_Jarr_fill_aII.1 ∈ lw_tbl ∨ ∃ host, Cond.methodLinkNest "DoorsOnCogs$Planner" 138 y_Jarr_fill_aII.1 host ∈ lw_tbl := Or.inl (in_tab4 _ (List.mem_of_getElem? (i := 169) rfl))
theorem ml_Pl_147 : Cond.methodLink "DoorsOnCogs$Planner" 147 y_Pl_isKnown.1 ∈ lw_tbl := in_tab4 _ (List.mem_of_getElem? (i := 170) rfl)
theorem ml_Pl_150 : Cond.methodLink "DoorsOnCogs$Planner" 150 y_Pl_addState.1 ∈ lw_tbl := in_tab4 _ (List.mem_of_getElem? (i := 175) rfl)
theorem ml_Pl_154 : Cond.methodLink "DoorsOnCogs$Planner" 154 y_Pl_spread.1 ∈ lw_tbl := in_tab4 _ (List.mem_of_getElem? (i := 179) rfl)
theorem ml_Pl_157 : Cond.methodLink "DoorsOnCogs$Planner" 157 y_Pl_isWatchedOpen.1 ∈ lw_tbl := in_tab4 _ (List.mem_of_getElem? (i := 183) rfl)
theorem ml_Pl_165 : Cond.methodLink "DoorsOnCogs$Planner" 165 y_Pl_isOpenBehind.1 ∈ lw_tbl := in_tab4 _ (List.mem_of_getElem? (i := 160) rfl)
theorem ml_Pl_169 : Cond.methodLink "DoorsOnCogs$Planner" 169 y_Ge_isOpenAt.1 ∈ lw_tbl := in_tab4 _ (List.mem_of_getElem? (i := 164) rfl)
theorem ml_Bo_33 : Cond.methodLink "DoorsOnCogs$RuleBook" 33 y_Bo_put.1 ∈ lw_tbl := in_tab5 _ (List.mem_of_getElem? (i := 24) rfl)
theorem ml_Bo_37 : Cond.methodLink "DoorsOnCogs$RuleBook" 37 y_Bo_wordOf.1 ∈ lw_tbl := in_tab5 _ (List.mem_of_getElem? (i := 28) rfl)
theorem ml_Bo_41 : Cond.methodLink "DoorsOnCogs$RuleBook" 41 y_Bo_take.1 ∈ lw_tbl := in_tab5 _ (List.mem_of_getElem? (i := 48) rfl)
theorem ml_Bo_45 : Cond.methodLink "DoorsOnCogs$RuleBook" 45 y_Bo_joined.1 ∈ lw_tbl ∨ ∃ host, Cond.methodLinkNest "DoorsOnCogs$RuleBook" 45 y_Bo_joined.1 host ∈ lw_tbl := Or.inl (in_tab5 _ (List.mem_of_getElem? (i := 52) rfl))
theorem ml_Bo_49 : Cond.methodLink "DoorsOnCogs$RuleBook" 49 y_Bo_held.1 ∈ lw_tbl ∨ ∃ host, Cond.methodLinkNest "DoorsOnCogs$RuleBook" 49 y_Bo_held.1 host ∈ lw_tbl := Or.inl (in_tab5 _ (List.mem_of_getElem? (i := 58) rfl))
theorem ml_Bo_57 : Cond.methodLink "DoorsOnCogs$RuleBook" 57 y_Jmath_min_JJ.1 ∈ lw_tbl ∨ ∃ host, Cond.methodLinkNest "DoorsOnCogs$RuleBook" 57 y_Jmath_min_JJ.1 host ∈ lw_tbl := Or.inl (in_tab5 _ (List.mem_of_getElem? (i := 63) rfl))
theorem ml_Bo_63 : Cond.methodLink "DoorsOnCogs$RuleBook" 63 y_Jmath_max.1 ∈ lw_tbl ∨ ∃ host, Cond.methodLinkNest "DoorsOnCogs$RuleBook" 63 y_Jmath_max.1 host ∈ lw_tbl := Or.inl (in_tab5 _ (List.mem_of_getElem? (i := 64) rfl))
theorem ml_Bo_80 : Cond.methodLink "DoorsOnCogs$RuleBook" 80 y_Ge_wholeTeeth.1 ∈ lw_tbl := in_tab5 _ (List.mem_of_getElem? (i := 32) rfl)
theorem ml_Bo_84 : Cond.methodLink "DoorsOnCogs$RuleBook" 84 y_Ge_isOpen.1 ∈ lw_tbl := in_tab5 _ (List.mem_of_getElem? (i := 33) rfl)
theorem ml_Bo_88 : Cond.methodLink "DoorsOnCogs$RuleBook" 88 y_Ge_openSet.1 ∈ lw_tbl := in_tab5 _ (List.mem_of_getElem? (i := 34) rfl)
theorem ml_Bo_92 : Cond.methodLink "DoorsOnCogs$RuleBook" 92 y_Jint_bitCount.1 ∈ lw_tbl ∨ ∃ host, Cond.methodLinkNest "DoorsOnCogs$RuleBook" 92 y_Jint_bitCount.1 host ∈ lw_tbl := Or.inl (in_tab5 _ (List.mem_of_getElem? (i := 38) rfl))
theorem ml_Bo_98 : Cond.methodLink "DoorsOnCogs$RuleBook" 98 y_Sc_joinsOf.1 ∈ lw_tbl := in_tab5 _ (List.mem_of_getElem? (i := 44) rfl)
theorem ml_Bo_115 : Cond.methodLink "DoorsOnCogs$RuleBook" 115 y_Bo_holds.1 ∈ lw_tbl ∨ ∃ host, Cond.methodLinkNest "DoorsOnCogs$RuleBook" 115 y_Bo_holds.1 host ∈ lw_tbl := Or.inl (in_tab5 _ (List.mem_of_getElem? (i := 55) rfl))
theorem ml_Rr_42 : Cond.methodLink "DoorsOnCogs$RuleReader" 42 y_Rr_startClause.1 ∈ lw_tbl := in_tab3 _ (List.mem_of_getElem? (i := 181) rfl)
theorem ml_Rr_45 : Cond.methodLink "DoorsOnCogs$RuleReader" 45 y_Sp_isSound.1 ∈ lw_tbl := in_tab3 _ (List.mem_of_getElem? (i := 189) rfl)
theorem ml_Rr_51 : Cond.methodLink "DoorsOnCogs$RuleReader" 51 y_Rr_isOpener.1 ∈ lw_tbl := in_tab3 _ (List.mem_of_getElem? (i := 190) rfl)
theorem ml_Rr_54 : Cond.methodLink "DoorsOnCogs$RuleReader" 54 y_Rr_readOpener.1 ∈ lw_tbl := in_tab3 _ (List.mem_of_getElem? (i := 196) rfl)
theorem ml_Rr_57 : Cond.methodLink "DoorsOnCogs$RuleReader" 57 y_Rr_readValue.1 ∈ lw_tbl := in_tab3 _ (List.mem_of_getElem? (i := 205) rfl)
theorem ml_Rr_60 : Cond.methodLink "DoorsOnCogs$RuleReader" 60 y_Rr_readBehind.1 ∈ lw_tbl := in_tab3 _ (List.mem_of_getElem? (i := 234) rfl)
theorem ml_Rr_65 : Cond.methodLink "DoorsOnCogs$RuleReader" 65 y_Sp_isAtWord.1 ∈ lw_tbl := in_tab3 _ (List.mem_of_getElem? (i := 186) rfl)
theorem ml_Rr_72 : Cond.methodLink "DoorsOnCogs$RuleReader" 72 y_Sp_fail.1 ∈ lw_tbl := in_tab3 _ (List.mem_of_getElem? (i := 187) rfl)
theorem ml_Rr_76 : Cond.methodLink "DoorsOnCogs$RuleReader" 76 y_Sp_takeWord.1 ∈ lw_tbl := in_tab3 _ (List.mem_of_getElem? (i := 188) rfl)
theorem ml_Rr_79 : Cond.methodLink "DoorsOnCogs$RuleReader" 79 y_Sp_nextSign.1 ∈ lw_tbl := in_tab3 _ (List.mem_of_getElem? (i := 194) rfl)
theorem ml_Rr_85 : Cond.methodLink "DoorsOnCogs$RuleReader" 85 y_Sp_takeSign.1 ∈ lw_tbl := in_tab3 _ (List.mem_of_getElem? (i := 200) rfl)
theorem ml_Rr_89 : Cond.methodLink "DoorsOnCogs$RuleReader" 89 y_Rr_hold.1 ∈ lw_tbl := in_tab3 _ (List.mem_of_getElem? (i := 201) rfl)
theorem ml_Rr_95 : Cond.methodLink "DoorsOnCogs$RuleReader" 95 y_Sp_isAtDigit.1 ∈ lw_tbl := in_tab3 _ (List.mem_of_getElem? (i := 209) rfl)
theorem ml_Rr_98 : Cond.methodLink "DoorsOnCogs$RuleReader" 98 y_Sp_takeNumber.1 ∈ lw_tbl := in_tab3 _ (List.mem_of_getElem? (i := 210) rfl)
theorem ml_Rr_101 : Cond.methodLink "DoorsOnCogs$RuleReader" 101 y_Rr_takeValueWord.1 ∈ lw_tbl := in_tab3 _ (List.mem_of_getElem? (i := 211) rfl)
theorem ml_Rr_104 : Cond.methodLink "DoorsOnCogs$RuleReader" 104 y_Rr_isRoomForValue.1 ∈ lw_tbl := in_tab3 _ (List.mem_of_getElem? (i := 226) rfl)
theorem ml_Rr_108 : Cond.methodLink "DoorsOnCogs$RuleReader" 108 y_Bo_emit.1 ∈ lw_tbl := in_tab3 _ (List.mem_of_getElem? (i := 230) rfl)
theorem ml_Rr_111 : Cond.methodLink "DoorsOnCogs$RuleReader" 111 y_Bo_spelling.1 ∈ lw_tbl ∨ ∃ host, Cond.methodLinkNest "DoorsOnCogs$RuleReader" 111 y_Bo_spelling.1 host ∈ lw_tbl := Or.inl (in_tab3 _ (List.mem_of_getElem? (i := 215) rfl))
theorem ml_Rr_115 : Cond.methodLink "DoorsOnCogs$RuleReader" 115 y_Bo_reckoningOf.1 ∈ lw_tbl ∨ ∃ host, Cond.methodLinkNest "DoorsOnCogs$RuleReader" 115 y_Bo_reckoningOf.1 host ∈ lw_tbl := Or.inl (in_tab3 _ (List.mem_of_getElem? (i := 238) rfl))
theorem ml_Rr_119 : Cond.methodLink "DoorsOnCogs$RuleReader" 119 y_Rr_joinBy.1 ∈ lw_tbl := in_tab4 _ (List.mem_of_getElem? (i := 1) rfl)
theorem ml_Rr_122 : Cond.methodLink "DoorsOnCogs$RuleReader" 122 y_Rr_readComparison.1 ∈ lw_tbl := in_tab4 _ (List.mem_of_getElem? (i := 12) rfl)
theorem ml_Rr_127 : Cond.methodLink "DoorsOnCogs$RuleReader" 127 y_Rr_settle.1 ∈ lw_tbl := in_tab4 _ (List.mem_of_getElem? (i := 5) rfl)
theorem ml_Rr_134 : Cond.methodLink "DoorsOnCogs$RuleReader" 134 y_Rr_readClosing.1 ∈ lw_tbl := in_tab4 _ (List.mem_of_getElem? (i := 23) rfl)
theorem ml_Rr_137 : Cond.methodLink "DoorsOnCogs$RuleReader" 137 y_Rr_endClause.1 ∈ lw_tbl := in_tab4 _ (List.mem_of_getElem? (i := 27) rfl)
theorem ml_Rr_140 : Cond.methodLink "DoorsOnCogs$RuleReader" 140 y_Sp_byteAt.1 ∈ lw_tbl := in_tab4 _ (List.mem_of_getElem? (i := 16) rfl)
theorem ml_Rr_143 : Cond.methodLink "DoorsOnCogs$RuleReader" 143 y_Bo_comparisonOf.1 ∈ lw_tbl ∨ ∃ host, Cond.methodLinkNest "DoorsOnCogs$RuleReader" 143 y_Bo_comparisonOf.1 host ∈ lw_tbl := Or.inl (in_tab4 _ (List.mem_of_getElem? (i := 17) rfl))
theorem ml_Rr_147 : Cond.methodLink "DoorsOnCogs$RuleReader" 147 y_Sp_takeClauseBreak.1 ∈ lw_tbl := in_tab4 _ (List.mem_of_getElem? (i := 31) rfl)
theorem ml_Rr_150 : Cond.methodLink "DoorsOnCogs$RuleReader" 150 y_Bo_bondOf.1 ∈ lw_tbl ∨ ∃ host, Cond.methodLinkNest "DoorsOnCogs$RuleReader" 150 y_Bo_bondOf.1 host ∈ lw_tbl := Or.inl (in_tab4 _ (List.mem_of_getElem? (i := 9) rfl))
theorem ml_Sc_50 : Cond.methodLink "DoorsOnCogs$Scene" 50 y_Jarr_fill_aJJ.1 ∈ lw_tbl ∨ ∃ host, Cond.methodLinkNest "DoorsOnCogs$Scene" 50 y_Jarr_fill_aJJ.1 host ∈ lw_tbl := Or.inl (in_tab2 _ (List.mem_of_getElem? (i := 215) rfl))
theorem ml_Sp_15 : Cond.methodLink "DoorsOnCogs$Script" 15 y_Jmath_min_II.1 ∈ lw_tbl ∨ ∃ host, Cond.methodLinkNest "DoorsOnCogs$Script" 15 y_Jmath_min_II.1 host ∈ lw_tbl := Or.inl (in_tab2 _ (List.mem_of_getElem? (i := 204) rfl))
theorem ml_Sp_31 : Cond.methodLink "DoorsOnCogs$Script" 31 y_Sp_nextSign.1 ∈ lw_tbl := in_tab2 _ (List.mem_of_getElem? (i := 229) rfl)
theorem ml_Sp_35 : Cond.methodLink "DoorsOnCogs$Script" 35 y_Jstr_length.1 ∈ lw_tbl := in_tab2 _ (List.mem_of_getElem? (i := 233) rfl)
theorem ml_Sp_39 : Cond.methodLink "DoorsOnCogs$Script" 39 y_Sp_byteAt.1 ∈ lw_tbl := in_tab3 _ (List.mem_of_getElem? (i := 3) rfl)
theorem ml_Sp_43 : Cond.methodLink "DoorsOnCogs$Script" 43 y_Jstr_charAt.1 ∈ lw_tbl := in_tab3 _ (List.mem_of_getElem? (i := 7) rfl)
theorem ml_Sp_47 : Cond.methodLink "DoorsOnCogs$Script" 47 y_Sp_isAtWord.1 ∈ lw_tbl := in_tab3 _ (List.mem_of_getElem? (i := 65) rfl)
theorem ml_Sp_51 : Cond.methodLink "DoorsOnCogs$Script" 51 y_Sp_isAtDigit.1 ∈ lw_tbl := in_tab3 _ (List.mem_of_getElem? (i := 75) rfl)
theorem ml_Sp_55 : Cond.methodLink "DoorsOnCogs$Script" 55 y_Sp_fail.1 ∈ lw_tbl := in_tab3 _ (List.mem_of_getElem? (i := 79) rfl)
theorem ml_Sp_59 : Cond.methodLink "DoorsOnCogs$Script" 59 y_Sp_takeSign.1 ∈ lw_tbl := in_tab3 _ (List.mem_of_getElem? (i := 105) rfl)
theorem ml_Sr_19 : Cond.methodLink "DoorsOnCogs$StreetReader" 19 y_Sc_clear.1 ∈ lw_tbl := in_tab2 _ (List.mem_of_getElem? (i := 211) rfl)
theorem ml_Sr_24 : Cond.methodLink "DoorsOnCogs$StreetReader" 24 y_Sr_readClause.1 ∈ lw_tbl := in_tab2 _ (List.mem_of_getElem? (i := 216) rfl)
theorem ml_Sr_28 : Cond.methodLink "DoorsOnCogs$StreetReader" 28 y_Sp_isSound.1 ∈ lw_tbl := in_tab3 _ (List.mem_of_getElem? (i := 80) rfl)
theorem ml_Sr_34 : Cond.methodLink "DoorsOnCogs$StreetReader" 34 y_Sp_takeClauseBreak.1 ∈ lw_tbl := in_tab3 _ (List.mem_of_getElem? (i := 101) rfl)
theorem ml_Sr_44 : Cond.methodLink "DoorsOnCogs$StreetReader" 44 y_Sp_fail.1 ∈ lw_tbl := in_tab3 _ (List.mem_of_getElem? (i := 49) rfl)
theorem ml_Sr_48 : Cond.methodLink "DoorsOnCogs$StreetReader" 48 y_Sr_clauseAtHand.1 ∈ lw_tbl := in_tab2 _ (List.mem_of_getElem? (i := 220) rfl)
theorem ml_Sr_55 : Cond.methodLink "DoorsOnCogs$StreetReader" 55 y_Sr_isFullFor.1 ∈ lw_tbl := in_tab3 _ (List.mem_of_getElem? (i := 53) rfl)
theorem ml_Sr_59 : Cond.methodLink "DoorsOnCogs$StreetReader" 59 y_Sr_readDoor.1 ∈ lw_tbl := in_tab3 _ (List.mem_of_getElem? (i := 57) rfl)
theorem ml_Sr_62 : Cond.methodLink "DoorsOnCogs$StreetReader" 62 y_Sr_readFixed.1 ∈ lw_tbl := in_tab3 _ (List.mem_of_getElem? (i := 88) rfl)
theorem ml_Sr_65 : Cond.methodLink "DoorsOnCogs$StreetReader" 65 y_Sr_readJoin.1 ∈ lw_tbl := in_tab3 _ (List.mem_of_getElem? (i := 92) rfl)
theorem ml_Sr_70 : Cond.methodLink "DoorsOnCogs$StreetReader" 70 y_Sp_isAtWord.1 ∈ lw_tbl := in_tab2 _ (List.mem_of_getElem? (i := 225) rfl)
theorem ml_Sr_88 : Cond.methodLink "DoorsOnCogs$StreetReader" 88 y_Sp_takeWord.1 ∈ lw_tbl := in_tab3 _ (List.mem_of_getElem? (i := 61) rfl)
theorem ml_Sr_91 : Cond.methodLink "DoorsOnCogs$StreetReader" 91 y_Sr_numberWithin.1 ∈ lw_tbl := in_tab3 _ (List.mem_of_getElem? (i := 66) rfl)
theorem ml_Sr_95 : Cond.methodLink "DoorsOnCogs$StreetReader" 95 y_Sc_addDoor.1 ∈ lw_tbl := in_tab3 _ (List.mem_of_getElem? (i := 84) rfl)
theorem ml_Sr_100 : Cond.methodLink "DoorsOnCogs$StreetReader" 100 y_Jstr_length.1 ∈ lw_tbl := in_tab3 _ (List.mem_of_getElem? (i := 96) rfl)
theorem ml_Sr_104 : Cond.methodLink "DoorsOnCogs$StreetReader" 104 y_Sc_addJoin.1 ∈ lw_tbl := in_tab3 _ (List.mem_of_getElem? (i := 97) rfl)
theorem ml_Sr_108 : Cond.methodLink "DoorsOnCogs$StreetReader" 108 y_Sp_nextSign.1 ∈ lw_tbl := in_tab3 _ (List.mem_of_getElem? (i := 70) rfl)
theorem ml_Sr_111 : Cond.methodLink "DoorsOnCogs$StreetReader" 111 y_Sp_takeNumber.1 ∈ lw_tbl := in_tab3 _ (List.mem_of_getElem? (i := 71) rfl)
theorem ml_La_13 : Cond.methodLink "DoorsOnCogsLaw" 13 y_D_feed.1 ∈ lw_tbl := in_tab2 _ (List.mem_of_getElem? (i := 184) rfl)
theorem ml_La_17 : Cond.methodLink "DoorsOnCogsLaw" 17 y_M_feed.1 ∈ lw_tbl := in_tab6 _ (List.mem_of_getElem? (i := 36) rfl)
theorem ml_La_18 : Cond.methodLink "DoorsOnCogsLaw" 18 y_D_end.1 ∈ lw_tbl := in_tab2 _ (List.mem_of_getElem? (i := 192) rfl)
theorem ml_La_22 : Cond.methodLink "DoorsOnCogsLaw" 22 y_M_end.1 ∈ lw_tbl := in_tab6 _ (List.mem_of_getElem? (i := 44) rfl)
theorem ml_La_23 : Cond.methodLink "DoorsOnCogsLaw" 23 y_D_street.1 ∈ lw_tbl := in_tab2 _ (List.mem_of_getElem? (i := 196) rfl)
theorem ml_La_27 : Cond.methodLink "DoorsOnCogsLaw" 27 y_M_street.1 ∈ lw_tbl := in_tab6 _ (List.mem_of_getElem? (i := 188) rfl)
theorem ml_La_28 : Cond.methodLink "DoorsOnCogsLaw" 28 y_D_rule.1 ∈ lw_tbl := in_tab3 _ (List.mem_of_getElem? (i := 169) rfl)
theorem ml_La_31 : Cond.methodLink "DoorsOnCogsLaw" 31 y_M_rule.1 ∈ lw_tbl := in_tab6 _ (List.mem_of_getElem? (i := 48) rfl)
theorem ml_La_32 : Cond.methodLink "DoorsOnCogsLaw" 32 y_D_door.1 ∈ lw_tbl := in_tab4 _ (List.mem_of_getElem? (i := 36) rfl)
theorem ml_La_36 : Cond.methodLink "DoorsOnCogsLaw" 36 y_M_door.1 ∈ lw_tbl := in_tab6 _ (List.mem_of_getElem? (i := 238) rfl)
theorem ml_La_37 : Cond.methodLink "DoorsOnCogsLaw" 37 y_D_place.1 ∈ lw_tbl := in_tab4 _ (List.mem_of_getElem? (i := 57) rfl)
theorem ml_La_41 : Cond.methodLink "DoorsOnCogsLaw" 41 y_M_place.1 ∈ lw_tbl := in_tab7 _ (List.mem_of_getElem? (i := 23) rfl)
theorem ml_La_42 : Cond.methodLink "DoorsOnCogsLaw" 42 y_D_join.1 ∈ lw_tbl := in_tab4 _ (List.mem_of_getElem? (i := 66) rfl)
theorem ml_La_45 : Cond.methodLink "DoorsOnCogsLaw" 45 y_M_join.1 ∈ lw_tbl := in_tab7 _ (List.mem_of_getElem? (i := 28) rfl)
theorem ml_La_46 : Cond.methodLink "DoorsOnCogsLaw" 46 y_D_ratio.1 ∈ lw_tbl := in_tab4 _ (List.mem_of_getElem? (i := 70) rfl)
theorem ml_La_50 : Cond.methodLink "DoorsOnCogsLaw" 50 y_M_ratio.1 ∈ lw_tbl := in_tab7 _ (List.mem_of_getElem? (i := 36) rfl)
theorem ml_La_51 : Cond.methodLink "DoorsOnCogsLaw" 51 y_D_push.1 ∈ lw_tbl := in_tab4 _ (List.mem_of_getElem? (i := 78) rfl)
theorem ml_La_54 : Cond.methodLink "DoorsOnCogsLaw" 54 y_M_push.1 ∈ lw_tbl := in_tab7 _ (List.mem_of_getElem? (i := 69) rfl)
theorem ml_La_55 : Cond.methodLink "DoorsOnCogsLaw" 55 y_D_can.1 ∈ lw_tbl := in_tab4 _ (List.mem_of_getElem? (i := 102) rfl)
theorem ml_La_58 : Cond.methodLink "DoorsOnCogsLaw" 58 y_M_can.1 ∈ lw_tbl := in_tab7 _ (List.mem_of_getElem? (i := 48) rfl)
theorem ml_La_59 : Cond.methodLink "DoorsOnCogsLaw" 59 y_D_reach.1 ∈ lw_tbl := in_tab4 _ (List.mem_of_getElem? (i := 103) rfl)
theorem ml_La_63 : Cond.methodLink "DoorsOnCogsLaw" 63 y_M_reach.1 ∈ lw_tbl := in_tab7 _ (List.mem_of_getElem? (i := 78) rfl)
theorem ml_La_64 : Cond.methodLink "DoorsOnCogsLaw" 64 y_D_slip.1 ∈ lw_tbl := in_tab4 _ (List.mem_of_getElem? (i := 107) rfl)
theorem ml_La_68 : Cond.methodLink "DoorsOnCogsLaw" 68 y_M_slip.1 ∈ lw_tbl := in_tab7 _ (List.mem_of_getElem? (i := 82) rfl)
theorem ml_La_69 : Cond.methodLink "DoorsOnCogsLaw" 69 y_D_want.1 ∈ lw_tbl := in_tab4 _ (List.mem_of_getElem? (i := 112) rfl)
theorem ml_La_72 : Cond.methodLink "DoorsOnCogsLaw" 72 y_M_want.1 ∈ lw_tbl := in_tab7 _ (List.mem_of_getElem? (i := 86) rfl)
theorem ml_La_73 : Cond.methodLink "DoorsOnCogsLaw" 73 y_D_planned.1 ∈ lw_tbl := in_tab4 _ (List.mem_of_getElem? (i := 120) rfl)
theorem ml_La_76 : Cond.methodLink "DoorsOnCogsLaw" 76 y_M_planned.1 ∈ lw_tbl := in_tab7 _ (List.mem_of_getElem? (i := 94) rfl)
theorem ml_La_77 : Cond.methodLink "DoorsOnCogsLaw" 77 y_D_row.1 ∈ lw_tbl := in_tab4 _ (List.mem_of_getElem? (i := 191) rfl)
theorem ml_La_81 : Cond.methodLink "DoorsOnCogsLaw" 81 y_M_row.1 ∈ lw_tbl := in_tab7 _ (List.mem_of_getElem? (i := 144) rfl)
theorem ml_La_82 : Cond.methodLink "DoorsOnCogsLaw" 82 y_D_cut.1 ∈ lw_tbl := in_tab4 _ (List.mem_of_getElem? (i := 195) rfl)
theorem ml_La_85 : Cond.methodLink "DoorsOnCogsLaw" 85 y_M_cut.1 ∈ lw_tbl := in_tab7 _ (List.mem_of_getElem? (i := 148) rfl)
theorem ml_La_86 : Cond.methodLink "DoorsOnCogsLaw" 86 y_D_freed.1 ∈ lw_tbl := in_tab4 _ (List.mem_of_getElem? (i := 213) rfl)
theorem ml_La_89 : Cond.methodLink "DoorsOnCogsLaw" 89 y_M_freed.1 ∈ lw_tbl := in_tab7 _ (List.mem_of_getElem? (i := 159) rfl)
theorem ml_La_90 : Cond.methodLink "DoorsOnCogsLaw" 90 y_D_seen.1 ∈ lw_tbl := in_tab4 _ (List.mem_of_getElem? (i := 217) rfl)
theorem ml_La_93 : Cond.methodLink "DoorsOnCogsLaw" 93 y_M_seen.1 ∈ lw_tbl := in_tab7 _ (List.mem_of_getElem? (i := 163) rfl)
theorem ml_La_94 : Cond.methodLink "DoorsOnCogsLaw" 94 y_D_slipped.1 ∈ lw_tbl := in_tab4 _ (List.mem_of_getElem? (i := 221) rfl)
theorem ml_La_97 : Cond.methodLink "DoorsOnCogsLaw" 97 y_M_slipped.1 ∈ lw_tbl := in_tab7 _ (List.mem_of_getElem? (i := 169) rfl)
theorem ml_La_98 : Cond.methodLink "DoorsOnCogsLaw" 98 y_D_coming.1 ∈ lw_tbl := in_tab4 _ (List.mem_of_getElem? (i := 237) rfl)
theorem ml_La_101 : Cond.methodLink "DoorsOnCogsLaw" 101 y_M_coming.1 ∈ lw_tbl := in_tab7 _ (List.mem_of_getElem? (i := 177) rfl)
theorem ml_La_102 : Cond.methodLink "DoorsOnCogsLaw" 102 y_D_day.1 ∈ lw_tbl := in_tab5 _ (List.mem_of_getElem? (i := 1) rfl)
theorem ml_La_105 : Cond.methodLink "DoorsOnCogsLaw" 105 y_M_day.1 ∈ lw_tbl := in_tab7 _ (List.mem_of_getElem? (i := 181) rfl)
theorem ml_La_106 : Cond.methodLink "DoorsOnCogsLaw" 106 y_D_would.1 ∈ lw_tbl := in_tab5 _ (List.mem_of_getElem? (i := 73) rfl)
theorem ml_La_109 : Cond.methodLink "DoorsOnCogsLaw" 109 y_M_would.1 ∈ lw_tbl := in_tab7 _ (List.mem_of_getElem? (i := 239) rfl)
theorem ml_La_110 : Cond.methodLink "DoorsOnCogsLaw" 110 y_D_worn.1 ∈ lw_tbl := in_tab5 _ (List.mem_of_getElem? (i := 95) rfl)
theorem ml_La_113 : Cond.methodLink "DoorsOnCogsLaw" 113 y_M_worn.1 ∈ lw_tbl := in_tab8 _ (List.mem_of_getElem? (i := 12) rfl)
theorem ml_La_114 : Cond.methodLink "DoorsOnCogsLaw" 114 y_D_seed.1 ∈ lw_tbl := in_tab5 _ (List.mem_of_getElem? (i := 100) rfl)
theorem ml_La_117 : Cond.methodLink "DoorsOnCogsLaw" 117 y_M_seed.1 ∈ lw_tbl := in_tab8 _ (List.mem_of_getElem? (i := 16) rfl)
theorem ml_La_118 : Cond.methodLink "DoorsOnCogsLaw" 118 y_D_drawn.1 ∈ lw_tbl := in_tab5 _ (List.mem_of_getElem? (i := 104) rfl)
theorem ml_La_122 : Cond.methodLink "DoorsOnCogsLaw" 122 y_M_drawn.1 ∈ lw_tbl := in_tab8 _ (List.mem_of_getElem? (i := 20) rfl)
theorem ml_La_123 : Cond.methodLink "DoorsOnCogsLaw" 123 y_D_count.1 ∈ lw_tbl := in_tab5 _ (List.mem_of_getElem? (i := 116) rfl)
theorem ml_La_126 : Cond.methodLink "DoorsOnCogsLaw" 126 y_M_count.1 ∈ lw_tbl := in_tab8 _ (List.mem_of_getElem? (i := 29) rfl)
theorem ml_La_127 : Cond.methodLink "DoorsOnCogsLaw" 127 y_D_image.1 ∈ lw_tbl := in_tab5 _ (List.mem_of_getElem? (i := 120) rfl)
theorem ml_La_130 : Cond.methodLink "DoorsOnCogsLaw" 130 y_M_image.1 ∈ lw_tbl := in_tab8 _ (List.mem_of_getElem? (i := 33) rfl)
theorem ml_La_131 : Cond.methodLink "DoorsOnCogsLaw" 131 y_D_back.1 ∈ lw_tbl := in_tab5 _ (List.mem_of_getElem? (i := 124) rfl)
theorem ml_La_134 : Cond.methodLink "DoorsOnCogsLaw" 134 y_M_back.1 ∈ lw_tbl := in_tab8 _ (List.mem_of_getElem? (i := 37) rfl)
theorem ml_M_95 : Cond.methodLink "DoorsOnCogsModel" 95 y_M_divisor.1 ∈ lw_tbl ∨ ∃ host, Cond.methodLinkNest "DoorsOnCogsModel" 95 y_M_divisor.1 host ∈ lw_tbl := Or.inl (in_tab6 _ (List.mem_of_getElem? (i := 231) rfl))
theorem ml_M_103 : Cond.methodLink "DoorsOnCogsModel" 103 y_M_four.1 ∈ lw_tbl := in_tab6 _ (List.mem_of_getElem? (i := 40) rfl)
theorem ml_M_113 : Cond.methodLink "DoorsOnCogsModel" 113 y_M_see.1 ∈ lw_tbl := in_tab6 _ (List.mem_of_getElem? (i := 60) rfl)
theorem ml_M_117 : Cond.methodLink "DoorsOnCogsModel" 117 y_M_isLetter.1 ∈ lw_tbl := in_tab6 _ (List.mem_of_getElem? (i := 69) rfl)
theorem ml_M_121 : Cond.methodLink "DoorsOnCogsModel" 121 y_M_isWord.1 ∈ lw_tbl := in_tab6 _ (List.mem_of_getElem? (i := 65) rfl)
theorem ml_M_125 : Cond.methodLink "DoorsOnCogsModel" 125 y_M_passWord.1 ∈ lw_tbl := in_tab6 _ (List.mem_of_getElem? (i := 90) rfl)
theorem ml_M_128 : Cond.methodLink "DoorsOnCogsModel" 128 y_M_isDigit.1 ∈ lw_tbl := in_tab6 _ (List.mem_of_getElem? (i := 106) rfl)
theorem ml_M_131 : Cond.methodLink "DoorsOnCogsModel" 131 y_M_fails.1 ∈ lw_tbl := in_tab6 _ (List.mem_of_getElem? (i := 82) rfl)
theorem ml_M_138 : Cond.methodLink "DoorsOnCogsModel" 138 y_M_in.1 ∈ lw_tbl ∨ ∃ host, Cond.methodLinkNest "DoorsOnCogsModel" 138 y_M_in.1 host ∈ lw_tbl := Or.inl (in_tab6 _ (List.mem_of_getElem? (i := 115) rfl))
theorem ml_M_170 : Cond.methodLink "DoorsOnCogsModel" 170 y_M_strength.1 ∈ lw_tbl ∨ ∃ host, Cond.methodLinkNest "DoorsOnCogsModel" 170 y_M_strength.1 host ∈ lw_tbl := Or.inl (in_tab6 _ (List.mem_of_getElem? (i := 167) rfl))
theorem ml_M_174 : Cond.methodLink "DoorsOnCogsModel" 174 y_M_puts.1 ∈ lw_tbl := in_tab6 _ (List.mem_of_getElem? (i := 122) rfl)
theorem ml_M_179 : Cond.methodLink "DoorsOnCogsModel" 179 y_M_numberHere.1 ∈ lw_tbl := in_tab6 _ (List.mem_of_getElem? (i := 111) rfl)
theorem ml_M_182 : Cond.methodLink "DoorsOnCogsModel" 182 y_M_makes.1 ∈ lw_tbl := in_tab6 _ (List.mem_of_getElem? (i := 118) rfl)
theorem ml_M_185 : Cond.methodLink "DoorsOnCogsModel" 185 y_M_wordHere.1 ∈ lw_tbl := in_tab6 _ (List.mem_of_getElem? (i := 126) rfl)
theorem ml_M_188 : Cond.methodLink "DoorsOnCogsModel" 188 y_M_value.1 ∈ lw_tbl := in_tab6 _ (List.mem_of_getElem? (i := 102) rfl)
theorem ml_M_192 : Cond.methodLink "DoorsOnCogsModel" 192 y_M_term.1 ∈ lw_tbl := in_tab6 _ (List.mem_of_getElem? (i := 98) rfl)
theorem ml_M_195 : Cond.methodLink "DoorsOnCogsModel" 195 y_M_sum.1 ∈ lw_tbl := in_tab6 _ (List.mem_of_getElem? (i := 94) rfl)
theorem ml_M_200 : Cond.methodLink "DoorsOnCogsModel" 200 y_M_opens.1 ∈ lw_tbl := in_tab6 _ (List.mem_of_getElem? (i := 151) rfl)
theorem ml_M_203 : Cond.methodLink "DoorsOnCogsModel" 203 y_M_compare.1 ∈ lw_tbl := in_tab6 _ (List.mem_of_getElem? (i := 155) rfl)
theorem ml_M_206 : Cond.methodLink "DoorsOnCogsModel" 206 y_M_settles.1 ∈ lw_tbl := in_tab6 _ (List.mem_of_getElem? (i := 163) rfl)
theorem ml_M_209 : Cond.methodLink "DoorsOnCogsModel" 209 y_M_isInside.1 ∈ lw_tbl := in_tab6 _ (List.mem_of_getElem? (i := 170) rfl)
theorem ml_M_212 : Cond.methodLink "DoorsOnCogsModel" 212 y_M_fact.1 ∈ lw_tbl := in_tab6 _ (List.mem_of_getElem? (i := 146) rfl)
theorem ml_M_215 : Cond.methodLink "DoorsOnCogsModel" 215 y_M_closes.1 ∈ lw_tbl := in_tab6 _ (List.mem_of_getElem? (i := 159) rfl)
theorem ml_M_224 : Cond.methodLink "DoorsOnCogsModel" 224 y_M_takesWord.1 ∈ lw_tbl := in_tab6 _ (List.mem_of_getElem? (i := 138) rfl)
theorem ml_M_227 : Cond.methodLink "DoorsOnCogsModel" 227 y_M_tested.1 ∈ lw_tbl := in_tab6 _ (List.mem_of_getElem? (i := 142) rfl)
theorem ml_M_250 : Cond.methodLink "DoorsOnCogsModel" 250 y_M_joinSort.1 ∈ lw_tbl := in_tab6 _ (List.mem_of_getElem? (i := 74) rfl)
theorem ml_M_258 : Cond.methodLink "DoorsOnCogsModel" 258 y_M_isPushHere.1 ∈ lw_tbl := in_tab6 _ (List.mem_of_getElem? (i := 86) rfl)
theorem ml_M_261 : Cond.methodLink "DoorsOnCogsModel" 261 y_M_isDoorHere.1 ∈ lw_tbl := in_tab6 _ (List.mem_of_getElem? (i := 176) rfl)
theorem ml_M_264 : Cond.methodLink "DoorsOnCogsModel" 264 y_M_isFixedHere.1 ∈ lw_tbl := in_tab6 _ (List.mem_of_getElem? (i := 180) rfl)
theorem ml_M_267 : Cond.methodLink "DoorsOnCogsModel" 267 y_M_isJoinHere.1 ∈ lw_tbl := in_tab6 _ (List.mem_of_getElem? (i := 184) rfl)
theorem ml_M_270 : Cond.methodLink "DoorsOnCogsModel" 270 y_M_clauseHere.1 ∈ lw_tbl := in_tab6 _ (List.mem_of_getElem? (i := 56) rfl)
theorem ml_M_276 : Cond.methodLink "DoorsOnCogsModel" 276 y_M_readsAll.1 ∈ lw_tbl := in_tab6 _ (List.mem_of_getElem? (i := 52) rfl)
theorem ml_M_279 : Cond.methodLink "DoorsOnCogsModel" 279 y_M_hangs.1 ∈ lw_tbl := in_tab6 _ (List.mem_of_getElem? (i := 192) rfl)
theorem ml_M_285 : Cond.methodLink "DoorsOnCogsModel" 285 y_M_heaps.1 ∈ lw_tbl := in_tab7 _ (List.mem_of_getElem? (i := 225) rfl)
theorem ml_M_289 : Cond.methodLink "DoorsOnCogsModel" 289 y_M_pop.1 ∈ lw_tbl := in_tab7 _ (List.mem_of_getElem? (i := 229) rfl)
theorem ml_M_293 : Cond.methodLink "DoorsOnCogsModel" 293 y_M_one.1 ∈ lw_tbl ∨ ∃ host, Cond.methodLinkNest "DoorsOnCogsModel" 293 y_M_one.1 host ∈ lw_tbl := Or.inl (in_tab7 _ (List.mem_of_getElem? (i := 233) rfl))
theorem ml_M_297 : Cond.methodLink "DoorsOnCogsModel" 297 y_M_joinOf.1 ∈ lw_tbl := in_tab6 _ (List.mem_of_getElem? (i := 196) rfl)
theorem ml_M_301 : Cond.methodLink "DoorsOnCogsModel" 301 y_M_teeth.1 ∈ lw_tbl := in_tab6 _ (List.mem_of_getElem? (i := 200) rfl)
theorem ml_M_306 : Cond.methodLink "DoorsOnCogsModel" 306 y_M_above.1 ∈ lw_tbl := in_tab6 _ (List.mem_of_getElem? (i := 219) rfl)
theorem ml_M_310 : Cond.methodLink "DoorsOnCogsModel" 310 y_M_below.1 ∈ lw_tbl := in_tab6 _ (List.mem_of_getElem? (i := 224) rfl)
theorem ml_M_313 : Cond.methodLink "DoorsOnCogsModel" 313 y_M_lowest.1 ∈ lw_tbl ∨ ∃ host, Cond.methodLinkNest "DoorsOnCogsModel" 313 y_M_lowest.1 host ∈ lw_tbl := Or.inl (in_tab6 _ (List.mem_of_getElem? (i := 228) rfl))
theorem ml_M_317 : Cond.methodLink "DoorsOnCogsModel" 317 y_M_isOf.1 ∈ lw_tbl ∨ ∃ host, Cond.methodLinkNest "DoorsOnCogsModel" 317 y_M_isOf.1 host ∈ lw_tbl := Or.inl (in_tab6 _ (List.mem_of_getElem? (i := 212) rfl))
theorem ml_M_320 : Cond.methodLink "DoorsOnCogsModel" 320 y_M_turns.1 ∈ lw_tbl := in_tab6 _ (List.mem_of_getElem? (i := 215) rfl)
theorem ml_M_324 : Cond.methodLink "DoorsOnCogsModel" 324 y_M_reaches.1 ∈ lw_tbl := in_tab6 _ (List.mem_of_getElem? (i := 208) rfl)
theorem ml_M_327 : Cond.methodLink "DoorsOnCogsModel" 327 y_M_isTurnedAlike.1 ∈ lw_tbl := in_tab6 _ (List.mem_of_getElem? (i := 234) rfl)
theorem ml_M_331 : Cond.methodLink "DoorsOnCogsModel" 331 y_M_hangsWithout.1 ∈ lw_tbl := in_tab6 _ (List.mem_of_getElem? (i := 204) rfl)
theorem ml_M_334 : Cond.methodLink "DoorsOnCogsModel" 334 y_M_ratioOf.1 ∈ lw_tbl := in_tab7 _ (List.mem_of_getElem? (i := 44) rfl)
theorem ml_M_338 : Cond.methodLink "DoorsOnCogsModel" 338 y_M_span.1 ∈ lw_tbl := in_tab7 _ (List.mem_of_getElem? (i := 15) rfl)
theorem ml_M_343 : Cond.methodLink "DoorsOnCogsModel" 343 y_M_floored.1 ∈ lw_tbl ∨ ∃ host, Cond.methodLinkNest "DoorsOnCogsModel" 343 y_M_floored.1 host ∈ lw_tbl := Or.inl (in_tab7 _ (List.mem_of_getElem? (i := 20) rfl))
theorem ml_M_346 : Cond.methodLink "DoorsOnCogsModel" 346 y_M_isOpenAt.1 ∈ lw_tbl := in_tab7 _ (List.mem_of_getElem? (i := 11) rfl)
theorem ml_M_350 : Cond.methodLink "DoorsOnCogsModel" 350 y_M_isOpen.1 ∈ lw_tbl := in_tab7 _ (List.mem_of_getElem? (i := 7) rfl)
theorem ml_M_353 : Cond.methodLink "DoorsOnCogsModel" 353 y_M_isDoor.1 ∈ lw_tbl := in_tab7 _ (List.mem_of_getElem? (i := 2) rfl)
theorem ml_M_360 : Cond.methodLink "DoorsOnCogsModel" 360 y_M_isJoin.1 ∈ lw_tbl := in_tab7 _ (List.mem_of_getElem? (i := 32) rfl)
theorem ml_M_363 : Cond.methodLink "DoorsOnCogsModel" 363 y_M_areJoined.1 ∈ lw_tbl := in_tab7 _ (List.mem_of_getElem? (i := 40) rfl)
theorem ml_M_366 : Cond.methodLink "DoorsOnCogsModel" 366 y_M_partsOf.1 ∈ lw_tbl := in_tab7 _ (List.mem_of_getElem? (i := 61) rfl)
theorem ml_M_369 : Cond.methodLink "DoorsOnCogsModel" 369 y_M_isBeyond.1 ∈ lw_tbl := in_tab7 _ (List.mem_of_getElem? (i := 65) rfl)
theorem ml_M_376 : Cond.methodLink "DoorsOnCogsModel" 376 y_M_isPush.1 ∈ lw_tbl ∨ ∃ host, Cond.methodLinkNest "DoorsOnCogsModel" 376 y_M_isPush.1 host ∈ lw_tbl := Or.inl (in_tab7 _ (List.mem_of_getElem? (i := 52) rfl))
theorem ml_M_379 : Cond.methodLink "DoorsOnCogsModel" 379 y_M_pushes.1 ∈ lw_tbl := in_tab7 _ (List.mem_of_getElem? (i := 57) rfl)
theorem ml_M_382 : Cond.methodLink "DoorsOnCogsModel" 382 y_M_can.1 ∈ lw_tbl := in_tab7 _ (List.mem_of_getElem? (i := 73) rfl)
theorem ml_M_385 : Cond.methodLink "DoorsOnCogsModel" 385 y_M_turnsAll.1 ∈ lw_tbl := in_tab7 _ (List.mem_of_getElem? (i := 74) rfl)
theorem ml_M_388 : Cond.methodLink "DoorsOnCogsModel" 388 y_M_isSet.1 ∈ lw_tbl := in_tab7 _ (List.mem_of_getElem? (i := 90) rfl)
theorem ml_M_391 : Cond.methodLink "DoorsOnCogsModel" 391 y_M_placeAt.1 ∈ lw_tbl := in_tab7 _ (List.mem_of_getElem? (i := 114) rfl)
theorem ml_M_399 : Cond.methodLink "DoorsOnCogsModel" 399 y_M_slotOf.1 ∈ lw_tbl := in_tab7 _ (List.mem_of_getElem? (i := 126) rfl)
theorem ml_M_406 : Cond.methodLink "DoorsOnCogsModel" 406 y_M_comesTo.1 ∈ lw_tbl := in_tab7 _ (List.mem_of_getElem? (i := 122) rfl)
theorem ml_M_410 : Cond.methodLink "DoorsOnCogsModel" 410 y_M_isKnown.1 ∈ lw_tbl := in_tab7 _ (List.mem_of_getElem? (i := 132) rfl)
theorem ml_M_413 : Cond.methodLink "DoorsOnCogsModel" 413 y_M_mayStand.1 ∈ lw_tbl := in_tab7 _ (List.mem_of_getElem? (i := 136) rfl)
theorem ml_M_417 : Cond.methodLink "DoorsOnCogsModel" 417 y_M_isWanted.1 ∈ lw_tbl := in_tab7 _ (List.mem_of_getElem? (i := 110) rfl)
theorem ml_M_423 : Cond.methodLink "DoorsOnCogsModel" 423 y_M_isSomething.1 ∈ lw_tbl := in_tab7 _ (List.mem_of_getElem? (i := 106) rfl)
theorem ml_M_426 : Cond.methodLink "DoorsOnCogsModel" 426 y_M_searches.1 ∈ lw_tbl := in_tab7 _ (List.mem_of_getElem? (i := 118) rfl)
theorem ml_M_430 : Cond.methodLink "DoorsOnCogsModel" 430 y_M_rows.1 ∈ lw_tbl := in_tab7 _ (List.mem_of_getElem? (i := 140) rfl)
theorem ml_M_433 : Cond.methodLink "DoorsOnCogsModel" 433 y_M_canPlan.1 ∈ lw_tbl := in_tab7 _ (List.mem_of_getElem? (i := 98) rfl)
theorem ml_M_436 : Cond.methodLink "DoorsOnCogsModel" 436 y_M_plans.1 ∈ lw_tbl := in_tab7 _ (List.mem_of_getElem? (i := 102) rfl)
theorem ml_M_439 : Cond.methodLink "DoorsOnCogsModel" 439 y_M_bits.1 ∈ lw_tbl ∨ ∃ host, Cond.methodLinkNest "DoorsOnCogsModel" 439 y_M_bits.1 host ∈ lw_tbl := Or.inl (in_tab7 _ (List.mem_of_getElem? (i := 156) rfl))
theorem ml_M_442 : Cond.methodLink "DoorsOnCogsModel" 442 y_M_without.1 ∈ lw_tbl := in_tab7 _ (List.mem_of_getElem? (i := 152) rfl)
theorem ml_M_449 : Cond.methodLink "DoorsOnCogsModel" 449 y_M_areSeen.1 ∈ lw_tbl := in_tab7 _ (List.mem_of_getElem? (i := 173) rfl)
theorem ml_M_452 : Cond.methodLink "DoorsOnCogsModel" 452 y_M_openOnes.1 ∈ lw_tbl := in_tab7 _ (List.mem_of_getElem? (i := 213) rfl)
theorem ml_M_455 : Cond.methodLink "DoorsOnCogsModel" 455 y_M_joinsOf.1 ∈ lw_tbl := in_tab7 _ (List.mem_of_getElem? (i := 217) rfl)
theorem ml_M_458 : Cond.methodLink "DoorsOnCogsModel" 458 y_M_words.1 ∈ lw_tbl := in_tab7 _ (List.mem_of_getElem? (i := 209) rfl)
theorem ml_M_461 : Cond.methodLink "DoorsOnCogsModel" 461 y_M_reckons.1 ∈ lw_tbl := in_tab7 _ (List.mem_of_getElem? (i := 221) rfl)
theorem ml_M_464 : Cond.methodLink "DoorsOnCogsModel" 464 y_M_bounded.1 ∈ lw_tbl ∨ ∃ host, Cond.methodLinkNest "DoorsOnCogsModel" 464 y_M_bounded.1 host ∈ lw_tbl := Or.inl (in_tab7 _ (List.mem_of_getElem? (i := 236) rfl))
theorem ml_M_477 : Cond.methodLink "DoorsOnCogsModel" 477 y_M_pushedBy.1 ∈ lw_tbl := in_tab7 _ (List.mem_of_getElem? (i := 205) rfl)
theorem ml_M_480 : Cond.methodLink "DoorsOnCogsModel" 480 y_M_begins.1 ∈ lw_tbl := in_tab7 _ (List.mem_of_getElem? (i := 197) rfl)
theorem ml_M_483 : Cond.methodLink "DoorsOnCogsModel" 483 y_M_comes.1 ∈ lw_tbl := in_tab7 _ (List.mem_of_getElem? (i := 201) rfl)
theorem ml_M_486 : Cond.methodLink "DoorsOnCogsModel" 486 y_M_isRule.1 ∈ lw_tbl := in_tab7 _ (List.mem_of_getElem? (i := 189) rfl)
theorem ml_M_489 : Cond.methodLink "DoorsOnCogsModel" 489 y_M_canPass.1 ∈ lw_tbl := in_tab7 _ (List.mem_of_getElem? (i := 185) rfl)
theorem ml_M_492 : Cond.methodLink "DoorsOnCogsModel" 492 y_M_passesDay.1 ∈ lw_tbl := in_tab7 _ (List.mem_of_getElem? (i := 193) rfl)
theorem ml_M_497 : Cond.methodLink "DoorsOnCogsModel" 497 y_M_keeps.1 ∈ lw_tbl := in_tab8 _ (List.mem_of_getElem? (i := 4) rfl)
theorem ml_M_500 : Cond.methodLink "DoorsOnCogsModel" 500 y_M_putsBack.1 ∈ lw_tbl := in_tab8 _ (List.mem_of_getElem? (i := 8) rfl)
theorem ml_Jstr_335 : Cond.methodLink "java/lang/String" 335 y_Jstr_coder.1 ∈ lw_tbl := in_tab2 _ (List.mem_of_getElem? (i := 237) rfl)
theorem ml_Jstr_492 : Cond.methodLink "java/lang/String" 492 y_Jstr_isLatin1.1 ∈ lw_tbl := in_tab3 _ (List.mem_of_getElem? (i := 11) rfl)
theorem ml_Jstr_495 : Cond.methodLink "java/lang/String" 495 y_Jlat_charAt.1 ∈ lw_tbl ∨ ∃ host, Cond.methodLinkNest "java/lang/String" 495 y_Jlat_charAt.1 host ∈ lw_tbl := Or.inl (in_tab3 _ (List.mem_of_getElem? (i := 15) rfl))
theorem ml_Jstr_498 : Cond.methodLink "java/lang/String" 498 y_Jutf_charAt.1 ∈ lw_tbl ∨ ∃ host, Cond.methodLinkNest "java/lang/String" 498 y_Jutf_charAt.1 host ∈ lw_tbl := Or.inl (in_tab3 _ (List.mem_of_getElem? (i := 26) rfl))
theorem ml_Jstr_1059 : Cond.methodLink "java/lang/String" 1059 y_Jpre_checkIndex.1 ∈ lw_tbl ∨ ∃ host, Cond.methodLinkNest "java/lang/String" 1059 y_Jpre_checkIndex.1 host ∈ lw_tbl := Or.inl (in_tab3 _ (List.mem_of_getElem? (i := 23) rfl))
theorem ml_Jlat_9 : Cond.methodLink "java/lang/StringLatin1" 9 y_Jstr_checkIndex.1 ∈ lw_tbl ∨ ∃ host, Cond.methodLinkNest "java/lang/StringLatin1" 9 y_Jstr_checkIndex.1 host ∈ lw_tbl := Or.inl (in_tab3 _ (List.mem_of_getElem? (i := 18) rfl))
theorem ml_Jutf_48 : Cond.methodLink "java/lang/StringUTF16" 48 y_Jutf_length.1 ∈ lw_tbl ∨ ∃ host, Cond.methodLinkNest "java/lang/StringUTF16" 48 y_Jutf_length.1 host ∈ lw_tbl := Or.inl (in_tab3 _ (List.mem_of_getElem? (i := 32) rfl))
theorem ml_Jutf_67 : Cond.methodLink "java/lang/StringUTF16" 67 y_Jutf_checkIndex.1 ∈ lw_tbl ∨ ∃ host, Cond.methodLinkNest "java/lang/StringUTF16" 67 y_Jutf_checkIndex.1 host ∈ lw_tbl := Or.inl (in_tab3 _ (List.mem_of_getElem? (i := 29) rfl))
theorem ml_Jutf_71 : Cond.methodLink "java/lang/StringUTF16" 71 y_Jutf_getChar.1 ∈ lw_tbl ∨ ∃ host, Cond.methodLinkNest "java/lang/StringUTF16" 71 y_Jutf_getChar.1 host ∈ lw_tbl := Or.inl (in_tab3 _ (List.mem_of_getElem? (i := 36) rfl))
theorem ml_Jutf_414 : Cond.methodLink "java/lang/StringUTF16" 414 y_Jstr_checkIndex.1 ∈ lw_tbl ∨ ∃ host, Cond.methodLinkNest "java/lang/StringUTF16" 414 y_Jstr_checkIndex.1 host ∈ lw_tbl := Or.inl (in_tab3 _ (List.mem_of_getElem? (i := 35) rfl))
theorem k_D_173 : Cond.constantLong "DoorsOnCogs" 173 (Int64.ofInt (-1000000000000)) ∈ lw_tbl := in_tab4 _ (List.mem_of_getElem? (i := 64) (by decide +kernel))
theorem k_D_258 : Cond.constantLong "DoorsOnCogs" 258 (Int64.ofInt (9)) ∈ lw_tbl := in_tab4 _ (List.mem_of_getElem? (i := 236) (by decide +kernel))
theorem k_D_289 : Cond.constantLong "DoorsOnCogs" 289 (Int64.ofInt (-1)) ∈ lw_tbl := in_tab5 _ (List.mem_of_getElem? (i := 99) (by decide +kernel))
theorem k_D_307 : Cond.constantLong "DoorsOnCogs" 307 (Int64.ofInt (1103515245)) ∈ lw_tbl := in_tab5 _ (List.mem_of_getElem? (i := 112) (by decide +kernel))
theorem k_D_309 : Cond.constantLong "DoorsOnCogs" 309 (Int64.ofInt (12345)) ∈ lw_tbl := in_tab5 _ (List.mem_of_getElem? (i := 113) (by decide +kernel))
theorem k_D_311 : Cond.constantLong "DoorsOnCogs" 311 (Int64.ofInt (2147483647)) ∈ lw_tbl := in_tab5 _ (List.mem_of_getElem? (i := 114) (by decide +kernel))
theorem k_D_313 : Cond.constantLong "DoorsOnCogs" 313 (Int64.ofInt (65536)) ∈ lw_tbl := in_tab5 _ (List.mem_of_getElem? (i := 115) (by decide +kernel))
theorem k_Cu_44 : Cond.constant "DoorsOnCogs$Cutter" 44 (Int32.ofInt (65536)) ∈ lw_tbl := in_tab4 _ (List.mem_of_getElem? (i := 212) (by decide +kernel))
theorem k_Ge_134 : Cond.constantLong "DoorsOnCogs$Gears" 134 (Int64.ofInt (2)) ∈ lw_tbl := in_tab4 _ (List.mem_of_getElem? (i := 53) (by decide +kernel))
theorem k_Pl_111 : Cond.constantLong "DoorsOnCogs$Planner" 111 (Int64.ofInt (-1152921504606846976)) ∈ lw_tbl := in_tab4 _ (List.mem_of_getElem? (i := 148) (by decide +kernel))
theorem k_Pl_117 : Cond.constantLong "DoorsOnCogs$Planner" 117 (Int64.ofInt (1152921504606846976)) ∈ lw_tbl := in_tab4 _ (List.mem_of_getElem? (i := 149) (by decide +kernel))
theorem k_Pl_160 : Cond.constantLong "DoorsOnCogs$Planner" 160 (Int64.ofInt (-7046029254386353131)) ∈ lw_tbl := in_tab4 _ (List.mem_of_getElem? (i := 174) (by decide +kernel))
theorem k_Bo_53 : Cond.constantLong "DoorsOnCogs$RuleBook" 53 (Int64.ofInt (-60)) ∈ lw_tbl := in_tab5 _ (List.mem_of_getElem? (i := 61) (by decide +kernel))
theorem k_Bo_55 : Cond.constantLong "DoorsOnCogs$RuleBook" 55 (Int64.ofInt (60)) ∈ lw_tbl := in_tab5 _ (List.mem_of_getElem? (i := 62) (by decide +kernel))
theorem k_M_142 : Cond.constantLong "DoorsOnCogsModel" 142 (Int64.ofInt (1685024626)) ∈ lw_tbl := in_tab6 _ (List.mem_of_getElem? (i := 64) (by decide +kernel))
theorem k_M_144 : Cond.constantLong "DoorsOnCogsModel" 144 (Int64.ofInt (499917354088)) ∈ lw_tbl := in_tab6 _ (List.mem_of_getElem? (i := 130) (by decide +kernel))
theorem k_M_146 : Cond.constantLong "DoorsOnCogsModel" 146 (Int64.ofInt (1936744814)) ∈ lw_tbl := in_tab6 _ (List.mem_of_getElem? (i := 131) (by decide +kernel))
theorem k_M_148 : Cond.constantLong "DoorsOnCogsModel" 148 (Int64.ofInt (482854658917)) ∈ lw_tbl := in_tab6 _ (List.mem_of_getElem? (i := 132) (by decide +kernel))
theorem k_M_150 : Cond.constantLong "DoorsOnCogsModel" 150 (Int64.ofInt (1869636974)) ∈ lw_tbl := in_tab6 _ (List.mem_of_getElem? (i := 133) (by decide +kernel))
theorem k_M_152 : Cond.constantLong "DoorsOnCogsModel" 152 (Int64.ofInt (478627065459)) ∈ lw_tbl := in_tab6 _ (List.mem_of_getElem? (i := 134) (by decide +kernel))
theorem k_M_154 : Cond.constantLong "DoorsOnCogsModel" 154 (Int64.ofInt (457135713907)) ∈ lw_tbl := in_tab6 _ (List.mem_of_getElem? (i := 135) (by decide +kernel))
theorem k_M_156 : Cond.constantLong "DoorsOnCogsModel" 156 (Int64.ofInt (109330228145767)) ∈ lw_tbl := in_tab6 _ (List.mem_of_getElem? (i := 136) (by decide +kernel))
theorem k_M_178 : Cond.constant "DoorsOnCogsModel" 178 (Int32.ofInt (99999)) ∈ lw_tbl := in_tab6 _ (List.mem_of_getElem? (i := 110) (by decide +kernel))
theorem k_M_198 : Cond.constantLong "DoorsOnCogsModel" 198 (Int64.ofInt (7237492)) ∈ lw_tbl := in_tab6 _ (List.mem_of_getElem? (i := 150) (by decide +kernel))
theorem k_M_218 : Cond.constantLong "DoorsOnCogsModel" 218 (Int64.ofInt (6385252)) ∈ lw_tbl := in_tab6 _ (List.mem_of_getElem? (i := 174) (by decide +kernel))
theorem k_M_220 : Cond.constantLong "DoorsOnCogsModel" 220 (Int64.ofInt (28530)) ∈ lw_tbl := in_tab6 _ (List.mem_of_getElem? (i := 175) (by decide +kernel))
theorem k_M_222 : Cond.constantLong "DoorsOnCogsModel" 222 (Int64.ofInt (26982)) ∈ lw_tbl := in_tab6 _ (List.mem_of_getElem? (i := 137) (by decide +kernel))
theorem k_M_242 : Cond.constantLong "DoorsOnCogsModel" 242 (Int64.ofInt (1835365224)) ∈ lw_tbl := in_tab6 _ (List.mem_of_getElem? (i := 78) (by decide +kernel))
theorem k_M_244 : Cond.constantLong "DoorsOnCogsModel" 244 (Int64.ofInt (1650814068)) ∈ lw_tbl := in_tab6 _ (List.mem_of_getElem? (i := 79) (by decide +kernel))
theorem k_M_246 : Cond.constantLong "DoorsOnCogsModel" 246 (Int64.ofInt (1635282021)) ∈ lw_tbl := in_tab6 _ (List.mem_of_getElem? (i := 80) (by decide +kernel))
theorem k_M_248 : Cond.constantLong "DoorsOnCogsModel" 248 (Int64.ofInt (439856162148)) ∈ lw_tbl := in_tab6 _ (List.mem_of_getElem? (i := 73) (by decide +kernel))
theorem k_M_253 : Cond.constantLong "DoorsOnCogsModel" 253 (Int64.ofInt (1886745448)) ∈ lw_tbl := in_tab6 _ (List.mem_of_getElem? (i := 81) (by decide +kernel))
theorem k_M_304 : Cond.constantLong "DoorsOnCogsModel" 304 (Int64.ofInt (-1)) ∈ lw_tbl := in_tab6 _ (List.mem_of_getElem? (i := 223) (by decide +kernel))
theorem k_M_341 : Cond.constantLong "DoorsOnCogsModel" 341 (Int64.ofInt (2)) ∈ lw_tbl := in_tab7 _ (List.mem_of_getElem? (i := 19) (by decide +kernel))
theorem k_M_356 : Cond.constantLong "DoorsOnCogsModel" 356 (Int64.ofInt (5)) ∈ lw_tbl := in_tab7 _ (List.mem_of_getElem? (i := 6) (by decide +kernel))
theorem k_M_358 : Cond.constantLong "DoorsOnCogsModel" 358 (Int64.ofInt (-1000000000000)) ∈ lw_tbl := in_tab7 _ (List.mem_of_getElem? (i := 27) (by decide +kernel))
theorem k_M_372 : Cond.constantLong "DoorsOnCogsModel" 372 (Int64.ofInt (-60)) ∈ lw_tbl := in_tab7 _ (List.mem_of_getElem? (i := 55) (by decide +kernel))
theorem k_M_374 : Cond.constantLong "DoorsOnCogsModel" 374 (Int64.ofInt (60)) ∈ lw_tbl := in_tab7 _ (List.mem_of_getElem? (i := 56) (by decide +kernel))
theorem k_M_395 : Cond.constantLong "DoorsOnCogsModel" 395 (Int64.ofInt (40503)) ∈ lw_tbl := in_tab7 _ (List.mem_of_getElem? (i := 130) (by decide +kernel))
theorem k_M_397 : Cond.constantLong "DoorsOnCogsModel" 397 (Int64.ofInt (8192)) ∈ lw_tbl := in_tab7 _ (List.mem_of_getElem? (i := 131) (by decide +kernel))
theorem k_M_445 : Cond.constantLong "DoorsOnCogsModel" 445 (Int64.ofInt (-9999)) ∈ lw_tbl := in_tab7 _ (List.mem_of_getElem? (i := 167) (by decide +kernel))
theorem k_M_447 : Cond.constantLong "DoorsOnCogsModel" 447 (Int64.ofInt (9999)) ∈ lw_tbl := in_tab7 _ (List.mem_of_getElem? (i := 168) (by decide +kernel))
theorem k_M_495 : Cond.constantLong "DoorsOnCogsModel" 495 (Int64.ofInt (3)) ∈ lw_tbl := in_tab8 _ (List.mem_of_getElem? (i := 3) (by decide +kernel))
theorem k_M_503 : Cond.constantLong "DoorsOnCogsModel" 503 (Int64.ofInt (20)) ∈ lw_tbl := in_tab8 _ (List.mem_of_getElem? (i := 24) (by decide +kernel))
theorem k_M_505 : Cond.constantLong "DoorsOnCogsModel" 505 (Int64.ofInt (1103515245)) ∈ lw_tbl := in_tab8 _ (List.mem_of_getElem? (i := 25) (by decide +kernel))
theorem k_M_507 : Cond.constantLong "DoorsOnCogsModel" 507 (Int64.ofInt (12345)) ∈ lw_tbl := in_tab8 _ (List.mem_of_getElem? (i := 26) (by decide +kernel))
theorem k_M_509 : Cond.constantLong "DoorsOnCogsModel" 509 (Int64.ofInt (2147483648)) ∈ lw_tbl := in_tab8 _ (List.mem_of_getElem? (i := 27) (by decide +kernel))
theorem k_M_511 : Cond.constantLong "DoorsOnCogsModel" 511 (Int64.ofInt (65536)) ∈ lw_tbl := in_tab8 _ (List.mem_of_getElem? (i := 28) (by decide +kernel))
theorem k_Jint_265 : Cond.constant "java/lang/Integer" 265 (Int32.ofInt (1431655765)) ∈ lw_tbl := in_tab5 _ (List.mem_of_getElem? (i := 41) (by decide +kernel))
theorem k_Jint_266 : Cond.constant "java/lang/Integer" 266 (Int32.ofInt (858993459)) ∈ lw_tbl := in_tab5 _ (List.mem_of_getElem? (i := 42) (by decide +kernel))
theorem k_Jint_267 : Cond.constant "java/lang/Integer" 267 (Int32.ofInt (252645135)) ∈ lw_tbl := in_tab5 _ (List.mem_of_getElem? (i := 43) (by decide +kernel))
