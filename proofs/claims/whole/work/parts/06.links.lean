abbrev mX9_init : gMD := (yX9_init, cX9_init, 2, none)
theorem okX9_init : gOkM mX9_init 0 := ⟨by decide +kernel, ⟨by decide +kernel, by decide +kernel, by decide +kernel⟩, by decide, gT1 (i := 26) (by decide +kernel) (by decide +kernel), gT1 (i := 1) (by decide +kernel) (by decide +kernel)⟩
abbrev mX6_init : gMD := (yX6_init, cX6_init, 2, none)
theorem okX6_init : gOkM mX6_init 0 := ⟨by decide +kernel, ⟨by decide +kernel, by decide +kernel, by decide +kernel⟩, by decide, gT1 (i := 34) (by decide +kernel) (by decide +kernel), gT1 (i := 2) (by decide +kernel) (by decide +kernel)⟩
abbrev mX8_init : gMD := (yX8_init, cX8_init, 1, none)
theorem okX8_init : gOkM mX8_init 0 := ⟨by decide +kernel, ⟨by decide +kernel, by decide +kernel, by decide +kernel⟩, by decide, gT1 (i := 41) (by decide +kernel) (by decide +kernel), gT1 (i := 3) (by decide +kernel) (by decide +kernel)⟩
abbrev mJ7_fill_53178 : gMD := (yJ7_fill_53178, cJ7_fill_53178, 4, none)
theorem okJ7_fill_53178 : gOkM mJ7_fill_53178 2 := ⟨by decide +kernel, ⟨by decide +kernel, by decide +kernel, by decide +kernel⟩, by decide, gT1 (i := 79) (by decide +kernel) (by decide +kernel), gT1 (i := 4) (by decide +kernel) (by decide +kernel)⟩
abbrev mX7_init : gMD := (yX7_init, cX7_init, 1, none)
theorem okX7_init : gOkM mX7_init 0 := ⟨by decide +kernel, ⟨by decide +kernel, by decide +kernel, by decide +kernel⟩, by decide, gT1 (i := 101) (by decide +kernel) (by decide +kernel), gT1 (i := 5) (by decide +kernel) (by decide +kernel)⟩
abbrev mX3_init : gMD := (yX3_init, cX3_init, 1, none)
theorem okX3_init : gOkM mX3_init 0 := ⟨by decide +kernel, ⟨by decide +kernel, by decide +kernel, by decide +kernel⟩, by decide, gT1 (i := 129) (by decide +kernel) (by decide +kernel), gT1 (i := 6) (by decide +kernel) (by decide +kernel)⟩
abbrev mX2_init : gMD := (yX2_init, cX2_init, 1, none)
theorem okX2_init : gOkM mX2_init 0 := ⟨by decide +kernel, ⟨by decide +kernel, by decide +kernel, by decide +kernel⟩, by decide, gT1 (i := 137) (by decide +kernel) (by decide +kernel), gT1 (i := 7) (by decide +kernel) (by decide +kernel)⟩
abbrev mX0_init : gMD := (yX0_init, cX0_init, 1, none)
theorem okX0_init : gOkM mX0_init 0 := ⟨by decide +kernel, ⟨by decide +kernel, by decide +kernel, by decide +kernel⟩, by decide, gT1 (i := 183) (by decide +kernel) (by decide +kernel), gT1 (i := 8) (by decide +kernel) (by decide +kernel)⟩
abbrev mX1_init : gMD := (yX1_init, cX1_init, 1, none)
theorem okX1_init : gOkM mX1_init 0 := ⟨by decide +kernel, ⟨by decide +kernel, by decide +kernel, by decide +kernel⟩, by decide, gT1 (i := 215) (by decide +kernel) (by decide +kernel), gT1 (i := 9) (by decide +kernel) (by decide +kernel)⟩
abbrev mX4_init : gMD := (yX4_init, cX4_init, 1, none)
theorem okX4_init : gOkM mX4_init 0 := ⟨by decide +kernel, ⟨by decide +kernel, by decide +kernel, by decide +kernel⟩, by decide, gT2 (i := 5) (by decide +kernel) (by decide +kernel), gT1 (i := 10) (by decide +kernel) (by decide +kernel)⟩
abbrev mX5_init : gMD := (yX5_init, cX5_init, 1, none)
theorem okX5_init : gOkM mX5_init 0 := ⟨by decide +kernel, ⟨by decide +kernel, by decide +kernel, by decide +kernel⟩, by decide, gT2 (i := 26) (by decide +kernel) (by decide +kernel), gT1 (i := 11) (by decide +kernel) (by decide +kernel)⟩
abbrev mX9_letters : gMD := (yX9_letters, cX9_letters, 3, (some .int))
theorem okX9_letters : gOkM mX9_letters 1 := ⟨by decide +kernel, ⟨by decide +kernel, by decide +kernel, by decide +kernel⟩, by decide, gT2 (i := 86) (by decide +kernel) (by decide +kernel), gT1 (i := 1) (by decide +kernel) (by decide +kernel)⟩
abbrev mX6_emptySlots : gMD := (yX6_emptySlots, cX6_emptySlots, 2, none)
theorem okX6_emptySlots : gOkM mX6_emptySlots 0 := ⟨by decide +kernel, ⟨by decide +kernel, by decide +kernel, by decide +kernel⟩, by decide, gT2 (i := 90) (by decide +kernel) (by decide +kernel), gT1 (i := 2) (by decide +kernel) (by decide +kernel)⟩
abbrev mX8_becomeNothing : gMD := (yX8_becomeNothing, cX8_becomeNothing, 1, none)
theorem okX8_becomeNothing : gOkM mX8_becomeNothing 0 := ⟨by decide +kernel, ⟨by decide +kernel, by decide +kernel, by decide +kernel⟩, by decide, gT2 (i := 94) (by decide +kernel) (by decide +kernel), gT1 (i := 3) (by decide +kernel) (by decide +kernel)⟩
abbrev mX9_word : gMD := (yX9_word, cX9_word, 3, (some .int))
theorem okX9_word : gOkM mX9_word 2 := ⟨by decide +kernel, ⟨by decide +kernel, by decide +kernel, by decide +kernel⟩, by decide, gT2 (i := 98) (by decide +kernel) (by decide +kernel), gT1 (i := 1) (by decide +kernel) (by decide +kernel)⟩
abbrev mX9_isSlot : gMD := (yX9_isSlot, cX9_isSlot, 1, (some .boolean))
theorem okX9_isSlot : gOkM mX9_isSlot 1 := ⟨by decide +kernel, ⟨by decide +kernel, by decide +kernel, by decide +kernel⟩, by decide, gT2 (i := 101) (by decide +kernel) (by decide +kernel), gT1 (i := 1) (by decide +kernel) (by decide +kernel)⟩
abbrev mX8_becomesWord : gMD := (yX8_becomesWord, cX8_becomesWord, 6, (some .boolean))
theorem okX8_becomesWord : gOkM mX8_becomesWord 2 := ⟨by decide +kernel, ⟨by decide +kernel, by decide +kernel, by decide +kernel⟩, by decide, gT2 (i := 105) (by decide +kernel) (by decide +kernel), gT1 (i := 3) (by decide +kernel) (by decide +kernel)⟩
abbrev mX9_howManyDigits : gMD := (yX9_howManyDigits, cX9_howManyDigits, 4, (some .int))
theorem okX9_howManyDigits : gOkM mX9_howManyDigits 1 := ⟨by decide +kernel, ⟨by decide +kernel, by decide +kernel, by decide +kernel⟩, by decide, gT2 (i := 108) (by decide +kernel) (by decide +kernel), gT1 (i := 1) (by decide +kernel) (by decide +kernel)⟩
abbrev mX8_becomeWordOf : gMD := (yX8_becomeWordOf, cX8_becomeWordOf, 2, none)
theorem okX8_becomeWordOf : gOkM mX8_becomeWordOf 1 := ⟨by decide +kernel, ⟨by decide +kernel, by decide +kernel, by decide +kernel⟩, by decide, gT2 (i := 112) (by decide +kernel) (by decide +kernel), gT1 (i := 3) (by decide +kernel) (by decide +kernel)⟩
abbrev mX8_becomeLike : gMD := (yX8_becomeLike, cX8_becomeLike, 2, none)
theorem okX8_becomeLike : gOkM mX8_becomeLike 1 := ⟨by decide +kernel, ⟨by decide +kernel, by decide +kernel, by decide +kernel⟩, by decide, gT2 (i := 116) (by decide +kernel) (by decide +kernel), gT1 (i := 3) (by decide +kernel) (by decide +kernel)⟩
abbrev mX9_feed : gMD := (yX9_feed, cX9_feed, 4, (some .int))
theorem okX9_feed : gOkM mX9_feed 2 := ⟨by decide +kernel, ⟨by decide +kernel, by decide +kernel, by decide +kernel⟩, by decide, gT2 (i := 123) (by decide +kernel) (by decide +kernel), gT1 (i := 1) (by decide +kernel) (by decide +kernel)⟩
abbrev mX7_append : gMD := (yX7_append, cX7_append, 5, none)
theorem okX7_append : gOkM mX7_append 2 := ⟨by decide +kernel, ⟨by decide +kernel, by decide +kernel, by decide +kernel⟩, by decide, gT2 (i := 127) (by decide +kernel) (by decide +kernel), gT1 (i := 5) (by decide +kernel) (by decide +kernel)⟩
abbrev mX9_tableau : gMD := (yX9_tableau, cX9_tableau, 4, (some .int))
theorem okX9_tableau : gOkM mX9_tableau 1 := ⟨by decide +kernel, ⟨by decide +kernel, by decide +kernel, by decide +kernel⟩, by decide, gT2 (i := 131) (by decide +kernel) (by decide +kernel), gT1 (i := 1) (by decide +kernel) (by decide +kernel)⟩
abbrev mX7_readsTableau : gMD := (yX7_readsTableau, cX7_readsTableau, 5, (some .boolean))
theorem okX7_readsTableau : gOkM mX7_readsTableau 2 := ⟨by decide +kernel, ⟨by decide +kernel, by decide +kernel, by decide +kernel⟩, by decide, gT2 (i := 135) (by decide +kernel) (by decide +kernel), gT1 (i := 5) (by decide +kernel) (by decide +kernel)⟩
abbrev mX2_clear : gMD := (yX2_clear, cX2_clear, 1, none)
theorem okX2_clear : gOkM mX2_clear 0 := ⟨by decide +kernel, ⟨by decide +kernel, by decide +kernel, by decide +kernel⟩, by decide, gT2 (i := 139) (by decide +kernel) (by decide +kernel), gT1 (i := 7) (by decide +kernel) (by decide +kernel)⟩
abbrev mX7_rewind : gMD := (yX7_rewind, cX7_rewind, 1, none)
theorem okX7_rewind : gOkM mX7_rewind 0 := ⟨by decide +kernel, ⟨by decide +kernel, by decide +kernel, by decide +kernel⟩, by decide, gT2 (i := 144) (by decide +kernel) (by decide +kernel), gT1 (i := 5) (by decide +kernel) (by decide +kernel)⟩
abbrev mX7_goesOn : gMD := (yX7_goesOn, cX7_goesOn, 1, (some .boolean))
theorem okX7_goesOn : gOkM mX7_goesOn 0 := ⟨by decide +kernel, ⟨by decide +kernel, by decide +kernel, by decide +kernel⟩, by decide, gT2 (i := 148) (by decide +kernel) (by decide +kernel), gT1 (i := 5) (by decide +kernel) (by decide +kernel)⟩
abbrev mX2_hasRow : gMD := (yX2_hasRow, cX2_hasRow, 2, (some .boolean))
theorem okX2_hasRow : gOkM mX2_hasRow 1 := ⟨by decide +kernel, ⟨by decide +kernel, by decide +kernel, by decide +kernel⟩, by decide, gT2 (i := 152) (by decide +kernel) (by decide +kernel), gT1 (i := 7) (by decide +kernel) (by decide +kernel)⟩
abbrev mX7_isDigit : gMD := (yX7_isDigit, cX7_isDigit, 3, (some .boolean))
theorem okX7_isDigit : gOkM mX7_isDigit 2 := ⟨by decide +kernel, ⟨by decide +kernel, by decide +kernel, by decide +kernel⟩, by decide, gT2 (i := 156) (by decide +kernel) (by decide +kernel), gT1 (i := 5) (by decide +kernel) (by decide +kernel)⟩
abbrev mX2_takes : gMD := (yX2_takes, cX2_takes, 4, (some .boolean))
theorem okX2_takes : gOkM mX2_takes 2 := ⟨by decide +kernel, ⟨by decide +kernel, by decide +kernel, by decide +kernel⟩, by decide, gT2 (i := 160) (by decide +kernel) (by decide +kernel), gT1 (i := 7) (by decide +kernel) (by decide +kernel)⟩
abbrev mX2_cellAt : gMD := (yX2_cellAt, cX2_cellAt, 3, (some .int))
theorem okX2_cellAt : gOkM mX2_cellAt 2 := ⟨by decide +kernel, ⟨by decide +kernel, by decide +kernel, by decide +kernel⟩, by decide, gT2 (i := 164) (by decide +kernel) (by decide +kernel), gT1 (i := 7) (by decide +kernel) (by decide +kernel)⟩
abbrev mX2_append : gMD := (yX2_append, cX2_append, 4, none)
theorem okX2_append : gOkM mX2_append 2 := ⟨by decide +kernel, ⟨by decide +kernel, by decide +kernel, by decide +kernel⟩, by decide, gT2 (i := 168) (by decide +kernel) (by decide +kernel), gT1 (i := 7) (by decide +kernel) (by decide +kernel)⟩
abbrev mX7_useUp : gMD := (yX7_useUp, cX7_useUp, 1, none)
theorem okX7_useUp : gOkM mX7_useUp 0 := ⟨by decide +kernel, ⟨by decide +kernel, by decide +kernel, by decide +kernel⟩, by decide, gT2 (i := 175) (by decide +kernel) (by decide +kernel), gT1 (i := 5) (by decide +kernel) (by decide +kernel)⟩
abbrev mX2_writeTo : gMD := (yX2_writeTo, cX2_writeTo, 4, none)
theorem okX2_writeTo : gOkM mX2_writeTo 1 := ⟨by decide +kernel, ⟨by decide +kernel, by decide +kernel, by decide +kernel⟩, by decide, gT2 (i := 179) (by decide +kernel) (by decide +kernel), gT1 (i := 7) (by decide +kernel) (by decide +kernel)⟩
abbrev mX9_bare : gMD := (yX9_bare, cX9_bare, 3, (some .int))
theorem okX9_bare : gOkM mX9_bare 1 := ⟨by decide +kernel, ⟨by decide +kernel, by decide +kernel, by decide +kernel⟩, by decide, gT2 (i := 184) (by decide +kernel) (by decide +kernel), gT1 (i := 1) (by decide +kernel) (by decide +kernel)⟩
abbrev mX9_isHeld : gMD := (yX9_isHeld, cX9_isHeld, 2, (some .boolean))
theorem okX9_isHeld : gOkM mX9_isHeld 1 := ⟨by decide +kernel, ⟨by decide +kernel, by decide +kernel, by decide +kernel⟩, by decide, gT2 (i := 188) (by decide +kernel) (by decide +kernel), gT1 (i := 1) (by decide +kernel) (by decide +kernel)⟩
abbrev mX9_of : gMD := (yX9_of, cX9_of, 4, (some .int))
theorem okX9_of : gOkM mX9_of 2 := ⟨by decide +kernel, ⟨by decide +kernel, by decide +kernel, by decide +kernel⟩, by decide, gT2 (i := 193) (by decide +kernel) (by decide +kernel), gT1 (i := 1) (by decide +kernel) (by decide +kernel)⟩
abbrev mX8_number : gMD := (yX8_number, cX8_number, 1, (some .int))
theorem okX8_number : gOkM mX8_number 0 := ⟨by decide +kernel, ⟨by decide +kernel, by decide +kernel, by decide +kernel⟩, by decide, gT2 (i := 197) (by decide +kernel) (by decide +kernel), gT1 (i := 3) (by decide +kernel) (by decide +kernel)⟩
abbrev mX8_numberFrom : gMD := (yX8_numberFrom, cX8_numberFrom, 5, (some .int))
theorem okX8_numberFrom : gOkM mX8_numberFrom 2 := ⟨by decide +kernel, ⟨by decide +kernel, by decide +kernel, by decide +kernel⟩, by decide, gT2 (i := 201) (by decide +kernel) (by decide +kernel), gT1 (i := 3) (by decide +kernel) (by decide +kernel)⟩
abbrev mX8_content : gMD := (yX8_content, cX8_content, 6, (some .int))
theorem okX8_content : gOkM mX8_content 1 := ⟨by decide +kernel, ⟨by decide +kernel, by decide +kernel, by decide +kernel⟩, by decide, gT2 (i := 205) (by decide +kernel) (by decide +kernel), gT1 (i := 3) (by decide +kernel) (by decide +kernel)⟩
abbrev mX9_row : gMD := (yX9_row, cX9_row, 4, (some .int))
theorem okX9_row : gOkM mX9_row 2 := ⟨by decide +kernel, ⟨by decide +kernel, by decide +kernel, by decide +kernel⟩, by decide, gT2 (i := 209) (by decide +kernel) (by decide +kernel), gT1 (i := 1) (by decide +kernel) (by decide +kernel)⟩
abbrev mX8_numberOfRow : gMD := (yX8_numberOfRow, cX8_numberOfRow, 4, (some .int))
theorem okX8_numberOfRow : gOkM mX8_numberOfRow 1 := ⟨by decide +kernel, ⟨by decide +kernel, by decide +kernel, by decide +kernel⟩, by decide, gT2 (i := 213) (by decide +kernel) (by decide +kernel), gT1 (i := 3) (by decide +kernel) (by decide +kernel)⟩
abbrev mX9_taken : gMD := (yX9_taken, cX9_taken, 5, (some .int))
theorem okX9_taken : gOkM mX9_taken 2 := ⟨by decide +kernel, ⟨by decide +kernel, by decide +kernel, by decide +kernel⟩, by decide, gT2 (i := 217) (by decide +kernel) (by decide +kernel), gT1 (i := 1) (by decide +kernel) (by decide +kernel)⟩
abbrev mX9_signs : gMD := (yX9_signs, cX9_signs, 4, (some .int))
theorem okX9_signs : gOkM mX9_signs 3 := ⟨by decide +kernel, ⟨by decide +kernel, by decide +kernel, by decide +kernel⟩, by decide, gT2 (i := 221) (by decide +kernel) (by decide +kernel), gT1 (i := 1) (by decide +kernel) (by decide +kernel)⟩
abbrev mX9_isStep : gMD := (yX9_isStep, cX9_isStep, 2, (some .boolean))
theorem okX9_isStep : gOkM mX9_isStep 1 := ⟨by decide +kernel, ⟨by decide +kernel, by decide +kernel, by decide +kernel⟩, by decide, gT2 (i := 225) (by decide +kernel) (by decide +kernel), gT1 (i := 1) (by decide +kernel) (by decide +kernel)⟩
abbrev mX3_look : gMD := (yX3_look, cX3_look, 3, none)
theorem okX3_look : gOkM mX3_look 2 := ⟨by decide +kernel, ⟨by decide +kernel, by decide +kernel, by decide +kernel⟩, by decide, gT2 (i := 229) (by decide +kernel) (by decide +kernel), gT1 (i := 6) (by decide +kernel) (by decide +kernel)⟩
abbrev mX3_lookFromLeft : gMD := (yX3_lookFromLeft, cX3_lookFromLeft, 6, none)
theorem okX3_lookFromLeft : gOkM mX3_lookFromLeft 2 := ⟨by decide +kernel, ⟨by decide +kernel, by decide +kernel, by decide +kernel⟩, by decide, gT2 (i := 233) (by decide +kernel) (by decide +kernel), gT1 (i := 6) (by decide +kernel) (by decide +kernel)⟩
abbrev mX3_lookFromRight : gMD := (yX3_lookFromRight, cX3_lookFromRight, 6, none)
theorem okX3_lookFromRight : gOkM mX3_lookFromRight 2 := ⟨by decide +kernel, ⟨by decide +kernel, by decide +kernel, by decide +kernel⟩, by decide, gT2 (i := 237) (by decide +kernel) (by decide +kernel), gT1 (i := 6) (by decide +kernel) (by decide +kernel)⟩
abbrev mX9_act : gMD := (yX9_act, cX9_act, 6, (some .int))
theorem okX9_act : gOkM mX9_act 4 := ⟨by decide +kernel, ⟨by decide +kernel, by decide +kernel, by decide +kernel⟩, by decide, gT3 (i := 1) (by decide +kernel) (by decide +kernel), gT1 (i := 1) (by decide +kernel) (by decide +kernel)⟩
abbrev mX3_perform : gMD := (yX3_perform, cX3_perform, 5, (some .boolean))
theorem okX3_perform : gOkM mX3_perform 4 := ⟨by decide +kernel, ⟨by decide +kernel, by decide +kernel, by decide +kernel⟩, by decide, gT3 (i := 5) (by decide +kernel) (by decide +kernel), gT1 (i := 6) (by decide +kernel) (by decide +kernel)⟩
abbrev mX3_raiseOnce : gMD := (yX3_raiseOnce, cX3_raiseOnce, 3, (some .boolean))
theorem okX3_raiseOnce : gOkM mX3_raiseOnce 2 := ⟨by decide +kernel, ⟨by decide +kernel, by decide +kernel, by decide +kernel⟩, by decide, gT3 (i := 9) (by decide +kernel) (by decide +kernel), gT1 (i := 6) (by decide +kernel) (by decide +kernel)⟩
abbrev mX3_lowerOnce : gMD := (yX3_lowerOnce, cX3_lowerOnce, 3, (some .boolean))
theorem okX3_lowerOnce : gOkM mX3_lowerOnce 2 := ⟨by decide +kernel, ⟨by decide +kernel, by decide +kernel, by decide +kernel⟩, by decide, gT3 (i := 13) (by decide +kernel) (by decide +kernel), gT1 (i := 6) (by decide +kernel) (by decide +kernel)⟩
abbrev mX3_turn : gMD := (yX3_turn, cX3_turn, 4, none)
theorem okX3_turn : gOkM mX3_turn 2 := ⟨by decide +kernel, ⟨by decide +kernel, by decide +kernel, by decide +kernel⟩, by decide, gT3 (i := 18) (by decide +kernel) (by decide +kernel), gT1 (i := 6) (by decide +kernel) (by decide +kernel)⟩
abbrev mX2_insertAll : gMD := (yX2_insertAll, cX2_insertAll, 3, none)
theorem okX2_insertAll : gOkM mX2_insertAll 1 := ⟨by decide +kernel, ⟨by decide +kernel, by decide +kernel, by decide +kernel⟩, by decide, gT3 (i := 22) (by decide +kernel) (by decide +kernel), gT1 (i := 7) (by decide +kernel) (by decide +kernel)⟩
abbrev mX2_insertLetter : gMD := (yX2_insertLetter, cX2_insertLetter, 7, none)
theorem okX2_insertLetter : gOkM mX2_insertLetter 1 := ⟨by decide +kernel, ⟨by decide +kernel, by decide +kernel, by decide +kernel⟩, by decide, gT3 (i := 27) (by decide +kernel) (by decide +kernel), gT1 (i := 7) (by decide +kernel) (by decide +kernel)⟩
abbrev mX2_firstGreater : gMD := (yX2_firstGreater, cX2_firstGreater, 4, (some .int))
theorem okX2_firstGreater : gOkM mX2_firstGreater 2 := ⟨by decide +kernel, ⟨by decide +kernel, by decide +kernel, by decide +kernel⟩, by decide, gT3 (i := 31) (by decide +kernel) (by decide +kernel), gT1 (i := 7) (by decide +kernel) (by decide +kernel)⟩
abbrev mX3_moveAlong : gMD := (yX3_moveAlong, cX3_moveAlong, 6, none)
theorem okX3_moveAlong : gOkM mX3_moveAlong 3 := ⟨by decide +kernel, ⟨by decide +kernel, by decide +kernel, by decide +kernel⟩, by decide, gT3 (i := 37) (by decide +kernel) (by decide +kernel), gT1 (i := 6) (by decide +kernel) (by decide +kernel)⟩
abbrev mX3_raiseTimes : gMD := (yX3_raiseTimes, cX3_raiseTimes, 5, none)
theorem okX3_raiseTimes : gOkM mX3_raiseTimes 3 := ⟨by decide +kernel, ⟨by decide +kernel, by decide +kernel, by decide +kernel⟩, by decide, gT3 (i := 42) (by decide +kernel) (by decide +kernel), gT1 (i := 6) (by decide +kernel) (by decide +kernel)⟩
abbrev mX3_lowerTimes : gMD := (yX3_lowerTimes, cX3_lowerTimes, 5, none)
theorem okX3_lowerTimes : gOkM mX3_lowerTimes 3 := ⟨by decide +kernel, ⟨by decide +kernel, by decide +kernel, by decide +kernel⟩, by decide, gT3 (i := 46) (by decide +kernel) (by decide +kernel), gT1 (i := 6) (by decide +kernel) (by decide +kernel)⟩
abbrev mX8_isSameAs : gMD := (yX8_isSameAs, cX8_isSameAs, 3, (some .boolean))
theorem okX8_isSameAs : gOkM mX8_isSameAs 1 := ⟨by decide +kernel, ⟨by decide +kernel, by decide +kernel, by decide +kernel⟩, by decide, gT3 (i := 50) (by decide +kernel) (by decide +kernel), gT1 (i := 3) (by decide +kernel) (by decide +kernel)⟩
abbrev mX9_acts : gMD := (yX9_acts, cX9_acts, 5, (some .int))
theorem okX9_acts : gOkM mX9_acts 1 := ⟨by decide +kernel, ⟨by decide +kernel, by decide +kernel, by decide +kernel⟩, by decide, gT3 (i := 54) (by decide +kernel) (by decide +kernel), gT1 (i := 1) (by decide +kernel) (by decide +kernel)⟩
abbrev mX7_readsAct : gMD := (yX7_readsAct, cX7_readsAct, 2, (some .boolean))
theorem okX7_readsAct : gOkM mX7_readsAct 1 := ⟨by decide +kernel, ⟨by decide +kernel, by decide +kernel, by decide +kernel⟩, by decide, gT3 (i := 60) (by decide +kernel) (by decide +kernel), gT1 (i := 5) (by decide +kernel) (by decide +kernel)⟩
abbrev mX7_readsName : gMD := (yX7_readsName, cX7_readsName, 3, (some .boolean))
theorem okX7_readsName : gOkM mX7_readsName 0 := ⟨by decide +kernel, ⟨by decide +kernel, by decide +kernel, by decide +kernel⟩, by decide, gT3 (i := 64) (by decide +kernel) (by decide +kernel), gT1 (i := 5) (by decide +kernel) (by decide +kernel)⟩
abbrev mX7_endOfName : gMD := (yX7_endOfName, cX7_endOfName, 2, (some .int))
theorem okX7_endOfName : gOkM mX7_endOfName 0 := ⟨by decide +kernel, ⟨by decide +kernel, by decide +kernel, by decide +kernel⟩, by decide, gT3 (i := 68) (by decide +kernel) (by decide +kernel), gT1 (i := 5) (by decide +kernel) (by decide +kernel)⟩
abbrev mX7_nameOf : gMD := (yX7_nameOf, cX7_nameOf, 1, (some (.object "java/lang/String")))
theorem okX7_nameOf : gOkM mX7_nameOf 1 := ⟨by decide +kernel, ⟨by decide +kernel, by decide +kernel, by decide +kernel⟩, by decide, gT3 (i := 71) (by decide +kernel) (by decide +kernel), gT1 (i := 5) (by decide +kernel) (by decide +kernel)⟩
abbrev mX7_isName : gMD := (yX7_isName, cX7_isName, 4, (some .boolean))
theorem okX7_isName : gOkM mX7_isName 2 := ⟨by decide +kernel, ⟨by decide +kernel, by decide +kernel, by decide +kernel⟩, by decide, gT3 (i := 81) (by decide +kernel) (by decide +kernel), gT1 (i := 5) (by decide +kernel) (by decide +kernel)⟩
abbrev mJ0_length_8abf5 : gMD := (yJ0_length_8abf5, cJ0_length_8abf5, 1, (some .int))
theorem okJ0_length_8abf5 : gOkM mJ0_length_8abf5 0 := ⟨by decide +kernel, ⟨by decide +kernel, by decide +kernel, by decide +kernel⟩, by decide, gT3 (i := 85) (by decide +kernel) (by decide +kernel), gT1 (i := 15) (by decide +kernel) (by decide +kernel)⟩
abbrev mJ0_coder_7d493 : gMD := (yJ0_coder_7d493, cJ0_coder_7d493, 1, (some .byte))
theorem okJ0_coder_7d493 : gOkM mJ0_coder_7d493 0 := ⟨by decide +kernel, ⟨by decide +kernel, by decide +kernel, by decide +kernel⟩, by decide, gT3 (i := 89) (by decide +kernel) (by decide +kernel), gT1 (i := 15) (by decide +kernel) (by decide +kernel)⟩
abbrev mJ0_charAt_5068e : gMD := (yJ0_charAt_5068e, cJ0_charAt_5068e, 2, (some .char))
theorem okJ0_charAt_5068e : gOkM mJ0_charAt_5068e 1 := ⟨by decide +kernel, ⟨by decide +kernel, by decide +kernel, by decide +kernel⟩, by decide, gT3 (i := 95) (by decide +kernel) (by decide +kernel), gT1 (i := 15) (by decide +kernel) (by decide +kernel)⟩
abbrev mJ0_isLatin1_aae02 : gMD := (yJ0_isLatin1_aae02, cJ0_isLatin1_aae02, 1, (some .boolean))
theorem okJ0_isLatin1_aae02 : gOkM mJ0_isLatin1_aae02 0 := ⟨by decide +kernel, ⟨by decide +kernel, by decide +kernel, by decide +kernel⟩, by decide, gT3 (i := 99) (by decide +kernel) (by decide +kernel), gT1 (i := 15) (by decide +kernel) (by decide +kernel)⟩
abbrev mJ1_charAt_3b067 : gMD := (yJ1_charAt_3b067, cJ1_charAt_3b067, 2, (some .char))
theorem okJ1_charAt_3b067 : gOkM mJ1_charAt_3b067 2 := ⟨by decide +kernel, ⟨by decide +kernel, by decide +kernel, by decide +kernel⟩, by decide, gT3 (i := 102) (by decide +kernel) (by decide +kernel), gT1 (i := 16) (by decide +kernel) (by decide +kernel)⟩
abbrev mJ0_checkIndex_df160 : gMD := (yJ0_checkIndex_df160, cJ0_checkIndex_df160, 2, none)
theorem okJ0_checkIndex_df160 : gOkM mJ0_checkIndex_df160 2 := ⟨by decide +kernel, ⟨by decide +kernel, by decide +kernel, by decide +kernel⟩, by decide, gT3 (i := 105) (by decide +kernel) (by decide +kernel), gT1 (i := 15) (by decide +kernel) (by decide +kernel)⟩
abbrev mJ3_checkIndex_8e157 : gMD := (yJ3_checkIndex_8e157, cJ3_checkIndex_8e157, 3, (some .int))
theorem okJ3_checkIndex_8e157 : gOkM mJ3_checkIndex_8e157 3 := ⟨by decide +kernel, ⟨by decide +kernel, by decide +kernel, by decide +kernel⟩, by decide, gT3 (i := 110) (by decide +kernel) (by decide +kernel), gT1 (i := 17) (by decide +kernel) (by decide +kernel)⟩
abbrev mJ2_charAt_3b067 : gMD := (yJ2_charAt_3b067, cJ2_charAt_3b067, 2, (some .char))
theorem okJ2_charAt_3b067 : gOkM mJ2_charAt_3b067 2 := ⟨by decide +kernel, ⟨by decide +kernel, by decide +kernel, by decide +kernel⟩, by decide, gT3 (i := 113) (by decide +kernel) (by decide +kernel), gT1 (i := 18) (by decide +kernel) (by decide +kernel)⟩
abbrev mJ2_checkIndex_2214a : gMD := (yJ2_checkIndex_2214a, cJ2_checkIndex_2214a, 2, none)
theorem okJ2_checkIndex_2214a : gOkM mJ2_checkIndex_2214a 2 := ⟨by decide +kernel, ⟨by decide +kernel, by decide +kernel, by decide +kernel⟩, by decide, gT3 (i := 116) (by decide +kernel) (by decide +kernel), gT1 (i := 18) (by decide +kernel) (by decide +kernel)⟩
abbrev mJ2_length_9d52b : gMD := (yJ2_length_9d52b, cJ2_length_9d52b, 1, (some .int))
theorem okJ2_length_9d52b : gOkM mJ2_length_9d52b 1 := ⟨by decide +kernel, ⟨by decide +kernel, by decide +kernel, by decide +kernel⟩, by decide, gT3 (i := 119) (by decide +kernel) (by decide +kernel), gT1 (i := 18) (by decide +kernel) (by decide +kernel)⟩
abbrev mJ2_getChar_3b067 : gMD := (yJ2_getChar_3b067, cJ2_getChar_3b067, 2, (some .char))
theorem okJ2_getChar_3b067 : gOkM mJ2_getChar_3b067 2 := ⟨by decide +kernel, ⟨by decide +kernel, by decide +kernel, by decide +kernel⟩, by decide, gT3 (i := 123) (by decide +kernel) (by decide +kernel), gT1 (i := 18) (by decide +kernel) (by decide +kernel)⟩
abbrev mX7_readsStep : gMD := (yX7_readsStep, cX7_readsStep, 2, (some .boolean))
theorem okX7_readsStep : gOkM mX7_readsStep 1 := ⟨by decide +kernel, ⟨by decide +kernel, by decide +kernel, by decide +kernel⟩, by decide, gT3 (i := 133) (by decide +kernel) (by decide +kernel), gT1 (i := 5) (by decide +kernel) (by decide +kernel)⟩
abbrev mX7_readsSemicolon : gMD := (yX7_readsSemicolon, cX7_readsSemicolon, 1, (some .boolean))
theorem okX7_readsSemicolon : gOkM mX7_readsSemicolon 0 := ⟨by decide +kernel, ⟨by decide +kernel, by decide +kernel, by decide +kernel⟩, by decide, gT3 (i := 137) (by decide +kernel) (by decide +kernel), gT1 (i := 5) (by decide +kernel) (by decide +kernel)⟩
abbrev mX9_highest : gMD := (yX9_highest, cX9_highest, 4, (some .int))
theorem okX9_highest : gOkM mX9_highest 2 := ⟨by decide +kernel, ⟨by decide +kernel, by decide +kernel, by decide +kernel⟩, by decide, gT3 (i := 142) (by decide +kernel) (by decide +kernel), gT1 (i := 1) (by decide +kernel) (by decide +kernel)⟩
abbrev mX3_raiseToHighest : gMD := (yX3_raiseToHighest, cX3_raiseToHighest, 4, (some .int))
theorem okX3_raiseToHighest : gOkM mX3_raiseToHighest 2 := ⟨by decide +kernel, ⟨by decide +kernel, by decide +kernel, by decide +kernel⟩, by decide, gT3 (i := 146) (by decide +kernel) (by decide +kernel), gT1 (i := 6) (by decide +kernel) (by decide +kernel)⟩
abbrev mX3_raisesForLeast : gMD := (yX3_raisesForLeast, cX3_raisesForLeast, 4, (some .boolean))
theorem okX3_raisesForLeast : gOkM mX3_raisesForLeast 2 := ⟨by decide +kernel, ⟨by decide +kernel, by decide +kernel, by decide +kernel⟩, by decide, gT3 (i := 150) (by decide +kernel) (by decide +kernel), gT1 (i := 6) (by decide +kernel) (by decide +kernel)⟩
abbrev mX9_all : gMD := (yX9_all, cX9_all, 3, (some .int))
theorem okX9_all : gOkM mX9_all 2 := ⟨by decide +kernel, ⟨by decide +kernel, by decide +kernel, by decide +kernel⟩, by decide, gT3 (i := 154) (by decide +kernel) (by decide +kernel), gT1 (i := 1) (by decide +kernel) (by decide +kernel)⟩
abbrev mX0_gather : gMD := (yX0_gather, cX0_gather, 5, none)
theorem okX0_gather : gOkM mX0_gather 3 := ⟨by decide +kernel, ⟨by decide +kernel, by decide +kernel, by decide +kernel⟩, by decide, gT3 (i := 158) (by decide +kernel) (by decide +kernel), gT1 (i := 8) (by decide +kernel) (by decide +kernel)⟩
abbrev mX0_codeOf : gMD := (yX0_codeOf, cX0_codeOf, 4, (some .int))
theorem okX0_codeOf : gOkM mX0_codeOf 1 := ⟨by decide +kernel, ⟨by decide +kernel, by decide +kernel, by decide +kernel⟩, by decide, gT3 (i := 162) (by decide +kernel) (by decide +kernel), gT1 (i := 8) (by decide +kernel) (by decide +kernel)⟩
abbrev mX0_isMarked : gMD := (yX0_isMarked, cX0_isMarked, 2, (some .boolean))
theorem okX0_isMarked : gOkM mX0_isMarked 1 := ⟨by decide +kernel, ⟨by decide +kernel, by decide +kernel, by decide +kernel⟩, by decide, gT3 (i := 166) (by decide +kernel) (by decide +kernel), gT1 (i := 8) (by decide +kernel) (by decide +kernel)⟩
abbrev mJ7_fill_d0a16 : gMD := (yJ7_fill_d0a16, cJ7_fill_d0a16, 5, none)
theorem okJ7_fill_d0a16 : gOkM mJ7_fill_d0a16 2 := ⟨by decide +kernel, ⟨by decide +kernel, by decide +kernel, by decide +kernel⟩, by decide, gT3 (i := 169) (by decide +kernel) (by decide +kernel), gT1 (i := 4) (by decide +kernel) (by decide +kernel)⟩
abbrev mX0_admit : gMD := (yX0_admit, cX0_admit, 2, none)
theorem okX0_admit : gOkM mX0_admit 1 := ⟨by decide +kernel, ⟨by decide +kernel, by decide +kernel, by decide +kernel⟩, by decide, gT3 (i := 175) (by decide +kernel) (by decide +kernel), gT1 (i := 8) (by decide +kernel) (by decide +kernel)⟩
abbrev mX0_readCode : gMD := (yX0_readCode, cX0_readCode, 4, none)
theorem okX0_readCode : gOkM mX0_readCode 1 := ⟨by decide +kernel, ⟨by decide +kernel, by decide +kernel, by decide +kernel⟩, by decide, gT3 (i := 179) (by decide +kernel) (by decide +kernel), gT1 (i := 8) (by decide +kernel) (by decide +kernel)⟩
abbrev mX0_admitLowered : gMD := (yX0_admitLowered, cX0_admitLowered, 3, none)
theorem okX0_admitLowered : gOkM mX0_admitLowered 1 := ⟨by decide +kernel, ⟨by decide +kernel, by decide +kernel, by decide +kernel⟩, by decide, gT3 (i := 184) (by decide +kernel) (by decide +kernel), gT1 (i := 8) (by decide +kernel) (by decide +kernel)⟩
abbrev mX0_numberOfMember : gMD := (yX0_numberOfMember, cX0_numberOfMember, 5, (some .int))
theorem okX0_numberOfMember : gOkM mX0_numberOfMember 1 := ⟨by decide +kernel, ⟨by decide +kernel, by decide +kernel, by decide +kernel⟩, by decide, gT3 (i := 189) (by decide +kernel) (by decide +kernel), gT1 (i := 8) (by decide +kernel) (by decide +kernel)⟩
abbrev mJ13_bitCount_95d88 : gMD := (yJ13_bitCount_95d88, cJ13_bitCount_95d88, 2, (some .int))
theorem okJ13_bitCount_95d88 : gOkM mJ13_bitCount_95d88 1 := ⟨by decide +kernel, ⟨by decide +kernel, by decide +kernel, by decide +kernel⟩, by decide, gT3 (i := 192) (by decide +kernel) (by decide +kernel), gT1 (i := 20) (by decide +kernel) (by decide +kernel)⟩
abbrev mX0_bitOf : gMD := (yX0_bitOf, cX0_bitOf, 6, (some .int))
theorem okX0_bitOf : gOkM mX0_bitOf 2 := ⟨by decide +kernel, ⟨by decide +kernel, by decide +kernel, by decide +kernel⟩, by decide, gT3 (i := 198) (by decide +kernel) (by decide +kernel), gT1 (i := 8) (by decide +kernel) (by decide +kernel)⟩
abbrev mJ13_numberOfTrailingZeros_95d88 : gMD := (yJ13_numberOfTrailingZeros_95d88, cJ13_numberOfTrailingZeros_95d88, 3, (some .int))
theorem okJ13_numberOfTrailingZeros_95d88 : gOkM mJ13_numberOfTrailingZeros_95d88 1 := ⟨by decide +kernel, ⟨by decide +kernel, by decide +kernel, by decide +kernel⟩, by decide, gT3 (i := 201) (by decide +kernel) (by decide +kernel), gT1 (i := 20) (by decide +kernel) (by decide +kernel)⟩
abbrev mJ6_numberOfTrailingZeros_0f7a4 : gMD := (yJ6_numberOfTrailingZeros_0f7a4, cJ6_numberOfTrailingZeros_0f7a4, 2, (some .int))
theorem okJ6_numberOfTrailingZeros_0f7a4 : gOkM mJ6_numberOfTrailingZeros_0f7a4 1 := ⟨by decide +kernel, ⟨by decide +kernel, by decide +kernel, by decide +kernel⟩, by decide, gT3 (i := 204) (by decide +kernel) (by decide +kernel), gT1 (i := 21) (by decide +kernel) (by decide +kernel)⟩
abbrev mX9_stands : gMD := (yX9_stands, cX9_stands, 2, (some .int))
theorem okX9_stands : gOkM mX9_stands 1 := ⟨by decide +kernel, ⟨by decide +kernel, by decide +kernel, by decide +kernel⟩, by decide, gT3 (i := 210) (by decide +kernel) (by decide +kernel), gT1 (i := 1) (by decide +kernel) (by decide +kernel)⟩
abbrev mX0_placeOf : gMD := (yX0_placeOf, cX0_placeOf, 6, (some .int))
theorem okX0_placeOf : gOkM mX0_placeOf 1 := ⟨by decide +kernel, ⟨by decide +kernel, by decide +kernel, by decide +kernel⟩, by decide, gT3 (i := 214) (by decide +kernel) (by decide +kernel), gT1 (i := 8) (by decide +kernel) (by decide +kernel)⟩
abbrev mX9_way : gMD := (yX9_way, cX9_way, 2, (some .int))
theorem okX9_way : gOkM mX9_way 1 := ⟨by decide +kernel, ⟨by decide +kernel, by decide +kernel, by decide +kernel⟩, by decide, gT3 (i := 218) (by decide +kernel) (by decide +kernel), gT1 (i := 1) (by decide +kernel) (by decide +kernel)⟩
abbrev mX3_lowerToLowest : gMD := (yX3_lowerToLowest, cX3_lowerToLowest, 4, (some .int))
theorem okX3_lowerToLowest : gOkM mX3_lowerToLowest 2 := ⟨by decide +kernel, ⟨by decide +kernel, by decide +kernel, by decide +kernel⟩, by decide, gT3 (i := 222) (by decide +kernel) (by decide +kernel), gT1 (i := 6) (by decide +kernel) (by decide +kernel)⟩
abbrev mX3_lowersForLeast : gMD := (yX3_lowersForLeast, cX3_lowersForLeast, 4, (some .boolean))
theorem okX3_lowersForLeast : gOkM mX3_lowersForLeast 2 := ⟨by decide +kernel, ⟨by decide +kernel, by decide +kernel, by decide +kernel⟩, by decide, gT3 (i := 226) (by decide +kernel) (by decide +kernel), gT1 (i := 6) (by decide +kernel) (by decide +kernel)⟩
abbrev mX9_pair : gMD := (yX9_pair, cX9_pair, 5, (some .int))
theorem okX9_pair : gOkM mX9_pair 3 := ⟨by decide +kernel, ⟨by decide +kernel, by decide +kernel, by decide +kernel⟩, by decide, gT3 (i := 230) (by decide +kernel) (by decide +kernel), gT1 (i := 1) (by decide +kernel) (by decide +kernel)⟩
abbrev mX3_canRaise : gMD := (yX3_canRaise, cX3_canRaise, 3, (some .boolean))
theorem okX3_canRaise : gOkM mX3_canRaise 2 := ⟨by decide +kernel, ⟨by decide +kernel, by decide +kernel, by decide +kernel⟩, by decide, gT3 (i := 234) (by decide +kernel) (by decide +kernel), gT1 (i := 6) (by decide +kernel) (by decide +kernel)⟩
abbrev mX9_meetInTwo : gMD := (yX9_meetInTwo, cX9_meetInTwo, 4, (some .boolean))
theorem okX9_meetInTwo : gOkM mX9_meetInTwo 3 := ⟨by decide +kernel, ⟨by decide +kernel, by decide +kernel, by decide +kernel⟩, by decide, gT3 (i := 238) (by decide +kernel) (by decide +kernel), gT1 (i := 1) (by decide +kernel) (by decide +kernel)⟩
abbrev mX9_meetInFour : gMD := (yX9_meetInFour, cX9_meetInFour, 4, (some .boolean))
theorem okX9_meetInFour : gOkM mX9_meetInFour 3 := ⟨by decide +kernel, ⟨by decide +kernel, by decide +kernel, by decide +kernel⟩, by decide, gT4 (i := 4) (by decide +kernel) (by decide +kernel), gT1 (i := 1) (by decide +kernel) (by decide +kernel)⟩
abbrev mX9_raisesOutAndBack : gMD := (yX9_raisesOutAndBack, cX9_raisesOutAndBack, 4, (some .boolean))
theorem okX9_raisesOutAndBack : gOkM mX9_raisesOutAndBack 3 := ⟨by decide +kernel, ⟨by decide +kernel, by decide +kernel, by decide +kernel⟩, by decide, gT4 (i := 8) (by decide +kernel) (by decide +kernel), gT1 (i := 1) (by decide +kernel) (by decide +kernel)⟩
abbrev mX9_insert : gMD := (yX9_insert, cX9_insert, 3, (some .int))
theorem okX9_insert : gOkM mX9_insert 2 := ⟨by decide +kernel, ⟨by decide +kernel, by decide +kernel, by decide +kernel⟩, by decide, gT4 (i := 12) (by decide +kernel) (by decide +kernel), gT1 (i := 1) (by decide +kernel) (by decide +kernel)⟩
abbrev mX9_record : gMD := (yX9_record, cX9_record, 3, (some .int))
theorem okX9_record : gOkM mX9_record 2 := ⟨by decide +kernel, ⟨by decide +kernel, by decide +kernel, by decide +kernel⟩, by decide, gT4 (i := 17) (by decide +kernel) (by decide +kernel), gT1 (i := 1) (by decide +kernel) (by decide +kernel)⟩
abbrev mX2_turnsOfRow : gMD := (yX2_turnsOfRow, cX2_turnsOfRow, 4, (some .int))
theorem okX2_turnsOfRow : gOkM mX2_turnsOfRow 1 := ⟨by decide +kernel, ⟨by decide +kernel, by decide +kernel, by decide +kernel⟩, by decide, gT4 (i := 21) (by decide +kernel) (by decide +kernel), gT1 (i := 7) (by decide +kernel) (by decide +kernel)⟩
abbrev mX9_alike : gMD := (yX9_alike, cX9_alike, 3, (some .int))
theorem okX9_alike : gOkM mX9_alike 2 := ⟨by decide +kernel, ⟨by decide +kernel, by decide +kernel, by decide +kernel⟩, by decide, gT4 (i := 25) (by decide +kernel) (by decide +kernel), gT1 (i := 1) (by decide +kernel) (by decide +kernel)⟩
abbrev mX9_count : gMD := (yX9_count, cX9_count, 3, (some .int))
theorem okX9_count : gOkM mX9_count 2 := ⟨by decide +kernel, ⟨by decide +kernel, by decide +kernel, by decide +kernel⟩, by decide, gT4 (i := 29) (by decide +kernel) (by decide +kernel), gT1 (i := 1) (by decide +kernel) (by decide +kernel)⟩
abbrev mX4_isTold : gMD := (yX4_isTold, cX4_isTold, 6, (some .boolean))
theorem okX4_isTold : gOkM mX4_isTold 2 := ⟨by decide +kernel, ⟨by decide +kernel, by decide +kernel, by decide +kernel⟩, by decide, gT4 (i := 33) (by decide +kernel) (by decide +kernel), gT1 (i := 10) (by decide +kernel) (by decide +kernel)⟩
abbrev mX1_allowContent : gMD := (yX1_allowContent, cX1_allowContent, 5, (some .boolean))
theorem okX1_allowContent : gOkM mX1_allowContent 2 := ⟨by decide +kernel, ⟨by decide +kernel, by decide +kernel, by decide +kernel⟩, by decide, gT4 (i := 38) (by decide +kernel) (by decide +kernel), gT1 (i := 9) (by decide +kernel) (by decide +kernel)⟩
abbrev mX1_allowedInAll : gMD := (yX1_allowedInAll, cX1_allowedInAll, 4, (some .int))
theorem okX1_allowedInAll : gOkM mX1_allowedInAll 1 := ⟨by decide +kernel, ⟨by decide +kernel, by decide +kernel, by decide +kernel⟩, by decide, gT4 (i := 43) (by decide +kernel) (by decide +kernel), gT1 (i := 9) (by decide +kernel) (by decide +kernel)⟩
abbrev mX1_worthOneEach : gMD := (yX1_worthOneEach, cX1_worthOneEach, 1, none)
theorem okX1_worthOneEach : gOkM mX1_worthOneEach 0 := ⟨by decide +kernel, ⟨by decide +kernel, by decide +kernel, by decide +kernel⟩, by decide, gT4 (i := 48) (by decide +kernel) (by decide +kernel), gT1 (i := 9) (by decide +kernel) (by decide +kernel)⟩
abbrev mX1_sum : gMD := (yX1_sum, cX1_sum, 3, (some .long))
theorem okX1_sum : gOkM mX1_sum 2 := ⟨by decide +kernel, ⟨by decide +kernel, by decide +kernel, by decide +kernel⟩, by decide, gT4 (i := 53) (by decide +kernel) (by decide +kernel), gT1 (i := 9) (by decide +kernel) (by decide +kernel)⟩
abbrev mX1_sumFrom : gMD := (yX1_sumFrom, cX1_sumFrom, 10, (some .long))
theorem okX1_sumFrom : gOkM mX1_sumFrom 6 := ⟨by decide +kernel, ⟨by decide +kernel, by decide +kernel, by decide +kernel⟩, by decide, gT4 (i := 56) (by decide +kernel) (by decide +kernel), gT1 (i := 9) (by decide +kernel) (by decide +kernel)⟩
abbrev mX1_counts : gMD := (yX1_counts, cX1_counts, 2, (some .boolean))
theorem okX1_counts : gOkM mX1_counts 1 := ⟨by decide +kernel, ⟨by decide +kernel, by decide +kernel, by decide +kernel⟩, by decide, gT4 (i := 60) (by decide +kernel) (by decide +kernel), gT1 (i := 9) (by decide +kernel) (by decide +kernel)⟩
abbrev mX1_join : gMD := (yX1_join, cX1_join, 7, none)
theorem okX1_join : gOkM mX1_join 2 := ⟨by decide +kernel, ⟨by decide +kernel, by decide +kernel, by decide +kernel⟩, by decide, gT4 (i := 64) (by decide +kernel) (by decide +kernel), gT1 (i := 9) (by decide +kernel) (by decide +kernel)⟩
abbrev mX3_isHighest : gMD := (yX3_isHighest, cX3_isHighest, 4, (some .boolean))
theorem okX3_isHighest : gOkM mX3_isHighest 2 := ⟨by decide +kernel, ⟨by decide +kernel, by decide +kernel, by decide +kernel⟩, by decide, gT4 (i := 70) (by decide +kernel) (by decide +kernel), gT1 (i := 6) (by decide +kernel) (by decide +kernel)⟩
abbrev mX4_lengthOf : gMD := (yX4_lengthOf, cX4_lengthOf, 2, (some .int))
theorem okX4_lengthOf : gOkM mX4_lengthOf 1 := ⟨by decide +kernel, ⟨by decide +kernel, by decide +kernel, by decide +kernel⟩, by decide, gT4 (i := 75) (by decide +kernel) (by decide +kernel), gT1 (i := 10) (by decide +kernel) (by decide +kernel)⟩
abbrev mX1_leastLetter : gMD := (yX1_leastLetter, cX1_leastLetter, 6, (some .int))
theorem okX1_leastLetter : gOkM mX1_leastLetter 4 := ⟨by decide +kernel, ⟨by decide +kernel, by decide +kernel, by decide +kernel⟩, by decide, gT4 (i := 79) (by decide +kernel) (by decide +kernel), gT1 (i := 9) (by decide +kernel) (by decide +kernel)⟩
abbrev mX9_together : gMD := (yX9_together, cX9_together, 5, (some .int))
theorem okX9_together : gOkM mX9_together 3 := ⟨by decide +kernel, ⟨by decide +kernel, by decide +kernel, by decide +kernel⟩, by decide, gT4 (i := 84) (by decide +kernel) (by decide +kernel), gT1 (i := 1) (by decide +kernel) (by decide +kernel)⟩
abbrev mX1_allowDifference : gMD := (yX1_allowDifference, cX1_allowDifference, 4, (some .boolean))
theorem okX1_allowDifference : gOkM mX1_allowDifference 2 := ⟨by decide +kernel, ⟨by decide +kernel, by decide +kernel, by decide +kernel⟩, by decide, gT4 (i := 88) (by decide +kernel) (by decide +kernel), gT1 (i := 9) (by decide +kernel) (by decide +kernel)⟩
abbrev mX1_countHighest : gMD := (yX1_countHighest, cX1_countHighest, 5, (some .int))
theorem okX1_countHighest : gOkM mX1_countHighest 4 := ⟨by decide +kernel, ⟨by decide +kernel, by decide +kernel, by decide +kernel⟩, by decide, gT4 (i := 92) (by decide +kernel) (by decide +kernel), gT1 (i := 9) (by decide +kernel) (by decide +kernel)⟩
abbrev mX9_worth : gMD := (yX9_worth, cX9_worth, 4, (some .int))
theorem okX9_worth : gOkM mX9_worth 2 := ⟨by decide +kernel, ⟨by decide +kernel, by decide +kernel, by decide +kernel⟩, by decide, gT4 (i := 96) (by decide +kernel) (by decide +kernel), gT1 (i := 1) (by decide +kernel) (by decide +kernel)⟩
abbrev mX9_isLetter : gMD := (yX9_isLetter, cX9_isLetter, 2, (some .boolean))
theorem okX9_isLetter : gOkM mX9_isLetter 1 := ⟨by decide +kernel, ⟨by decide +kernel, by decide +kernel, by decide +kernel⟩, by decide, gT4 (i := 100) (by decide +kernel) (by decide +kernel), gT1 (i := 1) (by decide +kernel) (by decide +kernel)⟩
abbrev mX9_worthOf : gMD := (yX9_worthOf, cX9_worthOf, 4, (some .int))
theorem okX9_worthOf : gOkM mX9_worthOf 1 := ⟨by decide +kernel, ⟨by decide +kernel, by decide +kernel, by decide +kernel⟩, by decide, gT4 (i := 104) (by decide +kernel) (by decide +kernel), gT1 (i := 1) (by decide +kernel) (by decide +kernel)⟩
abbrev mX1_allowAny : gMD := (yX1_allowAny, cX1_allowAny, 1, none)
theorem okX1_allowAny : gOkM mX1_allowAny 0 := ⟨by decide +kernel, ⟨by decide +kernel, by decide +kernel, by decide +kernel⟩, by decide, gT4 (i := 108) (by decide +kernel) (by decide +kernel), gT1 (i := 9) (by decide +kernel) (by decide +kernel)⟩
abbrev mX1_worthAs : gMD := (yX1_worthAs, cX1_worthAs, 2, none)
theorem okX1_worthAs : gOkM mX1_worthAs 1 := ⟨by decide +kernel, ⟨by decide +kernel, by decide +kernel, by decide +kernel⟩, by decide, gT4 (i := 112) (by decide +kernel) (by decide +kernel), gT1 (i := 9) (by decide +kernel) (by decide +kernel)⟩
abbrev mX9_seed : gMD := (yX9_seed, cX9_seed, 3, (some .int))
theorem okX9_seed : gOkM mX9_seed 1 := ⟨by decide +kernel, ⟨by decide +kernel, by decide +kernel, by decide +kernel⟩, by decide, gT4 (i := 117) (by decide +kernel) (by decide +kernel), gT1 (i := 1) (by decide +kernel) (by decide +kernel)⟩
abbrev mX9_lot : gMD := (yX9_lot, cX9_lot, 5, (some .int))
theorem okX9_lot : gOkM mX9_lot 2 := ⟨by decide +kernel, ⟨by decide +kernel, by decide +kernel, by decide +kernel⟩, by decide, gT4 (i := 121) (by decide +kernel) (by decide +kernel), gT1 (i := 1) (by decide +kernel) (by decide +kernel)⟩
abbrev mX6_draw : gMD := (yX6_draw, cX6_draw, 1, (some .int))
theorem okX6_draw : gOkM mX6_draw 0 := ⟨by decide +kernel, ⟨by decide +kernel, by decide +kernel, by decide +kernel⟩, by decide, gT4 (i := 126) (by decide +kernel) (by decide +kernel), gT1 (i := 2) (by decide +kernel) (by decide +kernel)⟩
abbrev mX9_sheet : gMD := (yX9_sheet, cX9_sheet, 4, (some .int))
theorem okX9_sheet : gOkM mX9_sheet 3 := ⟨by decide +kernel, ⟨by decide +kernel, by decide +kernel, by decide +kernel⟩, by decide, gT4 (i := 131) (by decide +kernel) (by decide +kernel), gT1 (i := 1) (by decide +kernel) (by decide +kernel)⟩
abbrev mX9_isSheet : gMD := (yX9_isSheet, cX9_isSheet, 1, (some .boolean))
theorem okX9_isSheet : gOkM mX9_isSheet 1 := ⟨by decide +kernel, ⟨by decide +kernel, by decide +kernel, by decide +kernel⟩, by decide, gT4 (i := 134) (by decide +kernel) (by decide +kernel), gT1 (i := 1) (by decide +kernel) (by decide +kernel)⟩
abbrev mX5_becomeMissing : gMD := (yX5_becomeMissing, cX5_becomeMissing, 1, none)
theorem okX5_becomeMissing : gOkM mX5_becomeMissing 0 := ⟨by decide +kernel, ⟨by decide +kernel, by decide +kernel, by decide +kernel⟩, by decide, gT4 (i := 138) (by decide +kernel) (by decide +kernel), gT1 (i := 11) (by decide +kernel) (by decide +kernel)⟩
abbrev mX5_becomeRow : gMD := (yX5_becomeRow, cX5_becomeRow, 3, none)
theorem okX5_becomeRow : gOkM mX5_becomeRow 2 := ⟨by decide +kernel, ⟨by decide +kernel, by decide +kernel, by decide +kernel⟩, by decide, gT4 (i := 142) (by decide +kernel) (by decide +kernel), gT1 (i := 11) (by decide +kernel) (by decide +kernel)⟩
abbrev mX9_put : gMD := (yX9_put, cX9_put, 5, (some .int))
theorem okX9_put : gOkM mX9_put 3 := ⟨by decide +kernel, ⟨by decide +kernel, by decide +kernel, by decide +kernel⟩, by decide, gT4 (i := 147) (by decide +kernel) (by decide +kernel), gT1 (i := 1) (by decide +kernel) (by decide +kernel)⟩
abbrev mX5_isMissing : gMD := (yX5_isMissing, cX5_isMissing, 1, (some .boolean))
theorem okX5_isMissing : gOkM mX5_isMissing 0 := ⟨by decide +kernel, ⟨by decide +kernel, by decide +kernel, by decide +kernel⟩, by decide, gT4 (i := 151) (by decide +kernel) (by decide +kernel), gT1 (i := 11) (by decide +kernel) (by decide +kernel)⟩
abbrev mX5_hasPlaces : gMD := (yX5_hasPlaces, cX5_hasPlaces, 3, (some .boolean))
theorem okX5_hasPlaces : gOkM mX5_hasPlaces 2 := ⟨by decide +kernel, ⟨by decide +kernel, by decide +kernel, by decide +kernel⟩, by decide, gT4 (i := 155) (by decide +kernel) (by decide +kernel), gT1 (i := 11) (by decide +kernel) (by decide +kernel)⟩
abbrev mX5_write : gMD := (yX5_write, cX5_write, 3, none)
theorem okX5_write : gOkM mX5_write 2 := ⟨by decide +kernel, ⟨by decide +kernel, by decide +kernel, by decide +kernel⟩, by decide, gT4 (i := 159) (by decide +kernel) (by decide +kernel), gT1 (i := 11) (by decide +kernel) (by decide +kernel)⟩
abbrev mX9_item : gMD := (yX9_item, cX9_item, 5, (some .int))
theorem okX9_item : gOkM mX9_item 3 := ⟨by decide +kernel, ⟨by decide +kernel, by decide +kernel, by decide +kernel⟩, by decide, gT4 (i := 163) (by decide +kernel) (by decide +kernel), gT1 (i := 1) (by decide +kernel) (by decide +kernel)⟩
abbrev mX9_copy : gMD := (yX9_copy, cX9_copy, 8, (some .int))
theorem okX9_copy : gOkM mX9_copy 5 := ⟨by decide +kernel, ⟨by decide +kernel, by decide +kernel, by decide +kernel⟩, by decide, gT4 (i := 167) (by decide +kernel) (by decide +kernel), gT1 (i := 1) (by decide +kernel) (by decide +kernel)⟩
abbrev mX9_lay : gMD := (yX9_lay, cX9_lay, 7, (some .int))
theorem okX9_lay : gOkM mX9_lay 3 := ⟨by decide +kernel, ⟨by decide +kernel, by decide +kernel, by decide +kernel⟩, by decide, gT4 (i := 172) (by decide +kernel) (by decide +kernel), gT1 (i := 1) (by decide +kernel) (by decide +kernel)⟩
abbrev mX9_take : gMD := (yX9_take, cX9_take, 8, (some .int))
theorem okX9_take : gOkM mX9_take 4 := ⟨by decide +kernel, ⟨by decide +kernel, by decide +kernel, by decide +kernel⟩, by decide, gT4 (i := 176) (by decide +kernel) (by decide +kernel), gT1 (i := 1) (by decide +kernel) (by decide +kernel)⟩
abbrev mX9_many : gMD := (yX9_many, cX9_many, 2, (some .int))
theorem okX9_many : gOkM mX9_many 1 := ⟨by decide +kernel, ⟨by decide +kernel, by decide +kernel, by decide +kernel⟩, by decide, gT4 (i := 180) (by decide +kernel) (by decide +kernel), gT1 (i := 1) (by decide +kernel) (by decide +kernel)⟩
abbrev mX6_heldSlots : gMD := (yX6_heldSlots, cX6_heldSlots, 3, (some .int))
theorem okX6_heldSlots : gOkM mX6_heldSlots 0 := ⟨by decide +kernel, ⟨by decide +kernel, by decide +kernel, by decide +kernel⟩, by decide, gT4 (i := 184) (by decide +kernel) (by decide +kernel), gT1 (i := 2) (by decide +kernel) (by decide +kernel)⟩
abbrev mX6_lettersInAll : gMD := (yX6_lettersInAll, cX6_lettersInAll, 3, (some .int))
theorem okX6_lettersInAll : gOkM mX6_lettersInAll 0 := ⟨by decide +kernel, ⟨by decide +kernel, by decide +kernel, by decide +kernel⟩, by decide, gT4 (i := 188) (by decide +kernel) (by decide +kernel), gT1 (i := 2) (by decide +kernel) (by decide +kernel)⟩
abbrev mX9_keep : gMD := (yX9_keep, cX9_keep, 1, (some .int))
theorem okX9_keep : gOkM mX9_keep 0 := ⟨by decide +kernel, ⟨by decide +kernel, by decide +kernel, by decide +kernel⟩, by decide, gT4 (i := 192) (by decide +kernel) (by decide +kernel), gT1 (i := 1) (by decide +kernel) (by decide +kernel)⟩
abbrev mX6_becomeLike : gMD := (yX6_becomeLike, cX6_becomeLike, 3, none)
theorem okX6_becomeLike : gOkM mX6_becomeLike 1 := ⟨by decide +kernel, ⟨by decide +kernel, by decide +kernel, by decide +kernel⟩, by decide, gT4 (i := 196) (by decide +kernel) (by decide +kernel), gT1 (i := 2) (by decide +kernel) (by decide +kernel)⟩
abbrev mX9_again : gMD := (yX9_again, cX9_again, 1, (some .int))
theorem okX9_again : gOkM mX9_again 0 := ⟨by decide +kernel, ⟨by decide +kernel, by decide +kernel, by decide +kernel⟩, by decide, gT4 (i := 202) (by decide +kernel) (by decide +kernel), gT1 (i := 1) (by decide +kernel) (by decide +kernel)⟩
abbrev mX10_init : gMD := (yX10_init, cX10_init, 1, none)
theorem okX10_init : gOkM mX10_init 0 := ⟨by decide +kernel, ⟨by decide +kernel, by decide +kernel, by decide +kernel⟩, by decide, gT4 (i := 207) (by decide +kernel) (by decide +kernel), gT1 (i := 12) (by decide +kernel) (by decide +kernel)⟩
abbrev mX10_letters : gMD := (yX10_letters, cX10_letters, 4, (some .int))
theorem okX10_letters : gOkM mX10_letters 1 := ⟨by decide +kernel, ⟨by decide +kernel, by decide +kernel, by decide +kernel⟩, by decide, gT5 (i := 111) (by decide +kernel) (by decide +kernel), gT1 (i := 12) (by decide +kernel) (by decide +kernel)⟩
abbrev mX10_in : gMD := (yX10_in, cX10_in, 3, (some .boolean))
theorem okX10_in : gOkM mX10_in 3 := ⟨by decide +kernel, ⟨by decide +kernel, by decide +kernel, by decide +kernel⟩, by decide, gT5 (i := 114) (by decide +kernel) (by decide +kernel), gT1 (i := 12) (by decide +kernel) (by decide +kernel)⟩
abbrev mX10_word : gMD := (yX10_word, cX10_word, 3, (some .int))
theorem okX10_word : gOkM mX10_word 2 := ⟨by decide +kernel, ⟨by decide +kernel, by decide +kernel, by decide +kernel⟩, by decide, gT5 (i := 118) (by decide +kernel) (by decide +kernel), gT1 (i := 12) (by decide +kernel) (by decide +kernel)⟩
abbrev mX10_isSlot : gMD := (yX10_isSlot, cX10_isSlot, 1, (some .boolean))
theorem okX10_isSlot : gOkM mX10_isSlot 1 := ⟨by decide +kernel, ⟨by decide +kernel, by decide +kernel, by decide +kernel⟩, by decide, gT5 (i := 121) (by decide +kernel) (by decide +kernel), gT1 (i := 12) (by decide +kernel) (by decide +kernel)⟩
abbrev mX10_isWord : gMD := (yX10_isWord, cX10_isWord, 5, (some .boolean))
theorem okX10_isWord : gOkM mX10_isWord 1 := ⟨by decide +kernel, ⟨by decide +kernel, by decide +kernel, by decide +kernel⟩, by decide, gT5 (i := 125) (by decide +kernel) (by decide +kernel), gT1 (i := 12) (by decide +kernel) (by decide +kernel)⟩
abbrev mX10_lays : gMD := (yX10_lays, cX10_lays, 3, none)
theorem okX10_lays : gOkM mX10_lays 1 := ⟨by decide +kernel, ⟨by decide +kernel, by decide +kernel, by decide +kernel⟩, by decide, gT5 (i := 129) (by decide +kernel) (by decide +kernel), gT1 (i := 12) (by decide +kernel) (by decide +kernel)⟩
abbrev mX10_feed : gMD := (yX10_feed, cX10_feed, 5, (some .int))
theorem okX10_feed : gOkM mX10_feed 2 := ⟨by decide +kernel, ⟨by decide +kernel, by decide +kernel, by decide +kernel⟩, by decide, gT5 (i := 133) (by decide +kernel) (by decide +kernel), gT1 (i := 12) (by decide +kernel) (by decide +kernel)⟩
abbrev mX10_tableau : gMD := (yX10_tableau, cX10_tableau, 6, (some .int))
theorem okX10_tableau : gOkM mX10_tableau 1 := ⟨by decide +kernel, ⟨by decide +kernel, by decide +kernel, by decide +kernel⟩, by decide, gT5 (i := 138) (by decide +kernel) (by decide +kernel), gT1 (i := 12) (by decide +kernel) (by decide +kernel)⟩
abbrev mX10_here : gMD := (yX10_here, cX10_here, 1, (some .int))
theorem okX10_here : gOkM mX10_here 0 := ⟨by decide +kernel, ⟨by decide +kernel, by decide +kernel, by decide +kernel⟩, by decide, gT5 (i := 142) (by decide +kernel) (by decide +kernel), gT1 (i := 12) (by decide +kernel) (by decide +kernel)⟩
abbrev mX10_mayStand : gMD := (yX10_mayStand, cX10_mayStand, 5, (some .boolean))
theorem okX10_mayStand : gOkM mX10_mayStand 3 := ⟨by decide +kernel, ⟨by decide +kernel, by decide +kernel, by decide +kernel⟩, by decide, gT5 (i := 146) (by decide +kernel) (by decide +kernel), gT1 (i := 12) (by decide +kernel) (by decide +kernel)⟩
abbrev mX10_fault : gMD := (yX10_fault, cX10_fault, 2, (some .int))
theorem okX10_fault : gOkM mX10_fault 0 := ⟨by decide +kernel, ⟨by decide +kernel, by decide +kernel, by decide +kernel⟩, by decide, gT5 (i := 150) (by decide +kernel) (by decide +kernel), gT1 (i := 12) (by decide +kernel) (by decide +kernel)⟩
abbrev mX10_readsCells : gMD := (yX10_readsCells, cX10_readsCells, 3, none)
theorem okX10_readsCells : gOkM mX10_readsCells 0 := ⟨by decide +kernel, ⟨by decide +kernel, by decide +kernel, by decide +kernel⟩, by decide, gT5 (i := 154) (by decide +kernel) (by decide +kernel), gT1 (i := 12) (by decide +kernel) (by decide +kernel)⟩
abbrev mX10_bare : gMD := (yX10_bare, cX10_bare, 3, (some .int))
theorem okX10_bare : gOkM mX10_bare 1 := ⟨by decide +kernel, ⟨by decide +kernel, by decide +kernel, by decide +kernel⟩, by decide, gT5 (i := 158) (by decide +kernel) (by decide +kernel), gT1 (i := 12) (by decide +kernel) (by decide +kernel)⟩
abbrev mX10_of : gMD := (yX10_of, cX10_of, 3, (some .int))
theorem okX10_of : gOkM mX10_of 2 := ⟨by decide +kernel, ⟨by decide +kernel, by decide +kernel, by decide +kernel⟩, by decide, gT5 (i := 162) (by decide +kernel) (by decide +kernel), gT1 (i := 12) (by decide +kernel) (by decide +kernel)⟩
abbrev mX10_takes : gMD := (yX10_takes, cX10_takes, 3, none)
theorem okX10_takes : gOkM mX10_takes 1 := ⟨by decide +kernel, ⟨by decide +kernel, by decide +kernel, by decide +kernel⟩, by decide, gT5 (i := 166) (by decide +kernel) (by decide +kernel), gT1 (i := 12) (by decide +kernel) (by decide +kernel)⟩
abbrev mX10_read : gMD := (yX10_read, cX10_read, 3, (some .int))
theorem okX10_read : gOkM mX10_read 0 := ⟨by decide +kernel, ⟨by decide +kernel, by decide +kernel, by decide +kernel⟩, by decide, gT5 (i := 170) (by decide +kernel) (by decide +kernel), gT1 (i := 12) (by decide +kernel) (by decide +kernel)⟩
abbrev mX10_content : gMD := (yX10_content, cX10_content, 5, (some .int))
theorem okX10_content : gOkM mX10_content 0 := ⟨by decide +kernel, ⟨by decide +kernel, by decide +kernel, by decide +kernel⟩, by decide, gT5 (i := 174) (by decide +kernel) (by decide +kernel), gT1 (i := 12) (by decide +kernel) (by decide +kernel)⟩
abbrev mX10_manyRows : gMD := (yX10_manyRows, cX10_manyRows, 2, (some .int))
theorem okX10_manyRows : gOkM mX10_manyRows 0 := ⟨by decide +kernel, ⟨by decide +kernel, by decide +kernel, by decide +kernel⟩, by decide, gT5 (i := 178) (by decide +kernel) (by decide +kernel), gT1 (i := 12) (by decide +kernel) (by decide +kernel)⟩
abbrev mX10_row : gMD := (yX10_row, cX10_row, 6, (some .int))
theorem okX10_row : gOkM mX10_row 2 := ⟨by decide +kernel, ⟨by decide +kernel, by decide +kernel, by decide +kernel⟩, by decide, gT5 (i := 182) (by decide +kernel) (by decide +kernel), gT1 (i := 12) (by decide +kernel) (by decide +kernel)⟩
abbrev mX10_taken : gMD := (yX10_taken, cX10_taken, 3, (some .int))
theorem okX10_taken : gOkM mX10_taken 2 := ⟨by decide +kernel, ⟨by decide +kernel, by decide +kernel, by decide +kernel⟩, by decide, gT5 (i := 186) (by decide +kernel) (by decide +kernel), gT1 (i := 12) (by decide +kernel) (by decide +kernel)⟩
abbrev mX10_signs : gMD := (yX10_signs, cX10_signs, 4, (some .int))
theorem okX10_signs : gOkM mX10_signs 3 := ⟨by decide +kernel, ⟨by decide +kernel, by decide +kernel, by decide +kernel⟩, by decide, gT5 (i := 190) (by decide +kernel) (by decide +kernel), gT1 (i := 12) (by decide +kernel) (by decide +kernel)⟩
abbrev mX10_isSign : gMD := (yX10_isSign, cX10_isSign, 2, (some .boolean))
theorem okX10_isSign : gOkM mX10_isSign 1 := ⟨by decide +kernel, ⟨by decide +kernel, by decide +kernel, by decide +kernel⟩, by decide, gT5 (i := 194) (by decide +kernel) (by decide +kernel), gT1 (i := 12) (by decide +kernel) (by decide +kernel)⟩
abbrev mX10_looks : gMD := (yX10_looks, cX10_looks, 4, none)
theorem okX10_looks : gOkM mX10_looks 1 := ⟨by decide +kernel, ⟨by decide +kernel, by decide +kernel, by decide +kernel⟩, by decide, gT5 (i := 198) (by decide +kernel) (by decide +kernel), gT1 (i := 12) (by decide +kernel) (by decide +kernel)⟩
abbrev mX10_act : gMD := (yX10_act, cX10_act, 6, (some .int))
theorem okX10_act : gOkM mX10_act 4 := ⟨by decide +kernel, ⟨by decide +kernel, by decide +kernel, by decide +kernel⟩, by decide, gT5 (i := 202) (by decide +kernel) (by decide +kernel), gT1 (i := 12) (by decide +kernel) (by decide +kernel)⟩
abbrev mX10_acts : gMD := (yX10_acts, cX10_acts, 6, (some .boolean))
theorem okX10_acts : gOkM mX10_acts 2 := ⟨by decide +kernel, ⟨by decide +kernel, by decide +kernel, by decide +kernel⟩, by decide, gT5 (i := 206) (by decide +kernel) (by decide +kernel), gT1 (i := 12) (by decide +kernel) (by decide +kernel)⟩
abbrev mX10_raises : gMD := (yX10_raises, cX10_raises, 2, (some .boolean))
theorem okX10_raises : gOkM mX10_raises 1 := ⟨by decide +kernel, ⟨by decide +kernel, by decide +kernel, by decide +kernel⟩, by decide, gT5 (i := 210) (by decide +kernel) (by decide +kernel), gT1 (i := 12) (by decide +kernel) (by decide +kernel)⟩
abbrev mX10_lowers : gMD := (yX10_lowers, cX10_lowers, 2, (some .boolean))
theorem okX10_lowers : gOkM mX10_lowers 1 := ⟨by decide +kernel, ⟨by decide +kernel, by decide +kernel, by decide +kernel⟩, by decide, gT5 (i := 214) (by decide +kernel) (by decide +kernel), gT1 (i := 12) (by decide +kernel) (by decide +kernel)⟩
abbrev mX10_turns : gMD := (yX10_turns, cX10_turns, 2, none)
theorem okX10_turns : gOkM mX10_turns 0 := ⟨by decide +kernel, ⟨by decide +kernel, by decide +kernel, by decide +kernel⟩, by decide, gT5 (i := 218) (by decide +kernel) (by decide +kernel), gT1 (i := 12) (by decide +kernel) (by decide +kernel)⟩
abbrev mX10_inserts : gMD := (yX10_inserts, cX10_inserts, 7, none)
theorem okX10_inserts : gOkM mX10_inserts 0 := ⟨by decide +kernel, ⟨by decide +kernel, by decide +kernel, by decide +kernel⟩, by decide, gT5 (i := 222) (by decide +kernel) (by decide +kernel), gT1 (i := 12) (by decide +kernel) (by decide +kernel)⟩
abbrev mX10_acts_ : gMD := (yX10_acts_, cX10_acts_, 6, (some .int))
theorem okX10_acts_ : gOkM mX10_acts_ 1 := ⟨by decide +kernel, ⟨by decide +kernel, by decide +kernel, by decide +kernel⟩, by decide, gT5 (i := 226) (by decide +kernel) (by decide +kernel), gT1 (i := 12) (by decide +kernel) (by decide +kernel)⟩
abbrev mX10_readsActs : gMD := (yX10_readsActs, cX10_readsActs, 3, (some .int))
theorem okX10_readsActs : gOkM mX10_readsActs 0 := ⟨by decide +kernel, ⟨by decide +kernel, by decide +kernel, by decide +kernel⟩, by decide, gT5 (i := 230) (by decide +kernel) (by decide +kernel), gT1 (i := 12) (by decide +kernel) (by decide +kernel)⟩
abbrev mX10_name : gMD := (yX10_name, cX10_name, 3, (some .long))
theorem okX10_name : gOkM mX10_name 0 := ⟨by decide +kernel, ⟨by decide +kernel, by decide +kernel, by decide +kernel⟩, by decide, gT5 (i := 234) (by decide +kernel) (by decide +kernel), gT1 (i := 12) (by decide +kernel) (by decide +kernel)⟩
abbrev mX10_actOf : gMD := (yX10_actOf, cX10_actOf, 2, (some .int))
theorem okX10_actOf : gOkM mX10_actOf 1 := ⟨by decide +kernel, ⟨by decide +kernel, by decide +kernel, by decide +kernel⟩, by decide, gT6 (i := 0) (by decide +kernel) (by decide +kernel), gT1 (i := 12) (by decide +kernel) (by decide +kernel)⟩
abbrev mX10_highest : gMD := (yX10_highest, cX10_highest, 4, (some .int))
theorem okX10_highest : gOkM mX10_highest 2 := ⟨by decide +kernel, ⟨by decide +kernel, by decide +kernel, by decide +kernel⟩, by decide, gT6 (i := 10) (by decide +kernel) (by decide +kernel), gT1 (i := 12) (by decide +kernel) (by decide +kernel)⟩
abbrev mX10_highestNow : gMD := (yX10_highestNow, cX10_highestNow, 4, (some .int))
theorem okX10_highestNow : gOkM mX10_highestNow 0 := ⟨by decide +kernel, ⟨by decide +kernel, by decide +kernel, by decide +kernel⟩, by decide, gT6 (i := 14) (by decide +kernel) (by decide +kernel), gT1 (i := 12) (by decide +kernel) (by decide +kernel)⟩
abbrev mX10_all : gMD := (yX10_all, cX10_all, 5, (some .int))
theorem okX10_all : gOkM mX10_all 2 := ⟨by decide +kernel, ⟨by decide +kernel, by decide +kernel, by decide +kernel⟩, by decide, gT6 (i := 18) (by decide +kernel) (by decide +kernel), gT1 (i := 12) (by decide +kernel) (by decide +kernel)⟩
abbrev mX10_findAll : gMD := (yX10_findAll, cX10_findAll, 3, none)
theorem okX10_findAll : gOkM mX10_findAll 0 := ⟨by decide +kernel, ⟨by decide +kernel, by decide +kernel, by decide +kernel⟩, by decide, gT6 (i := 22) (by decide +kernel) (by decide +kernel), gT1 (i := 12) (by decide +kernel) (by decide +kernel)⟩
abbrev mX10_comesTo : gMD := (yX10_comesTo, cX10_comesTo, 2, none)
theorem okX10_comesTo : gOkM mX10_comesTo 0 := ⟨by decide +kernel, ⟨by decide +kernel, by decide +kernel, by decide +kernel⟩, by decide, gT6 (i := 26) (by decide +kernel) (by decide +kernel), gT1 (i := 12) (by decide +kernel) (by decide +kernel)⟩
abbrev mX10_code : gMD := (yX10_code, cX10_code, 3, (some .int))
theorem okX10_code : gOkM mX10_code 0 := ⟨by decide +kernel, ⟨by decide +kernel, by decide +kernel, by decide +kernel⟩, by decide, gT6 (i := 30) (by decide +kernel) (by decide +kernel), gT1 (i := 12) (by decide +kernel) (by decide +kernel)⟩
abbrev mX10_decodes : gMD := (yX10_decodes, cX10_decodes, 4, none)
theorem okX10_decodes : gOkM mX10_decodes 1 := ⟨by decide +kernel, ⟨by decide +kernel, by decide +kernel, by decide +kernel⟩, by decide, gT6 (i := 34) (by decide +kernel) (by decide +kernel), gT1 (i := 12) (by decide +kernel) (by decide +kernel)⟩
abbrev mX10_stands : gMD := (yX10_stands, cX10_stands, 5, (some .int))
theorem okX10_stands : gOkM mX10_stands 1 := ⟨by decide +kernel, ⟨by decide +kernel, by decide +kernel, by decide +kernel⟩, by decide, gT6 (i := 38) (by decide +kernel) (by decide +kernel), gT1 (i := 12) (by decide +kernel) (by decide +kernel)⟩
abbrev mX10_way : gMD := (yX10_way, cX10_way, 6, (some .int))
theorem okX10_way : gOkM mX10_way 1 := ⟨by decide +kernel, ⟨by decide +kernel, by decide +kernel, by decide +kernel⟩, by decide, gT6 (i := 42) (by decide +kernel) (by decide +kernel), gT1 (i := 12) (by decide +kernel) (by decide +kernel)⟩
abbrev mX10_pair : gMD := (yX10_pair, cX10_pair, 6, (some .int))
theorem okX10_pair : gOkM mX10_pair 3 := ⟨by decide +kernel, ⟨by decide +kernel, by decide +kernel, by decide +kernel⟩, by decide, gT6 (i := 46) (by decide +kernel) (by decide +kernel), gT1 (i := 12) (by decide +kernel) (by decide +kernel)⟩
abbrev mX10_raisedBy : gMD := (yX10_raisedBy, cX10_raisedBy, 7, (some .int))
theorem okX10_raisedBy : gOkM mX10_raisedBy 5 := ⟨by decide +kernel, ⟨by decide +kernel, by decide +kernel, by decide +kernel⟩, by decide, gT6 (i := 50) (by decide +kernel) (by decide +kernel), gT1 (i := 12) (by decide +kernel) (by decide +kernel)⟩
abbrev mX10_insert : gMD := (yX10_insert, cX10_insert, 3, (some .int))
theorem okX10_insert : gOkM mX10_insert 2 := ⟨by decide +kernel, ⟨by decide +kernel, by decide +kernel, by decide +kernel⟩, by decide, gT6 (i := 54) (by decide +kernel) (by decide +kernel), gT1 (i := 12) (by decide +kernel) (by decide +kernel)⟩
abbrev mX10_record : gMD := (yX10_record, cX10_record, 5, (some .int))
theorem okX10_record : gOkM mX10_record 2 := ⟨by decide +kernel, ⟨by decide +kernel, by decide +kernel, by decide +kernel⟩, by decide, gT6 (i := 58) (by decide +kernel) (by decide +kernel), gT1 (i := 12) (by decide +kernel) (by decide +kernel)⟩
abbrev mX10_alike : gMD := (yX10_alike, cX10_alike, 3, (some .int))
theorem okX10_alike : gOkM mX10_alike 2 := ⟨by decide +kernel, ⟨by decide +kernel, by decide +kernel, by decide +kernel⟩, by decide, gT6 (i := 62) (by decide +kernel) (by decide +kernel), gT1 (i := 12) (by decide +kernel) (by decide +kernel)⟩
abbrev mX10_inserted : gMD := (yX10_inserted, cX10_inserted, 5, (some .long))
theorem okX10_inserted : gOkM mX10_inserted 1 := ⟨by decide +kernel, ⟨by decide +kernel, by decide +kernel, by decide +kernel⟩, by decide, gT6 (i := 66) (by decide +kernel) (by decide +kernel), gT1 (i := 12) (by decide +kernel) (by decide +kernel)⟩
abbrev mX10_count : gMD := (yX10_count, cX10_count, 6, (some .int))
theorem okX10_count : gOkM mX10_count 2 := ⟨by decide +kernel, ⟨by decide +kernel, by decide +kernel, by decide +kernel⟩, by decide, gT6 (i := 71) (by decide +kernel) (by decide +kernel), gT1 (i := 12) (by decide +kernel) (by decide +kernel)⟩
abbrev mX10_isShape : gMD := (yX10_isShape, cX10_isShape, 8, (some .boolean))
theorem okX10_isShape : gOkM mX10_isShape 2 := ⟨by decide +kernel, ⟨by decide +kernel, by decide +kernel, by decide +kernel⟩, by decide, gT6 (i := 75) (by decide +kernel) (by decide +kernel), gT1 (i := 12) (by decide +kernel) (by decide +kernel)⟩
abbrev mX10_fillsAll : gMD := (yX10_fillsAll, cX10_fillsAll, 3, none)
theorem okX10_fillsAll : gOkM mX10_fillsAll 1 := ⟨by decide +kernel, ⟨by decide +kernel, by decide +kernel, by decide +kernel⟩, by decide, gT6 (i := 79) (by decide +kernel) (by decide +kernel), gT1 (i := 12) (by decide +kernel) (by decide +kernel)⟩
abbrev mX10_fills : gMD := (yX10_fills, cX10_fills, 5, none)
theorem okX10_fills : gOkM mX10_fills 3 := ⟨by decide +kernel, ⟨by decide +kernel, by decide +kernel, by decide +kernel⟩, by decide, gT6 (i := 83) (by decide +kernel) (by decide +kernel), gT1 (i := 12) (by decide +kernel) (by decide +kernel)⟩
abbrev mX10_isFilled : gMD := (yX10_isFilled, cX10_isFilled, 8, none)
theorem okX10_isFilled : gOkM mX10_isFilled 1 := ⟨by decide +kernel, ⟨by decide +kernel, by decide +kernel, by decide +kernel⟩, by decide, gT6 (i := 87) (by decide +kernel) (by decide +kernel), gT1 (i := 12) (by decide +kernel) (by decide +kernel)⟩
abbrev mX10_isHighest : gMD := (yX10_isHighest, cX10_isHighest, 3, (some .boolean))
theorem okX10_isHighest : gOkM mX10_isHighest 0 := ⟨by decide +kernel, ⟨by decide +kernel, by decide +kernel, by decide +kernel⟩, by decide, gT6 (i := 91) (by decide +kernel) (by decide +kernel), gT1 (i := 12) (by decide +kernel) (by decide +kernel)⟩
abbrev mX10_together : gMD := (yX10_together, cX10_together, 5, (some .int))
theorem okX10_together : gOkM mX10_together 3 := ⟨by decide +kernel, ⟨by decide +kernel, by decide +kernel, by decide +kernel⟩, by decide, gT6 (i := 95) (by decide +kernel) (by decide +kernel), gT1 (i := 12) (by decide +kernel) (by decide +kernel)⟩
abbrev mX10_sum : gMD := (yX10_sum, cX10_sum, 3, (some .int))
theorem okX10_sum : gOkM mX10_sum 1 := ⟨by decide +kernel, ⟨by decide +kernel, by decide +kernel, by decide +kernel⟩, by decide, gT6 (i := 98) (by decide +kernel) (by decide +kernel), gT1 (i := 12) (by decide +kernel) (by decide +kernel)⟩
abbrev mX10_worth : gMD := (yX10_worth, cX10_worth, 4, (some .int))
theorem okX10_worth : gOkM mX10_worth 2 := ⟨by decide +kernel, ⟨by decide +kernel, by decide +kernel, by decide +kernel⟩, by decide, gT6 (i := 102) (by decide +kernel) (by decide +kernel), gT1 (i := 12) (by decide +kernel) (by decide +kernel)⟩
abbrev mX10_worthOf : gMD := (yX10_worthOf, cX10_worthOf, 2, (some .int))
theorem okX10_worthOf : gOkM mX10_worthOf 1 := ⟨by decide +kernel, ⟨by decide +kernel, by decide +kernel, by decide +kernel⟩, by decide, gT6 (i := 106) (by decide +kernel) (by decide +kernel), gT1 (i := 12) (by decide +kernel) (by decide +kernel)⟩
abbrev mX10_seed : gMD := (yX10_seed, cX10_seed, 3, (some .int))
theorem okX10_seed : gOkM mX10_seed 1 := ⟨by decide +kernel, ⟨by decide +kernel, by decide +kernel, by decide +kernel⟩, by decide, gT6 (i := 111) (by decide +kernel) (by decide +kernel), gT1 (i := 12) (by decide +kernel) (by decide +kernel)⟩
abbrev mX10_lot : gMD := (yX10_lot, cX10_lot, 4, (some .int))
theorem okX10_lot : gOkM mX10_lot 2 := ⟨by decide +kernel, ⟨by decide +kernel, by decide +kernel, by decide +kernel⟩, by decide, gT6 (i := 115) (by decide +kernel) (by decide +kernel), gT1 (i := 12) (by decide +kernel) (by decide +kernel)⟩
abbrev mX10_sheet : gMD := (yX10_sheet, cX10_sheet, 5, (some .int))
theorem okX10_sheet : gOkM mX10_sheet 3 := ⟨by decide +kernel, ⟨by decide +kernel, by decide +kernel, by decide +kernel⟩, by decide, gT6 (i := 120) (by decide +kernel) (by decide +kernel), gT1 (i := 12) (by decide +kernel) (by decide +kernel)⟩
abbrev mX10_isSheet : gMD := (yX10_isSheet, cX10_isSheet, 1, (some .boolean))
theorem okX10_isSheet : gOkM mX10_isSheet 1 := ⟨by decide +kernel, ⟨by decide +kernel, by decide +kernel, by decide +kernel⟩, by decide, gT6 (i := 123) (by decide +kernel) (by decide +kernel), gT1 (i := 12) (by decide +kernel) (by decide +kernel)⟩
abbrev mX10_put : gMD := (yX10_put, cX10_put, 4, (some .int))
theorem okX10_put : gOkM mX10_put 3 := ⟨by decide +kernel, ⟨by decide +kernel, by decide +kernel, by decide +kernel⟩, by decide, gT6 (i := 127) (by decide +kernel) (by decide +kernel), gT1 (i := 12) (by decide +kernel) (by decide +kernel)⟩
abbrev mX10_cut : gMD := (yX10_cut, cX10_cut, 2, (some .int))
theorem okX10_cut : gOkM mX10_cut 2 := ⟨by decide +kernel, ⟨by decide +kernel, by decide +kernel, by decide +kernel⟩, by decide, gT6 (i := 130) (by decide +kernel) (by decide +kernel), gT1 (i := 12) (by decide +kernel) (by decide +kernel)⟩
abbrev mX10_item : gMD := (yX10_item, cX10_item, 4, (some .int))
theorem okX10_item : gOkM mX10_item 3 := ⟨by decide +kernel, ⟨by decide +kernel, by decide +kernel, by decide +kernel⟩, by decide, gT6 (i := 135) (by decide +kernel) (by decide +kernel), gT1 (i := 12) (by decide +kernel) (by decide +kernel)⟩
abbrev mX10_copy : gMD := (yX10_copy, cX10_copy, 7, (some .int))
theorem okX10_copy : gOkM mX10_copy 5 := ⟨by decide +kernel, ⟨by decide +kernel, by decide +kernel, by decide +kernel⟩, by decide, gT6 (i := 139) (by decide +kernel) (by decide +kernel), gT1 (i := 12) (by decide +kernel) (by decide +kernel)⟩
abbrev mX10_isOutside : gMD := (yX10_isOutside, cX10_isOutside, 4, (some .boolean))
theorem okX10_isOutside : gOkM mX10_isOutside 3 := ⟨by decide +kernel, ⟨by decide +kernel, by decide +kernel, by decide +kernel⟩, by decide, gT6 (i := 143) (by decide +kernel) (by decide +kernel), gT1 (i := 12) (by decide +kernel) (by decide +kernel)⟩
abbrev mX10_lay : gMD := (yX10_lay, cX10_lay, 5, (some .int))
theorem okX10_lay : gOkM mX10_lay 3 := ⟨by decide +kernel, ⟨by decide +kernel, by decide +kernel, by decide +kernel⟩, by decide, gT6 (i := 147) (by decide +kernel) (by decide +kernel), gT1 (i := 12) (by decide +kernel) (by decide +kernel)⟩
abbrev mX10_take : gMD := (yX10_take, cX10_take, 7, (some .int))
theorem okX10_take : gOkM mX10_take 4 := ⟨by decide +kernel, ⟨by decide +kernel, by decide +kernel, by decide +kernel⟩, by decide, gT6 (i := 151) (by decide +kernel) (by decide +kernel), gT1 (i := 12) (by decide +kernel) (by decide +kernel)⟩
abbrev mX10_many : gMD := (yX10_many, cX10_many, 4, (some .int))
theorem okX10_many : gOkM mX10_many 1 := ⟨by decide +kernel, ⟨by decide +kernel, by decide +kernel, by decide +kernel⟩, by decide, gT6 (i := 155) (by decide +kernel) (by decide +kernel), gT1 (i := 12) (by decide +kernel) (by decide +kernel)⟩
abbrev mX10_lettersAll : gMD := (yX10_lettersAll, cX10_lettersAll, 3, (some .int))
theorem okX10_lettersAll : gOkM mX10_lettersAll 0 := ⟨by decide +kernel, ⟨by decide +kernel, by decide +kernel, by decide +kernel⟩, by decide, gT6 (i := 159) (by decide +kernel) (by decide +kernel), gT1 (i := 12) (by decide +kernel) (by decide +kernel)⟩
abbrev mX10_keep : gMD := (yX10_keep, cX10_keep, 1, (some .int))
theorem okX10_keep : gOkM mX10_keep 0 := ⟨by decide +kernel, ⟨by decide +kernel, by decide +kernel, by decide +kernel⟩, by decide, gT6 (i := 163) (by decide +kernel) (by decide +kernel), gT1 (i := 12) (by decide +kernel) (by decide +kernel)⟩
abbrev mX10_copies : gMD := (yX10_copies, cX10_copies, 4, none)
theorem okX10_copies : gOkM mX10_copies 3 := ⟨by decide +kernel, ⟨by decide +kernel, by decide +kernel, by decide +kernel⟩, by decide, gT6 (i := 166) (by decide +kernel) (by decide +kernel), gT1 (i := 12) (by decide +kernel) (by decide +kernel)⟩
abbrev mX10_again : gMD := (yX10_again, cX10_again, 1, (some .int))
theorem okX10_again : gOkM mX10_again 0 := ⟨by decide +kernel, ⟨by decide +kernel, by decide +kernel, by decide +kernel⟩, by decide, gT6 (i := 170) (by decide +kernel) (by decide +kernel), gT1 (i := 12) (by decide +kernel) (by decide +kernel)⟩
theorem cL_7 : Cond.classLink RL 7 RX9 ∈ gTbl := gT1 (i := 22) (by decide +kernel) (by decide +kernel)
theorem lL_9 : gLkI RL 9 mX9_init := ⟨gT1 (i := 24) (by decide +kernel) (by decide +kernel), gT1 (i := 25) (by decide +kernel) (by decide +kernel), rfl, rfl⟩
theorem lX9_1 : gLkO RX9 1 := ⟨gT1 (i := 27) (by decide +kernel) (by decide +kernel), gT1 (i := 28) (by decide +kernel) (by decide +kernel), gT1 (i := 29) (by decide +kernel) (by decide +kernel)⟩
theorem cX9_7 : Cond.classLink RX9 7 RX6 ∈ gTbl := gT1 (i := 30) (by decide +kernel) (by decide +kernel)
theorem lX9_9 : gLkI RX9 9 mX6_init := ⟨gT1 (i := 32) (by decide +kernel) (by decide +kernel), gT1 (i := 33) (by decide +kernel) (by decide +kernel), rfl, rfl⟩
theorem lX6_3 : gLkO RX6 3 := ⟨gT1 (i := 35) (by decide +kernel) (by decide +kernel), gT1 (i := 28) (by decide +kernel) (by decide +kernel), gT1 (i := 29) (by decide +kernel) (by decide +kernel)⟩
theorem cX6_18 : Cond.classLink RX6 18 RX8 ∈ gTbl := gT1 (i := 36) (by decide +kernel) (by decide +kernel)
theorem lX6_28 : gLkIN RX6 28 mX8_init := ⟨by decide +kernel, gT1 (i := 40) (by decide +kernel) (by decide +kernel), rfl, rfl⟩
theorem lX8_3 : gLkO RX8 3 := ⟨gT1 (i := 42) (by decide +kernel) (by decide +kernel), gT1 (i := 28) (by decide +kernel) (by decide +kernel), gT1 (i := 29) (by decide +kernel) (by decide +kernel)⟩
theorem fX8_11 : gFld RX8 11 8 0 0 false := ⟨RX8, TX8, 5, rfl, by decide, rfl, rfl, gT1 (i := 43) (by decide +kernel) (by decide +kernel), rfl⟩
theorem fX6_48 : gFld RX6 48 8 0 0 false := ⟨RX8, TX8, 5, rfl, by decide, rfl, rfl, gT1 (i := 44) (by decide +kernel) (by decide +kernel), rfl⟩
theorem fX9_136 : gFld RX9 136 8 0 0 false := ⟨RX8, TX8, 5, rfl, by decide, rfl, rfl, gT1 (i := 45) (by decide +kernel) (by decide +kernel), rfl⟩
theorem fX2_63 : gFld RX2 63 8 0 0 false := ⟨RX8, TX8, 5, rfl, by decide, rfl, rfl, gT1 (i := 46) (by decide +kernel) (by decide +kernel), rfl⟩
theorem fX3_84 : gFld RX3 84 8 0 0 false := ⟨RX8, TX8, 5, rfl, by decide, rfl, rfl, gT1 (i := 47) (by decide +kernel) (by decide +kernel), rfl⟩
theorem fX8_22 : gFld RX8 22 8 1 0 false := ⟨RX8, TX8, 5, rfl, by decide, rfl, rfl, gT1 (i := 48) (by decide +kernel) (by decide +kernel), rfl⟩
theorem fX0_39 : gFld RX0 39 8 1 0 false := ⟨RX8, TX8, 5, rfl, by decide, rfl, rfl, gT1 (i := 49) (by decide +kernel) (by decide +kernel), rfl⟩
theorem fX3_39 : gFld RX3 39 8 1 0 false := ⟨RX8, TX8, 5, rfl, by decide, rfl, rfl, gT1 (i := 50) (by decide +kernel) (by decide +kernel), rfl⟩
theorem fX9_107 : gFld RX9 107 8 1 0 false := ⟨RX8, TX8, 5, rfl, by decide, rfl, rfl, gT1 (i := 51) (by decide +kernel) (by decide +kernel), rfl⟩
theorem fX6_51 : gFld RX6 51 8 1 0 false := ⟨RX8, TX8, 5, rfl, by decide, rfl, rfl, gT1 (i := 52) (by decide +kernel) (by decide +kernel), rfl⟩
theorem fX2_46 : gFld RX2 46 8 1 0 false := ⟨RX8, TX8, 5, rfl, by decide, rfl, rfl, gT1 (i := 53) (by decide +kernel) (by decide +kernel), rfl⟩
theorem fX8_15 : gFld RX8 15 8 2 2 true := ⟨RX8, TX8, 5, rfl, by decide, rfl, rfl, gT1 (i := 54) (by decide +kernel) (by decide +kernel), rfl⟩
theorem fX3_42 : gFld RX3 42 8 2 2 true := ⟨RX8, TX8, 5, rfl, by decide, rfl, rfl, gT1 (i := 55) (by decide +kernel) (by decide +kernel), rfl⟩
theorem fX2_49 : gFld RX2 49 8 2 2 true := ⟨RX8, TX8, 5, rfl, by decide, rfl, rfl, gT1 (i := 56) (by decide +kernel) (by decide +kernel), rfl⟩
theorem fX0_79 : gFld RX0 79 8 2 2 true := ⟨RX8, TX8, 5, rfl, by decide, rfl, rfl, gT1 (i := 57) (by decide +kernel) (by decide +kernel), rfl⟩
theorem fX1_105 : gFld RX1 105 8 2 2 true := ⟨RX8, TX8, 5, rfl, by decide, rfl, rfl, gT1 (i := 58) (by decide +kernel) (by decide +kernel), rfl⟩
theorem fX9_277 : gFld RX9 277 8 2 2 true := ⟨RX8, TX8, 5, rfl, by decide, rfl, rfl, gT1 (i := 59) (by decide +kernel) (by decide +kernel), rfl⟩
theorem fX8_25 : gFld RX8 25 8 3 0 false := ⟨RX8, TX8, 5, rfl, by decide, rfl, rfl, gT1 (i := 60) (by decide +kernel) (by decide +kernel), rfl⟩
theorem fX9_147 : gFld RX9 147 8 3 0 false := ⟨RX8, TX8, 5, rfl, by decide, rfl, rfl, gT1 (i := 61) (by decide +kernel) (by decide +kernel), rfl⟩
theorem fX2_66 : gFld RX2 66 8 3 0 false := ⟨RX8, TX8, 5, rfl, by decide, rfl, rfl, gT1 (i := 62) (by decide +kernel) (by decide +kernel), rfl⟩
theorem fX8_19 : gFld RX8 19 8 4 2 true := ⟨RX8, TX8, 5, rfl, by decide, rfl, rfl, gT1 (i := 63) (by decide +kernel) (by decide +kernel), rfl⟩
theorem fX2_67 : gFld RX2 67 8 4 2 true := ⟨RX8, TX8, 5, rfl, by decide, rfl, rfl, gT1 (i := 64) (by decide +kernel) (by decide +kernel), rfl⟩
theorem lX6_29 : gLkS RX6 29 mJ7_fill_53178 := ⟨gT1 (i := 77) (by decide +kernel) (by decide +kernel), gT1 (i := 78) (by decide +kernel) (by decide +kernel)⟩
theorem fX6_9 : gFld RX6 9 6 0 0 false := ⟨RX6, TX6, 4, rfl, by decide, rfl, rfl, gT1 (i := 80) (by decide +kernel) (by decide +kernel), rfl⟩
theorem fX9_84 : gFld RX9 84 6 0 0 false := ⟨RX6, TX6, 4, rfl, by decide, rfl, rfl, gT1 (i := 81) (by decide +kernel) (by decide +kernel), rfl⟩
theorem fX6_15 : gFld RX6 15 6 1 0 false := ⟨RX6, TX6, 4, rfl, by decide, rfl, rfl, gT1 (i := 82) (by decide +kernel) (by decide +kernel), rfl⟩
theorem fX9_270 : gFld RX9 270 6 1 0 false := ⟨RX6, TX6, 4, rfl, by decide, rfl, rfl, gT1 (i := 83) (by decide +kernel) (by decide +kernel), rfl⟩
theorem fX6_20 : gFld RX6 20 6 2 2 true := ⟨RX6, TX6, 4, rfl, by decide, rfl, rfl, gT1 (i := 84) (by decide +kernel) (by decide +kernel), rfl⟩
theorem fX9_99 : gFld RX9 99 6 2 2 true := ⟨RX6, TX6, 4, rfl, by decide, rfl, rfl, gT1 (i := 85) (by decide +kernel) (by decide +kernel), rfl⟩
theorem fX6_24 : gFld RX6 24 6 3 2 true := ⟨RX6, TX6, 4, rfl, by decide, rfl, rfl, gT1 (i := 86) (by decide +kernel) (by decide +kernel), rfl⟩
theorem fX9_257 : gFld RX9 257 6 3 2 true := ⟨RX6, TX6, 4, rfl, by decide, rfl, rfl, gT1 (i := 87) (by decide +kernel) (by decide +kernel), rfl⟩
theorem cX9_19 : Cond.classLink RX9 19 RX7 ∈ gTbl := gT1 (i := 97) (by decide +kernel) (by decide +kernel)
theorem lX9_21 : gLkIN RX9 21 mX7_init := ⟨by decide +kernel, gT1 (i := 100) (by decide +kernel) (by decide +kernel), rfl, rfl⟩
theorem lX7_3 : gLkO RX7 3 := ⟨gT1 (i := 102) (by decide +kernel) (by decide +kernel), gT1 (i := 28) (by decide +kernel) (by decide +kernel), gT1 (i := 29) (by decide +kernel) (by decide +kernel)⟩
theorem fX7_15 : gFld RX7 15 7 0 0 false := ⟨RX7, TX7, 5, rfl, by decide, rfl, rfl, gT1 (i := 103) (by decide +kernel) (by decide +kernel), rfl⟩
theorem fX9_110 : gFld RX9 110 7 0 0 false := ⟨RX7, TX7, 5, rfl, by decide, rfl, rfl, gT1 (i := 104) (by decide +kernel) (by decide +kernel), rfl⟩
theorem fX7_19 : gFld RX7 19 7 1 0 false := ⟨RX7, TX7, 5, rfl, by decide, rfl, rfl, gT1 (i := 105) (by decide +kernel) (by decide +kernel), rfl⟩
theorem fX9_124 : gFld RX9 124 7 1 0 false := ⟨RX7, TX7, 5, rfl, by decide, rfl, rfl, gT1 (i := 106) (by decide +kernel) (by decide +kernel), rfl⟩
theorem fX7_52 : gFld RX7 52 7 2 0 false := ⟨RX7, TX7, 5, rfl, by decide, rfl, rfl, gT1 (i := 107) (by decide +kernel) (by decide +kernel), rfl⟩
theorem fX9_180 : gFld RX9 180 7 2 0 false := ⟨RX7, TX7, 5, rfl, by decide, rfl, rfl, gT1 (i := 108) (by decide +kernel) (by decide +kernel), rfl⟩
theorem fX7_93 : gFld RX7 93 7 3 0 false := ⟨RX7, TX7, 5, rfl, by decide, rfl, rfl, gT1 (i := 109) (by decide +kernel) (by decide +kernel), rfl⟩
theorem fX9_183 : gFld RX9 183 7 3 0 false := ⟨RX7, TX7, 5, rfl, by decide, rfl, rfl, gT1 (i := 110) (by decide +kernel) (by decide +kernel), rfl⟩
theorem fX7_9 : gFld RX7 9 7 4 2 true := ⟨RX7, TX7, 5, rfl, by decide, rfl, rfl, gT1 (i := 111) (by decide +kernel) (by decide +kernel), rfl⟩
theorem cX9_26 : Cond.classLink RX9 26 RX5 ∈ gTbl := gT1 (i := 123) (by decide +kernel) (by decide +kernel)
theorem cX9_32 : Cond.classLink RX9 32 RX3 ∈ gTbl := gT1 (i := 125) (by decide +kernel) (by decide +kernel)
theorem lX9_34 : gLkIN RX9 34 mX3_init := ⟨by decide +kernel, gT1 (i := 128) (by decide +kernel) (by decide +kernel), rfl, rfl⟩
theorem lX3_3 : gLkO RX3 3 := ⟨gT1 (i := 130) (by decide +kernel) (by decide +kernel), gT1 (i := 28) (by decide +kernel) (by decide +kernel), gT1 (i := 29) (by decide +kernel) (by decide +kernel)⟩
theorem cX3_9 : Cond.classLink RX3 9 RX8 ∈ gTbl := gT1 (i := 131) (by decide +kernel) (by decide +kernel)
theorem lX3_11 : gLkIN RX3 11 mX8_init := ⟨by decide +kernel, gT1 (i := 40) (by decide +kernel) (by decide +kernel), rfl, rfl⟩
theorem cX3_18 : Cond.classLink RX3 18 RX2 ∈ gTbl := gT1 (i := 133) (by decide +kernel) (by decide +kernel)
theorem lX3_20 : gLkIN RX3 20 mX2_init := ⟨by decide +kernel, gT1 (i := 136) (by decide +kernel) (by decide +kernel), rfl, rfl⟩
theorem lX2_3 : gLkO RX2 3 := ⟨gT1 (i := 138) (by decide +kernel) (by decide +kernel), gT1 (i := 28) (by decide +kernel) (by decide +kernel), gT1 (i := 29) (by decide +kernel) (by decide +kernel)⟩
theorem fX2_21 : gFld RX2 21 2 0 0 false := ⟨RX2, TX2, 5, rfl, by decide, rfl, rfl, gT1 (i := 139) (by decide +kernel) (by decide +kernel), rfl⟩
theorem fX9_221 : gFld RX9 221 2 0 0 false := ⟨RX2, TX2, 5, rfl, by decide, rfl, rfl, gT1 (i := 140) (by decide +kernel) (by decide +kernel), rfl⟩
theorem fX2_25 : gFld RX2 25 2 1 0 false := ⟨RX2, TX2, 5, rfl, by decide, rfl, rfl, gT1 (i := 141) (by decide +kernel) (by decide +kernel), rfl⟩
theorem fX2_9 : gFld RX2 9 2 2 2 true := ⟨RX2, TX2, 5, rfl, by decide, rfl, rfl, gT1 (i := 142) (by decide +kernel) (by decide +kernel), rfl⟩
theorem fX2_15 : gFld RX2 15 2 3 2 true := ⟨RX2, TX2, 5, rfl, by decide, rfl, rfl, gT1 (i := 143) (by decide +kernel) (by decide +kernel), rfl⟩
theorem fX2_18 : gFld RX2 18 2 4 2 true := ⟨RX2, TX2, 5, rfl, by decide, rfl, rfl, gT1 (i := 144) (by decide +kernel) (by decide +kernel), rfl⟩
theorem fX3_32 : gFld RX3 32 3 0 0 false := ⟨RX3, TX3, 6, rfl, by decide, rfl, rfl, gT1 (i := 156) (by decide +kernel) (by decide +kernel), rfl⟩
theorem fX9_160 : gFld RX9 160 3 0 0 false := ⟨RX3, TX3, 6, rfl, by decide, rfl, rfl, gT1 (i := 157) (by decide +kernel) (by decide +kernel), rfl⟩
theorem fX3_46 : gFld RX3 46 3 1 0 false := ⟨RX3, TX3, 6, rfl, by decide, rfl, rfl, gT1 (i := 158) (by decide +kernel) (by decide +kernel), rfl⟩
theorem fX9_163 : gFld RX9 163 3 1 0 false := ⟨RX3, TX3, 6, rfl, by decide, rfl, rfl, gT1 (i := 159) (by decide +kernel) (by decide +kernel), rfl⟩
theorem fX3_36 : gFld RX3 36 3 2 0 false := ⟨RX3, TX3, 6, rfl, by decide, rfl, rfl, gT1 (i := 160) (by decide +kernel) (by decide +kernel), rfl⟩
theorem fX3_49 : gFld RX3 49 3 3 0 false := ⟨RX3, TX3, 6, rfl, by decide, rfl, rfl, gT1 (i := 161) (by decide +kernel) (by decide +kernel), rfl⟩
theorem fX3_12 : gFld RX3 12 3 4 2 true := ⟨RX3, TX3, 6, rfl, by decide, rfl, rfl, gT1 (i := 162) (by decide +kernel) (by decide +kernel), rfl⟩
theorem fX3_21 : gFld RX3 21 3 5 2 true := ⟨RX3, TX3, 6, rfl, by decide, rfl, rfl, gT1 (i := 163) (by decide +kernel) (by decide +kernel), rfl⟩
theorem cX9_39 : Cond.classLink RX9 39 RX2 ∈ gTbl := gT1 (i := 177) (by decide +kernel) (by decide +kernel)
theorem lX9_41 : gLkIN RX9 41 mX2_init := ⟨by decide +kernel, gT1 (i := 136) (by decide +kernel) (by decide +kernel), rfl, rfl⟩
theorem cX9_46 : Cond.classLink RX9 46 RX0 ∈ gTbl := gT1 (i := 179) (by decide +kernel) (by decide +kernel)
theorem lX9_48 : gLkIN RX9 48 mX0_init := ⟨by decide +kernel, gT1 (i := 182) (by decide +kernel) (by decide +kernel), rfl, rfl⟩
theorem lX0_3 : gLkO RX0 3 := ⟨gT1 (i := 184) (by decide +kernel) (by decide +kernel), gT1 (i := 28) (by decide +kernel) (by decide +kernel), gT1 (i := 29) (by decide +kernel) (by decide +kernel)⟩
theorem cX0_23 : Cond.classLink RX0 23 RX8 ∈ gTbl := gT1 (i := 185) (by decide +kernel) (by decide +kernel)
theorem lX0_25 : gLkIN RX0 25 mX8_init := ⟨by decide +kernel, gT1 (i := 40) (by decide +kernel) (by decide +kernel), rfl, rfl⟩
theorem fX0_33 : gFld RX0 33 0 0 0 false := ⟨RX0, TX0, 7, rfl, by decide, rfl, rfl, gT1 (i := 187) (by decide +kernel) (by decide +kernel), rfl⟩
theorem fX9_194 : gFld RX9 194 0 0 0 false := ⟨RX0, TX0, 7, rfl, by decide, rfl, rfl, gT1 (i := 188) (by decide +kernel) (by decide +kernel), rfl⟩
theorem fX0_9 : gFld RX0 9 0 1 0 false := ⟨RX0, TX0, 7, rfl, by decide, rfl, rfl, gT1 (i := 189) (by decide +kernel) (by decide +kernel), rfl⟩
theorem fX0_36 : gFld RX0 36 0 2 0 false := ⟨RX0, TX0, 7, rfl, by decide, rfl, rfl, gT1 (i := 190) (by decide +kernel) (by decide +kernel), rfl⟩
theorem fX0_15 : gFld RX0 15 0 3 2 true := ⟨RX0, TX0, 7, rfl, by decide, rfl, rfl, gT1 (i := 191) (by decide +kernel) (by decide +kernel), rfl⟩
theorem fX0_19 : gFld RX0 19 0 4 2 true := ⟨RX0, TX0, 7, rfl, by decide, rfl, rfl, gT1 (i := 192) (by decide +kernel) (by decide +kernel), rfl⟩
theorem fX0_26 : gFld RX0 26 0 5 2 true := ⟨RX0, TX0, 7, rfl, by decide, rfl, rfl, gT1 (i := 193) (by decide +kernel) (by decide +kernel), rfl⟩
theorem fX0_30 : gFld RX0 30 0 6 2 true := ⟨RX0, TX0, 7, rfl, by decide, rfl, rfl, gT1 (i := 194) (by decide +kernel) (by decide +kernel), rfl⟩
theorem cX9_53 : Cond.classLink RX9 53 RX1 ∈ gTbl := gT1 (i := 211) (by decide +kernel) (by decide +kernel)
theorem lX9_55 : gLkIN RX9 55 mX1_init := ⟨by decide +kernel, gT1 (i := 214) (by decide +kernel) (by decide +kernel), rfl, rfl⟩
theorem lX1_3 : gLkO RX1 3 := ⟨gT1 (i := 216) (by decide +kernel) (by decide +kernel), gT1 (i := 28) (by decide +kernel) (by decide +kernel), gT1 (i := 29) (by decide +kernel) (by decide +kernel)⟩
theorem cX1_21 : Cond.classLink RX1 21 RX8 ∈ gTbl := gT1 (i := 217) (by decide +kernel) (by decide +kernel)
theorem lX1_23 : gLkIN RX1 23 mX8_init := ⟨by decide +kernel, gT1 (i := 40) (by decide +kernel) (by decide +kernel), rfl, rfl⟩
theorem fX1_9 : gFld RX1 9 1 0 2 true := ⟨RX1, TX1, 7, rfl, by decide, rfl, rfl, gT1 (i := 219) (by decide +kernel) (by decide +kernel), rfl⟩
theorem fX1_15 : gFld RX1 15 1 1 2 true := ⟨RX1, TX1, 7, rfl, by decide, rfl, rfl, gT1 (i := 220) (by decide +kernel) (by decide +kernel), rfl⟩
theorem fX1_18 : gFld RX1 18 1 2 2 true := ⟨RX1, TX1, 7, rfl, by decide, rfl, rfl, gT1 (i := 221) (by decide +kernel) (by decide +kernel), rfl⟩
theorem fX1_52 : gFld RX1 52 1 3 0 false := ⟨RX1, TX1, 7, rfl, by decide, rfl, rfl, gT1 (i := 222) (by decide +kernel) (by decide +kernel), rfl⟩
theorem fX1_56 : gFld RX1 56 1 4 2 false := ⟨RX1, TX1, 7, rfl, by decide, rfl, rfl, gT1 (i := 223) (by decide +kernel) (by decide +kernel), rfl⟩
theorem fX1_64 : gFld RX1 64 1 5 2 false := ⟨RX1, TX1, 7, rfl, by decide, rfl, rfl, gT1 (i := 224) (by decide +kernel) (by decide +kernel), rfl⟩
theorem fX1_24 : gFld RX1 24 1 6 2 true := ⟨RX1, TX1, 7, rfl, by decide, rfl, rfl, gT1 (i := 225) (by decide +kernel) (by decide +kernel), rfl⟩
theorem cX9_60 : Cond.classLink RX9 60 RX4 ∈ gTbl := gT2 (i := 1) (by decide +kernel) (by decide +kernel)
theorem lX9_62 : gLkIN RX9 62 mX4_init := ⟨by decide +kernel, gT2 (i := 4) (by decide +kernel) (by decide +kernel), rfl, rfl⟩
theorem lX4_3 : gLkO RX4 3 := ⟨gT2 (i := 6) (by decide +kernel) (by decide +kernel), gT1 (i := 28) (by decide +kernel) (by decide +kernel), gT1 (i := 29) (by decide +kernel) (by decide +kernel)⟩
theorem fX4_19 : gFld RX4 19 4 0 0 false := ⟨RX4, TX4, 3, rfl, by decide, rfl, rfl, gT2 (i := 7) (by decide +kernel) (by decide +kernel), rfl⟩
theorem fX1_75 : gFld RX1 75 4 0 0 false := ⟨RX4, TX4, 3, rfl, by decide, rfl, rfl, gT2 (i := 8) (by decide +kernel) (by decide +kernel), rfl⟩
theorem fX4_23 : gFld RX4 23 4 1 0 false := ⟨RX4, TX4, 3, rfl, by decide, rfl, rfl, gT2 (i := 9) (by decide +kernel) (by decide +kernel), rfl⟩
theorem fX1_68 : gFld RX1 68 4 1 0 false := ⟨RX4, TX4, 3, rfl, by decide, rfl, rfl, gT2 (i := 10) (by decide +kernel) (by decide +kernel), rfl⟩
theorem fX9_238 : gFld RX9 238 4 1 0 false := ⟨RX4, TX4, 3, rfl, by decide, rfl, rfl, gT2 (i := 11) (by decide +kernel) (by decide +kernel), rfl⟩
theorem fX4_9 : gFld RX4 9 4 2 2 true := ⟨RX4, TX4, 3, rfl, by decide, rfl, rfl, gT2 (i := 12) (by decide +kernel) (by decide +kernel), rfl⟩
theorem fX1_102 : gFld RX1 102 4 2 2 true := ⟨RX4, TX4, 3, rfl, by decide, rfl, rfl, gT2 (i := 13) (by decide +kernel) (by decide +kernel), rfl⟩
theorem cX9_73 : Cond.classLink RX9 73 RX8 ∈ gTbl := gT2 (i := 21) (by decide +kernel) (by decide +kernel)
theorem lX9_75 : gLkIN RX9 75 mX8_init := ⟨by decide +kernel, gT1 (i := 40) (by decide +kernel) (by decide +kernel), rfl, rfl⟩
theorem lX9_83 : gLkIN RX9 83 mX5_init := ⟨by decide +kernel, gT2 (i := 25) (by decide +kernel) (by decide +kernel), rfl, rfl⟩
theorem lX5_3 : gLkO RX5 3 := ⟨gT2 (i := 27) (by decide +kernel) (by decide +kernel), gT1 (i := 28) (by decide +kernel) (by decide +kernel), gT1 (i := 29) (by decide +kernel) (by decide +kernel)⟩
theorem fX5_9 : gFld RX5 9 5 0 0 false := ⟨RX5, TX5, 3, rfl, by decide, rfl, rfl, gT2 (i := 28) (by decide +kernel) (by decide +kernel), rfl⟩
theorem fX9_302 : gFld RX9 302 5 0 0 false := ⟨RX5, TX5, 3, rfl, by decide, rfl, rfl, gT2 (i := 29) (by decide +kernel) (by decide +kernel), rfl⟩
theorem fX5_19 : gFld RX5 19 5 1 0 false := ⟨RX5, TX5, 3, rfl, by decide, rfl, rfl, gT2 (i := 30) (by decide +kernel) (by decide +kernel), rfl⟩
theorem fX5_15 : gFld RX5 15 5 2 2 true := ⟨RX5, TX5, 3, rfl, by decide, rfl, rfl, gT2 (i := 31) (by decide +kernel) (by decide +kernel), rfl⟩
theorem fX9_305 : gFld RX9 305 5 2 2 true := ⟨RX5, TX5, 3, rfl, by decide, rfl, rfl, gT2 (i := 32) (by decide +kernel) (by decide +kernel), rfl⟩
theorem fX9_10 : gFld RX9 10 9 0 2 true := ⟨RX9, TX9, 14, rfl, by decide, rfl, rfl, gT2 (i := 40) (by decide +kernel) (by decide +kernel), rfl⟩
theorem fX9_16 : gFld RX9 16 9 1 2 true := ⟨RX9, TX9, 14, rfl, by decide, rfl, rfl, gT2 (i := 41) (by decide +kernel) (by decide +kernel), rfl⟩
theorem fX9_324 : gFld RX9 324 9 2 3 false := ⟨RX9, TX9, 14, rfl, by decide, rfl, rfl, gT2 (i := 42) (by decide +kernel) (by decide +kernel), rfl⟩
theorem fX9_22 : gFld RX9 22 9 3 2 true := ⟨RX9, TX9, 14, rfl, by decide, rfl, rfl, gT2 (i := 43) (by decide +kernel) (by decide +kernel), rfl⟩
theorem fX9_28 : gFld RX9 28 9 4 2 true := ⟨RX9, TX9, 14, rfl, by decide, rfl, rfl, gT2 (i := 44) (by decide +kernel) (by decide +kernel), rfl⟩
theorem fX9_35 : gFld RX9 35 9 5 2 true := ⟨RX9, TX9, 14, rfl, by decide, rfl, rfl, gT2 (i := 45) (by decide +kernel) (by decide +kernel), rfl⟩
theorem fX9_42 : gFld RX9 42 9 6 2 true := ⟨RX9, TX9, 14, rfl, by decide, rfl, rfl, gT2 (i := 46) (by decide +kernel) (by decide +kernel), rfl⟩
theorem fX9_49 : gFld RX9 49 9 7 2 true := ⟨RX9, TX9, 14, rfl, by decide, rfl, rfl, gT2 (i := 47) (by decide +kernel) (by decide +kernel), rfl⟩
theorem fX9_56 : gFld RX9 56 9 8 2 true := ⟨RX9, TX9, 14, rfl, by decide, rfl, rfl, gT2 (i := 48) (by decide +kernel) (by decide +kernel), rfl⟩
theorem fX9_63 : gFld RX9 63 9 9 2 true := ⟨RX9, TX9, 14, rfl, by decide, rfl, rfl, gT2 (i := 49) (by decide +kernel) (by decide +kernel), rfl⟩
theorem fX9_67 : gFld RX9 67 9 10 2 true := ⟨RX9, TX9, 14, rfl, by decide, rfl, rfl, gT2 (i := 50) (by decide +kernel) (by decide +kernel), rfl⟩
theorem fX9_70 : gFld RX9 70 9 11 2 true := ⟨RX9, TX9, 14, rfl, by decide, rfl, rfl, gT2 (i := 51) (by decide +kernel) (by decide +kernel), rfl⟩
theorem fX9_76 : gFld RX9 76 9 12 2 true := ⟨RX9, TX9, 14, rfl, by decide, rfl, rfl, gT2 (i := 52) (by decide +kernel) (by decide +kernel), rfl⟩
theorem fX9_80 : gFld RX9 80 9 13 2 true := ⟨RX9, TX9, 14, rfl, by decide, rfl, rfl, gT2 (i := 53) (by decide +kernel) (by decide +kernel), rfl⟩
theorem lL_13 : gLkV RL 13 mX9_letters := ⟨gT2 (i := 83) (by decide +kernel) (by decide +kernel), gT2 (i := 84) (by decide +kernel) (by decide +kernel), gT2 (i := 85) (by decide +kernel) (by decide +kernel)⟩
theorem lX9_88 : gLkV RX9 88 mX6_emptySlots := ⟨gT2 (i := 87) (by decide +kernel) (by decide +kernel), gT2 (i := 88) (by decide +kernel) (by decide +kernel), gT2 (i := 89) (by decide +kernel) (by decide +kernel)⟩
theorem lX6_45 : gLkV RX6 45 mX8_becomeNothing := ⟨gT2 (i := 91) (by decide +kernel) (by decide +kernel), gT2 (i := 92) (by decide +kernel) (by decide +kernel), gT2 (i := 93) (by decide +kernel) (by decide +kernel)⟩
theorem lL_18 : gLkV RL 18 mX9_word := ⟨gT2 (i := 95) (by decide +kernel) (by decide +kernel), gT2 (i := 96) (by decide +kernel) (by decide +kernel), gT2 (i := 97) (by decide +kernel) (by decide +kernel)⟩
theorem lX9_91 : gLkS RX9 91 mX9_isSlot := ⟨gT2 (i := 99) (by decide +kernel) (by decide +kernel), gT2 (i := 100) (by decide +kernel) (by decide +kernel)⟩
theorem lX9_95 : gLkV RX9 95 mX8_becomesWord := ⟨gT2 (i := 102) (by decide +kernel) (by decide +kernel), gT2 (i := 103) (by decide +kernel) (by decide +kernel), gT2 (i := 104) (by decide +kernel) (by decide +kernel)⟩
theorem lX8_28 : gLkSN RX8 28 mX9_howManyDigits := ⟨by decide +kernel, gT2 (i := 107) (by decide +kernel) (by decide +kernel)⟩
theorem lX8_32 : gLkV RX8 32 mX8_becomeWordOf := ⟨gT2 (i := 109) (by decide +kernel) (by decide +kernel), gT2 (i := 110) (by decide +kernel) (by decide +kernel), gT2 (i := 111) (by decide +kernel) (by decide +kernel)⟩
theorem lX9_103 : gLkV RX9 103 mX8_becomeLike := ⟨gT2 (i := 113) (by decide +kernel) (by decide +kernel), gT2 (i := 114) (by decide +kernel) (by decide +kernel), gT2 (i := 115) (by decide +kernel) (by decide +kernel)⟩
theorem lX8_36 : gLkA RX8 36 := ⟨gT2 (i := 117) (by decide +kernel) (by decide +kernel), gT2 (i := 119) (by decide +kernel) (by decide +kernel), gT2 (i := 118) (by decide +kernel) (by decide +kernel), gT1 (i := 13) (by decide +kernel) (by decide +kernel)⟩
theorem lL_25 : gLkV RL 25 mX9_feed := ⟨gT2 (i := 120) (by decide +kernel) (by decide +kernel), gT2 (i := 121) (by decide +kernel) (by decide +kernel), gT2 (i := 122) (by decide +kernel) (by decide +kernel)⟩
theorem lX9_113 : gLkV RX9 113 mX7_append := ⟨gT2 (i := 124) (by decide +kernel) (by decide +kernel), gT2 (i := 125) (by decide +kernel) (by decide +kernel), gT2 (i := 126) (by decide +kernel) (by decide +kernel)⟩
theorem lL_30 : gLkV RL 30 mX9_tableau := ⟨gT2 (i := 128) (by decide +kernel) (by decide +kernel), gT2 (i := 129) (by decide +kernel) (by decide +kernel), gT2 (i := 130) (by decide +kernel) (by decide +kernel)⟩
theorem lX9_117 : gLkV RX9 117 mX7_readsTableau := ⟨gT2 (i := 132) (by decide +kernel) (by decide +kernel), gT2 (i := 133) (by decide +kernel) (by decide +kernel), gT2 (i := 134) (by decide +kernel) (by decide +kernel)⟩
theorem lX7_22 : gLkV RX7 22 mX2_clear := ⟨gT2 (i := 136) (by decide +kernel) (by decide +kernel), gT2 (i := 137) (by decide +kernel) (by decide +kernel), gT2 (i := 138) (by decide +kernel) (by decide +kernel)⟩
theorem lX2_28 : gLkS RX2 28 mJ7_fill_53178 := ⟨gT2 (i := 140) (by decide +kernel) (by decide +kernel), gT1 (i := 78) (by decide +kernel) (by decide +kernel)⟩
theorem lX7_27 : gLkV RX7 27 mX7_rewind := ⟨gT2 (i := 141) (by decide +kernel) (by decide +kernel), gT2 (i := 142) (by decide +kernel) (by decide +kernel), gT2 (i := 143) (by decide +kernel) (by decide +kernel)⟩
theorem lX7_30 : gLkV RX7 30 mX7_goesOn := ⟨gT2 (i := 145) (by decide +kernel) (by decide +kernel), gT2 (i := 146) (by decide +kernel) (by decide +kernel), gT2 (i := 147) (by decide +kernel) (by decide +kernel)⟩
theorem lX7_34 : gLkV RX7 34 mX2_hasRow := ⟨gT2 (i := 149) (by decide +kernel) (by decide +kernel), gT2 (i := 150) (by decide +kernel) (by decide +kernel), gT2 (i := 151) (by decide +kernel) (by decide +kernel)⟩
theorem lX7_38 : gLkV RX7 38 mX7_isDigit := ⟨gT2 (i := 153) (by decide +kernel) (by decide +kernel), gT2 (i := 155) (by decide +kernel) (by decide +kernel), gT0 (i := 0) (by decide +kernel) (by decide +kernel)⟩
theorem lX7_42 : gLkV RX7 42 mX2_takes := ⟨gT2 (i := 157) (by decide +kernel) (by decide +kernel), gT2 (i := 158) (by decide +kernel) (by decide +kernel), gT2 (i := 159) (by decide +kernel) (by decide +kernel)⟩
theorem lX2_34 : gLkV RX2 34 mX2_cellAt := ⟨gT2 (i := 161) (by decide +kernel) (by decide +kernel), gT2 (i := 163) (by decide +kernel) (by decide +kernel), gT0 (i := 1) (by decide +kernel) (by decide +kernel)⟩
theorem lX7_45 : gLkV RX7 45 mX2_append := ⟨gT2 (i := 165) (by decide +kernel) (by decide +kernel), gT2 (i := 166) (by decide +kernel) (by decide +kernel), gT2 (i := 167) (by decide +kernel) (by decide +kernel)⟩
theorem lX2_38 : gLkX RX2 38 := ⟨gT2 (i := 169) (by decide +kernel) (by decide +kernel), gT2 (i := 170) (by decide +kernel) (by decide +kernel), gT1 (i := 14) (by decide +kernel) (by decide +kernel), gT2 (i := 171) (by decide +kernel) (by decide +kernel)⟩
theorem lX9_121 : gLkV RX9 121 mX7_useUp := ⟨gT2 (i := 172) (by decide +kernel) (by decide +kernel), gT2 (i := 173) (by decide +kernel) (by decide +kernel), gT2 (i := 174) (by decide +kernel) (by decide +kernel)⟩
theorem lX9_127 : gLkV RX9 127 mX2_writeTo := ⟨gT2 (i := 176) (by decide +kernel) (by decide +kernel), gT2 (i := 177) (by decide +kernel) (by decide +kernel), gT2 (i := 178) (by decide +kernel) (by decide +kernel)⟩
theorem lX2_68 : gLkA RX2 68 := ⟨gT2 (i := 180) (by decide +kernel) (by decide +kernel), gT2 (i := 119) (by decide +kernel) (by decide +kernel), gT2 (i := 118) (by decide +kernel) (by decide +kernel), gT1 (i := 13) (by decide +kernel) (by decide +kernel)⟩
theorem lL_34 : gLkV RL 34 mX9_bare := ⟨gT2 (i := 181) (by decide +kernel) (by decide +kernel), gT2 (i := 182) (by decide +kernel) (by decide +kernel), gT2 (i := 183) (by decide +kernel) (by decide +kernel)⟩
theorem lX9_130 : gLkV RX9 130 mX9_isHeld := ⟨gT2 (i := 185) (by decide +kernel) (by decide +kernel), gT2 (i := 187) (by decide +kernel) (by decide +kernel), gT0 (i := 2) (by decide +kernel) (by decide +kernel)⟩
theorem lX9_133 : gLkV RX9 133 mX8_becomeNothing := ⟨gT2 (i := 189) (by decide +kernel) (by decide +kernel), gT2 (i := 92) (by decide +kernel) (by decide +kernel), gT2 (i := 93) (by decide +kernel) (by decide +kernel)⟩
theorem lL_38 : gLkV RL 38 mX9_of := ⟨gT2 (i := 190) (by decide +kernel) (by decide +kernel), gT2 (i := 191) (by decide +kernel) (by decide +kernel), gT2 (i := 192) (by decide +kernel) (by decide +kernel)⟩
theorem lX9_139 : gLkV RX9 139 mX8_number := ⟨gT2 (i := 194) (by decide +kernel) (by decide +kernel), gT2 (i := 195) (by decide +kernel) (by decide +kernel), gT2 (i := 196) (by decide +kernel) (by decide +kernel)⟩
theorem lX8_42 : gLkV RX8 42 mX8_numberFrom := ⟨gT2 (i := 198) (by decide +kernel) (by decide +kernel), gT2 (i := 200) (by decide +kernel) (by decide +kernel), gT0 (i := 3) (by decide +kernel) (by decide +kernel)⟩
theorem lX9_143 : gLkV RX9 143 mX8_content := ⟨gT2 (i := 202) (by decide +kernel) (by decide +kernel), gT2 (i := 203) (by decide +kernel) (by decide +kernel), gT2 (i := 204) (by decide +kernel) (by decide +kernel)⟩
theorem lL_42 : gLkV RL 42 mX9_row := ⟨gT2 (i := 206) (by decide +kernel) (by decide +kernel), gT2 (i := 207) (by decide +kernel) (by decide +kernel), gT2 (i := 208) (by decide +kernel) (by decide +kernel)⟩
theorem lX9_150 : gLkV RX9 150 mX8_numberOfRow := ⟨gT2 (i := 210) (by decide +kernel) (by decide +kernel), gT2 (i := 211) (by decide +kernel) (by decide +kernel), gT2 (i := 212) (by decide +kernel) (by decide +kernel)⟩
theorem lL_46 : gLkV RL 46 mX9_taken := ⟨gT2 (i := 214) (by decide +kernel) (by decide +kernel), gT2 (i := 215) (by decide +kernel) (by decide +kernel), gT2 (i := 216) (by decide +kernel) (by decide +kernel)⟩
theorem lL_50 : gLkV RL 50 mX9_signs := ⟨gT2 (i := 218) (by decide +kernel) (by decide +kernel), gT2 (i := 219) (by decide +kernel) (by decide +kernel), gT2 (i := 220) (by decide +kernel) (by decide +kernel)⟩
theorem lX9_153 : gLkV RX9 153 mX9_isStep := ⟨gT2 (i := 222) (by decide +kernel) (by decide +kernel), gT2 (i := 224) (by decide +kernel) (by decide +kernel), gT0 (i := 4) (by decide +kernel) (by decide +kernel)⟩
theorem lX9_156 : gLkV RX9 156 mX3_look := ⟨gT2 (i := 226) (by decide +kernel) (by decide +kernel), gT2 (i := 227) (by decide +kernel) (by decide +kernel), gT2 (i := 228) (by decide +kernel) (by decide +kernel)⟩
theorem lX3_25 : gLkV RX3 25 mX3_lookFromLeft := ⟨gT2 (i := 230) (by decide +kernel) (by decide +kernel), gT2 (i := 232) (by decide +kernel) (by decide +kernel), gT0 (i := 5) (by decide +kernel) (by decide +kernel)⟩
theorem lX3_29 : gLkV RX3 29 mX3_lookFromRight := ⟨gT2 (i := 234) (by decide +kernel) (by decide +kernel), gT2 (i := 236) (by decide +kernel) (by decide +kernel), gT0 (i := 6) (by decide +kernel) (by decide +kernel)⟩
theorem lL_55 : gLkV RL 55 mX9_act := ⟨gT2 (i := 238) (by decide +kernel) (by decide +kernel), gT2 (i := 239) (by decide +kernel) (by decide +kernel), gT3 (i := 0) (by decide +kernel) (by decide +kernel)⟩
theorem lX9_166 : gLkV RX9 166 mX3_perform := ⟨gT3 (i := 2) (by decide +kernel) (by decide +kernel), gT3 (i := 3) (by decide +kernel) (by decide +kernel), gT3 (i := 4) (by decide +kernel) (by decide +kernel)⟩
theorem lX3_52 : gLkV RX3 52 mX3_raiseOnce := ⟨gT3 (i := 6) (by decide +kernel) (by decide +kernel), gT3 (i := 7) (by decide +kernel) (by decide +kernel), gT3 (i := 8) (by decide +kernel) (by decide +kernel)⟩
theorem lX3_56 : gLkV RX3 56 mX3_lowerOnce := ⟨gT3 (i := 10) (by decide +kernel) (by decide +kernel), gT3 (i := 11) (by decide +kernel) (by decide +kernel), gT3 (i := 12) (by decide +kernel) (by decide +kernel)⟩
theorem lX3_59 : gLkV RX3 59 mX8_becomeLike := ⟨gT3 (i := 14) (by decide +kernel) (by decide +kernel), gT2 (i := 114) (by decide +kernel) (by decide +kernel), gT2 (i := 115) (by decide +kernel) (by decide +kernel)⟩
theorem lX3_63 : gLkV RX3 63 mX3_turn := ⟨gT3 (i := 15) (by decide +kernel) (by decide +kernel), gT3 (i := 17) (by decide +kernel) (by decide +kernel), gT0 (i := 7) (by decide +kernel) (by decide +kernel)⟩
theorem lX3_87 : gLkV RX3 87 mX2_insertAll := ⟨gT3 (i := 19) (by decide +kernel) (by decide +kernel), gT3 (i := 20) (by decide +kernel) (by decide +kernel), gT3 (i := 21) (by decide +kernel) (by decide +kernel)⟩
theorem lX2_43 : gLkV RX2 43 mX2_clear := ⟨gT3 (i := 23) (by decide +kernel) (by decide +kernel), gT2 (i := 137) (by decide +kernel) (by decide +kernel), gT2 (i := 138) (by decide +kernel) (by decide +kernel)⟩
theorem lX2_52 : gLkV RX2 52 mX2_insertLetter := ⟨gT3 (i := 24) (by decide +kernel) (by decide +kernel), gT3 (i := 26) (by decide +kernel) (by decide +kernel), gT0 (i := 8) (by decide +kernel) (by decide +kernel)⟩
theorem lX2_56 : gLkV RX2 56 mX2_firstGreater := ⟨gT3 (i := 28) (by decide +kernel) (by decide +kernel), gT3 (i := 30) (by decide +kernel) (by decide +kernel), gT0 (i := 9) (by decide +kernel) (by decide +kernel)⟩
theorem lX2_59 : gLkV RX2 59 mX2_append := ⟨gT3 (i := 32) (by decide +kernel) (by decide +kernel), gT2 (i := 166) (by decide +kernel) (by decide +kernel), gT2 (i := 167) (by decide +kernel) (by decide +kernel)⟩
theorem lX3_90 : gLkV RX3 90 mX2_writeTo := ⟨gT3 (i := 33) (by decide +kernel) (by decide +kernel), gT2 (i := 177) (by decide +kernel) (by decide +kernel), gT2 (i := 178) (by decide +kernel) (by decide +kernel)⟩
theorem lX3_66 : gLkV RX3 66 mX3_moveAlong := ⟨gT3 (i := 34) (by decide +kernel) (by decide +kernel), gT3 (i := 36) (by decide +kernel) (by decide +kernel), gT0 (i := 10) (by decide +kernel) (by decide +kernel)⟩
theorem lX3_74 : gLkV RX3 74 mX3_look := ⟨gT3 (i := 38) (by decide +kernel) (by decide +kernel), gT2 (i := 227) (by decide +kernel) (by decide +kernel), gT2 (i := 228) (by decide +kernel) (by decide +kernel)⟩
theorem lX3_77 : gLkV RX3 77 mX3_raiseTimes := ⟨gT3 (i := 39) (by decide +kernel) (by decide +kernel), gT3 (i := 41) (by decide +kernel) (by decide +kernel), gT0 (i := 11) (by decide +kernel) (by decide +kernel)⟩
theorem lX3_81 : gLkV RX3 81 mX3_lowerTimes := ⟨gT3 (i := 43) (by decide +kernel) (by decide +kernel), gT3 (i := 45) (by decide +kernel) (by decide +kernel), gT0 (i := 12) (by decide +kernel) (by decide +kernel)⟩
theorem lX3_70 : gLkV RX3 70 mX8_isSameAs := ⟨gT3 (i := 47) (by decide +kernel) (by decide +kernel), gT3 (i := 48) (by decide +kernel) (by decide +kernel), gT3 (i := 49) (by decide +kernel) (by decide +kernel)⟩
theorem lL_60 : gLkV RL 60 mX9_acts := ⟨gT3 (i := 51) (by decide +kernel) (by decide +kernel), gT3 (i := 52) (by decide +kernel) (by decide +kernel), gT3 (i := 53) (by decide +kernel) (by decide +kernel)⟩
theorem lX9_170 : gLkV RX9 170 mX7_rewind := ⟨gT3 (i := 55) (by decide +kernel) (by decide +kernel), gT2 (i := 142) (by decide +kernel) (by decide +kernel), gT2 (i := 143) (by decide +kernel) (by decide +kernel)⟩
theorem lX9_173 : gLkV RX9 173 mX7_goesOn := ⟨gT3 (i := 56) (by decide +kernel) (by decide +kernel), gT2 (i := 146) (by decide +kernel) (by decide +kernel), gT2 (i := 147) (by decide +kernel) (by decide +kernel)⟩
theorem lX9_177 : gLkV RX9 177 mX7_readsAct := ⟨gT3 (i := 57) (by decide +kernel) (by decide +kernel), gT3 (i := 58) (by decide +kernel) (by decide +kernel), gT3 (i := 59) (by decide +kernel) (by decide +kernel)⟩
theorem lX7_49 : gLkV RX7 49 mX7_readsName := ⟨gT3 (i := 61) (by decide +kernel) (by decide +kernel), gT3 (i := 63) (by decide +kernel) (by decide +kernel), gT0 (i := 13) (by decide +kernel) (by decide +kernel)⟩
theorem lX7_61 : gLkV RX7 61 mX7_endOfName := ⟨gT3 (i := 65) (by decide +kernel) (by decide +kernel), gT3 (i := 67) (by decide +kernel) (by decide +kernel), gT0 (i := 14) (by decide +kernel) (by decide +kernel)⟩
theorem lX7_65 : gLkS RX7 65 mX7_nameOf := ⟨gT3 (i := 69) (by decide +kernel) (by decide +kernel), gT3 (i := 70) (by decide +kernel) (by decide +kernel)⟩
theorem lX7_69 : gLkV RX7 69 mX7_isName := ⟨gT3 (i := 78) (by decide +kernel) (by decide +kernel), gT3 (i := 80) (by decide +kernel) (by decide +kernel), gT0 (i := 15) (by decide +kernel) (by decide +kernel)⟩
theorem lX7_73 : gLkV RX7 73 mJ0_length_8abf5 := ⟨gT3 (i := 82) (by decide +kernel) (by decide +kernel), gT3 (i := 83) (by decide +kernel) (by decide +kernel), gT3 (i := 84) (by decide +kernel) (by decide +kernel)⟩
theorem lJ0_335 : gLkV RJ0 335 mJ0_coder_7d493 := ⟨gT3 (i := 86) (by decide +kernel) (by decide +kernel), gT3 (i := 87) (by decide +kernel) (by decide +kernel), gT3 (i := 88) (by decide +kernel) (by decide +kernel)⟩
theorem fJ0_38 : Cond.fieldLink RJ0 38 "java/lang/String" "COMPACT_STRINGS" "Z" ∈ gTbl := gT3 (i := 90) (by decide +kernel) (by decide +kernel)
theorem lX7_77 : gLkV RX7 77 mJ0_charAt_5068e := ⟨gT3 (i := 92) (by decide +kernel) (by decide +kernel), gT3 (i := 93) (by decide +kernel) (by decide +kernel), gT3 (i := 94) (by decide +kernel) (by decide +kernel)⟩
theorem lJ0_492 : gLkV RJ0 492 mJ0_isLatin1_aae02 := ⟨gT3 (i := 96) (by decide +kernel) (by decide +kernel), gT3 (i := 97) (by decide +kernel) (by decide +kernel), gT3 (i := 98) (by decide +kernel) (by decide +kernel)⟩
theorem lJ0_495 : gLkS RJ0 495 mJ1_charAt_3b067 := ⟨gT3 (i := 100) (by decide +kernel) (by decide +kernel), gT3 (i := 101) (by decide +kernel) (by decide +kernel)⟩
theorem lJ1_9 : gLkS RJ1 9 mJ0_checkIndex_df160 := ⟨gT3 (i := 103) (by decide +kernel) (by decide +kernel), gT3 (i := 104) (by decide +kernel) (by decide +kernel)⟩
theorem fJ0_1053 : Cond.fieldLink RJ0 1053 "jdk/internal/util/Preconditions" "SIOOBE_FORMATTER" "Ljava/util/function/BiFunction;" ∈ gTbl := gT3 (i := 106) (by decide +kernel) (by decide +kernel)
theorem lJ0_1059 : gLkS RJ0 1059 mJ3_checkIndex_8e157 := ⟨gT3 (i := 108) (by decide +kernel) (by decide +kernel), gT3 (i := 109) (by decide +kernel) (by decide +kernel)⟩
theorem lJ0_498 : gLkS RJ0 498 mJ2_charAt_3b067 := ⟨gT3 (i := 111) (by decide +kernel) (by decide +kernel), gT3 (i := 112) (by decide +kernel) (by decide +kernel)⟩
theorem lJ2_67 : gLkS RJ2 67 mJ2_checkIndex_2214a := ⟨gT3 (i := 114) (by decide +kernel) (by decide +kernel), gT3 (i := 115) (by decide +kernel) (by decide +kernel)⟩
theorem lJ2_48 : gLkS RJ2 48 mJ2_length_9d52b := ⟨gT3 (i := 117) (by decide +kernel) (by decide +kernel), gT3 (i := 118) (by decide +kernel) (by decide +kernel)⟩
theorem lJ2_414 : gLkS RJ2 414 mJ0_checkIndex_df160 := ⟨gT3 (i := 120) (by decide +kernel) (by decide +kernel), gT3 (i := 104) (by decide +kernel) (by decide +kernel)⟩
theorem lJ2_71 : gLkS RJ2 71 mJ2_getChar_3b067 := ⟨gT3 (i := 121) (by decide +kernel) (by decide +kernel), gT3 (i := 122) (by decide +kernel) (by decide +kernel)⟩
theorem fJ2_44 : Cond.fieldLink RJ2 44 "java/lang/StringUTF16" "$assertionsDisabled" "Z" ∈ gTbl := gT3 (i := 124) (by decide +kernel) (by decide +kernel)
theorem fJ2_59 : Cond.fieldLink RJ2 59 "java/lang/StringUTF16" "HI_BYTE_SHIFT" "I" ∈ gTbl := gT3 (i := 126) (by decide +kernel) (by decide +kernel)
theorem fJ2_63 : Cond.fieldLink RJ2 63 "java/lang/StringUTF16" "LO_BYTE_SHIFT" "I" ∈ gTbl := gT3 (i := 128) (by decide +kernel) (by decide +kernel)
theorem lX7_55 : gLkV RX7 55 mX7_readsStep := ⟨gT3 (i := 130) (by decide +kernel) (by decide +kernel), gT3 (i := 132) (by decide +kernel) (by decide +kernel), gT0 (i := 16) (by decide +kernel) (by decide +kernel)⟩
theorem lX7_58 : gLkV RX7 58 mX7_readsSemicolon := ⟨gT3 (i := 134) (by decide +kernel) (by decide +kernel), gT3 (i := 136) (by decide +kernel) (by decide +kernel), gT0 (i := 17) (by decide +kernel) (by decide +kernel)⟩
theorem lL_64 : gLkV RL 64 mX9_highest := ⟨gT3 (i := 139) (by decide +kernel) (by decide +kernel), gT3 (i := 140) (by decide +kernel) (by decide +kernel), gT3 (i := 141) (by decide +kernel) (by decide +kernel)⟩
theorem lX9_186 : gLkV RX9 186 mX3_raiseToHighest := ⟨gT3 (i := 143) (by decide +kernel) (by decide +kernel), gT3 (i := 144) (by decide +kernel) (by decide +kernel), gT3 (i := 145) (by decide +kernel) (by decide +kernel)⟩
theorem lX3_93 : gLkV RX3 93 mX3_raisesForLeast := ⟨gT3 (i := 147) (by decide +kernel) (by decide +kernel), gT3 (i := 149) (by decide +kernel) (by decide +kernel), gT0 (i := 18) (by decide +kernel) (by decide +kernel)⟩
theorem lL_68 : gLkV RL 68 mX9_all := ⟨gT3 (i := 151) (by decide +kernel) (by decide +kernel), gT3 (i := 152) (by decide +kernel) (by decide +kernel), gT3 (i := 153) (by decide +kernel) (by decide +kernel)⟩
theorem lX9_190 : gLkV RX9 190 mX0_gather := ⟨gT3 (i := 155) (by decide +kernel) (by decide +kernel), gT3 (i := 156) (by decide +kernel) (by decide +kernel), gT3 (i := 157) (by decide +kernel) (by decide +kernel)⟩
theorem lX0_40 : gLkV RX0 40 mX0_codeOf := ⟨gT3 (i := 159) (by decide +kernel) (by decide +kernel), gT3 (i := 161) (by decide +kernel) (by decide +kernel), gT0 (i := 19) (by decide +kernel) (by decide +kernel)⟩
theorem lX0_44 : gLkV RX0 44 mX0_isMarked := ⟨gT3 (i := 163) (by decide +kernel) (by decide +kernel), gT3 (i := 165) (by decide +kernel) (by decide +kernel), gT0 (i := 20) (by decide +kernel) (by decide +kernel)⟩
theorem lX0_48 : gLkS RX0 48 mJ7_fill_d0a16 := ⟨gT3 (i := 167) (by decide +kernel) (by decide +kernel), gT3 (i := 168) (by decide +kernel) (by decide +kernel)⟩
theorem lX0_54 : gLkV RX0 54 mX8_becomeLike := ⟨gT3 (i := 170) (by decide +kernel) (by decide +kernel), gT2 (i := 114) (by decide +kernel) (by decide +kernel), gT2 (i := 115) (by decide +kernel) (by decide +kernel)⟩
theorem lX0_58 : gLkV RX0 58 mX3_raiseToHighest := ⟨gT3 (i := 171) (by decide +kernel) (by decide +kernel), gT3 (i := 144) (by decide +kernel) (by decide +kernel), gT3 (i := 145) (by decide +kernel) (by decide +kernel)⟩
theorem lX0_64 : gLkV RX0 64 mX0_admit := ⟨gT3 (i := 172) (by decide +kernel) (by decide +kernel), gT3 (i := 174) (by decide +kernel) (by decide +kernel), gT0 (i := 21) (by decide +kernel) (by decide +kernel)⟩
theorem lX0_68 : gLkV RX0 68 mX0_readCode := ⟨gT3 (i := 176) (by decide +kernel) (by decide +kernel), gT3 (i := 178) (by decide +kernel) (by decide +kernel), gT0 (i := 22) (by decide +kernel) (by decide +kernel)⟩
theorem lX0_82 : gLkV RX0 82 mX8_becomeWordOf := ⟨gT3 (i := 180) (by decide +kernel) (by decide +kernel), gT2 (i := 110) (by decide +kernel) (by decide +kernel), gT2 (i := 111) (by decide +kernel) (by decide +kernel)⟩
theorem lX0_71 : gLkV RX0 71 mX0_admitLowered := ⟨gT3 (i := 181) (by decide +kernel) (by decide +kernel), gT3 (i := 183) (by decide +kernel) (by decide +kernel), gT0 (i := 23) (by decide +kernel) (by decide +kernel)⟩
theorem lX0_75 : gLkV RX0 75 mX3_lowerOnce := ⟨gT3 (i := 185) (by decide +kernel) (by decide +kernel), gT3 (i := 11) (by decide +kernel) (by decide +kernel), gT3 (i := 12) (by decide +kernel) (by decide +kernel)⟩
theorem lX9_197 : gLkV RX9 197 mX0_numberOfMember := ⟨gT3 (i := 186) (by decide +kernel) (by decide +kernel), gT3 (i := 187) (by decide +kernel) (by decide +kernel), gT3 (i := 188) (by decide +kernel) (by decide +kernel)⟩
theorem lX0_85 : gLkS RX0 85 mJ13_bitCount_95d88 := ⟨gT3 (i := 190) (by decide +kernel) (by decide +kernel), gT3 (i := 191) (by decide +kernel) (by decide +kernel)⟩
theorem kJ13_314 : Cond.constantLong RJ13 314 (6148914691236517205 : Int64) ∈ gTbl := gT3 (i := 193) (by decide +kernel) (by decide +kernel)
theorem kJ13_316 : Cond.constantLong RJ13 316 (3689348814741910323 : Int64) ∈ gTbl := gT3 (i := 194) (by decide +kernel) (by decide +kernel)
theorem kJ13_318 : Cond.constantLong RJ13 318 (1085102592571150095 : Int64) ∈ gTbl := gT3 (i := 195) (by decide +kernel) (by decide +kernel)
theorem lX0_91 : gLkS RX0 91 mX0_bitOf := ⟨gT3 (i := 196) (by decide +kernel) (by decide +kernel), gT3 (i := 197) (by decide +kernel) (by decide +kernel)⟩
theorem lX0_99 : gLkS RX0 99 mJ13_numberOfTrailingZeros_95d88 := ⟨gT3 (i := 199) (by decide +kernel) (by decide +kernel), gT3 (i := 200) (by decide +kernel) (by decide +kernel)⟩
theorem lJ13_311 : gLkS RJ13 311 mJ6_numberOfTrailingZeros_0f7a4 := ⟨gT3 (i := 202) (by decide +kernel) (by decide +kernel), gT3 (i := 203) (by decide +kernel) (by decide +kernel)⟩
theorem kJ6_264 : Cond.constant RJ6 264 (65536 : Int32) ∈ gTbl := gT3 (i := 205) (by decide +kernel) (by decide +kernel)
theorem lX0_95 : gLkV RX0 95 mX8_number := ⟨gT3 (i := 206) (by decide +kernel) (by decide +kernel), gT2 (i := 195) (by decide +kernel) (by decide +kernel), gT2 (i := 196) (by decide +kernel) (by decide +kernel)⟩
theorem lL_72 : gLkV RL 72 mX9_stands := ⟨gT3 (i := 207) (by decide +kernel) (by decide +kernel), gT3 (i := 208) (by decide +kernel) (by decide +kernel), gT3 (i := 209) (by decide +kernel) (by decide +kernel)⟩
theorem lX9_200 : gLkV RX9 200 mX0_placeOf := ⟨gT3 (i := 211) (by decide +kernel) (by decide +kernel), gT3 (i := 212) (by decide +kernel) (by decide +kernel), gT3 (i := 213) (by decide +kernel) (by decide +kernel)⟩
theorem lL_76 : gLkV RL 76 mX9_way := ⟨gT3 (i := 215) (by decide +kernel) (by decide +kernel), gT3 (i := 216) (by decide +kernel) (by decide +kernel), gT3 (i := 217) (by decide +kernel) (by decide +kernel)⟩
theorem lX9_204 : gLkV RX9 204 mX3_lowerToLowest := ⟨gT3 (i := 219) (by decide +kernel) (by decide +kernel), gT3 (i := 220) (by decide +kernel) (by decide +kernel), gT3 (i := 221) (by decide +kernel) (by decide +kernel)⟩
theorem lX3_96 : gLkV RX3 96 mX3_lowersForLeast := ⟨gT3 (i := 223) (by decide +kernel) (by decide +kernel), gT3 (i := 225) (by decide +kernel) (by decide +kernel), gT0 (i := 24) (by decide +kernel) (by decide +kernel)⟩
theorem lL_80 : gLkV RL 80 mX9_pair := ⟨gT3 (i := 227) (by decide +kernel) (by decide +kernel), gT3 (i := 228) (by decide +kernel) (by decide +kernel), gT3 (i := 229) (by decide +kernel) (by decide +kernel)⟩
theorem lX9_207 : gLkV RX9 207 mX3_canRaise := ⟨gT3 (i := 231) (by decide +kernel) (by decide +kernel), gT3 (i := 232) (by decide +kernel) (by decide +kernel), gT3 (i := 233) (by decide +kernel) (by decide +kernel)⟩
theorem lX9_211 : gLkV RX9 211 mX9_meetInTwo := ⟨gT3 (i := 235) (by decide +kernel) (by decide +kernel), gT3 (i := 237) (by decide +kernel) (by decide +kernel), gT0 (i := 25) (by decide +kernel) (by decide +kernel)⟩
theorem lX9_328 : gLkV RX9 328 mX3_raiseOnce := ⟨gT3 (i := 239) (by decide +kernel) (by decide +kernel), gT3 (i := 7) (by decide +kernel) (by decide +kernel), gT3 (i := 8) (by decide +kernel) (by decide +kernel)⟩
theorem lX9_225 : gLkV RX9 225 mX8_isSameAs := ⟨gT4 (i := 0) (by decide +kernel) (by decide +kernel), gT3 (i := 48) (by decide +kernel) (by decide +kernel), gT3 (i := 49) (by decide +kernel) (by decide +kernel)⟩
theorem lX9_215 : gLkV RX9 215 mX9_meetInFour := ⟨gT4 (i := 1) (by decide +kernel) (by decide +kernel), gT4 (i := 3) (by decide +kernel) (by decide +kernel), gT0 (i := 26) (by decide +kernel) (by decide +kernel)⟩
theorem lX9_331 : gLkV RX9 331 mX9_raisesOutAndBack := ⟨gT4 (i := 5) (by decide +kernel) (by decide +kernel), gT4 (i := 7) (by decide +kernel) (by decide +kernel), gT0 (i := 27) (by decide +kernel) (by decide +kernel)⟩
theorem lL_84 : gLkV RL 84 mX9_insert := ⟨gT4 (i := 9) (by decide +kernel) (by decide +kernel), gT4 (i := 10) (by decide +kernel) (by decide +kernel), gT4 (i := 11) (by decide +kernel) (by decide +kernel)⟩
theorem lX9_218 : gLkV RX9 218 mX2_insertAll := ⟨gT4 (i := 13) (by decide +kernel) (by decide +kernel), gT3 (i := 20) (by decide +kernel) (by decide +kernel), gT3 (i := 21) (by decide +kernel) (by decide +kernel)⟩
theorem lL_88 : gLkV RL 88 mX9_record := ⟨gT4 (i := 14) (by decide +kernel) (by decide +kernel), gT4 (i := 15) (by decide +kernel) (by decide +kernel), gT4 (i := 16) (by decide +kernel) (by decide +kernel)⟩
theorem lX9_222 : gLkV RX9 222 mX2_turnsOfRow := ⟨gT4 (i := 18) (by decide +kernel) (by decide +kernel), gT4 (i := 19) (by decide +kernel) (by decide +kernel), gT4 (i := 20) (by decide +kernel) (by decide +kernel)⟩
theorem lL_92 : gLkV RL 92 mX9_alike := ⟨gT4 (i := 22) (by decide +kernel) (by decide +kernel), gT4 (i := 23) (by decide +kernel) (by decide +kernel), gT4 (i := 24) (by decide +kernel) (by decide +kernel)⟩
theorem lL_96 : gLkV RL 96 mX9_count := ⟨gT4 (i := 26) (by decide +kernel) (by decide +kernel), gT4 (i := 27) (by decide +kernel) (by decide +kernel), gT4 (i := 28) (by decide +kernel) (by decide +kernel)⟩
theorem lX9_229 : gLkV RX9 229 mX4_isTold := ⟨gT4 (i := 30) (by decide +kernel) (by decide +kernel), gT4 (i := 31) (by decide +kernel) (by decide +kernel), gT4 (i := 32) (by decide +kernel) (by decide +kernel)⟩
theorem lX4_15 : gLkSN RX4 15 mX9_howManyDigits := ⟨by decide +kernel, gT2 (i := 107) (by decide +kernel) (by decide +kernel)⟩
theorem lX9_232 : gLkV RX9 232 mX1_allowContent := ⟨gT4 (i := 35) (by decide +kernel) (by decide +kernel), gT4 (i := 36) (by decide +kernel) (by decide +kernel), gT4 (i := 37) (by decide +kernel) (by decide +kernel)⟩
theorem lX1_34 : gLkSN RX1 34 mX9_howManyDigits := ⟨by decide +kernel, gT2 (i := 107) (by decide +kernel) (by decide +kernel)⟩
theorem lX1_38 : gLkV RX1 38 mX1_allowedInAll := ⟨gT4 (i := 40) (by decide +kernel) (by decide +kernel), gT4 (i := 41) (by decide +kernel) (by decide +kernel), gT4 (i := 42) (by decide +kernel) (by decide +kernel)⟩
theorem lX9_235 : gLkV RX9 235 mX1_allowedInAll := ⟨gT4 (i := 44) (by decide +kernel) (by decide +kernel), gT4 (i := 41) (by decide +kernel) (by decide +kernel), gT4 (i := 42) (by decide +kernel) (by decide +kernel)⟩
theorem lX9_239 : gLkV RX9 239 mX1_worthOneEach := ⟨gT4 (i := 45) (by decide +kernel) (by decide +kernel), gT4 (i := 46) (by decide +kernel) (by decide +kernel), gT4 (i := 47) (by decide +kernel) (by decide +kernel)⟩
theorem lX1_28 : gLkS RX1 28 mJ7_fill_53178 := ⟨gT4 (i := 49) (by decide +kernel) (by decide +kernel), gT1 (i := 78) (by decide +kernel) (by decide +kernel)⟩
theorem lX9_242 : gLkV RX9 242 mX1_sum := ⟨gT4 (i := 50) (by decide +kernel) (by decide +kernel), gT4 (i := 51) (by decide +kernel) (by decide +kernel), gT4 (i := 52) (by decide +kernel) (by decide +kernel)⟩
theorem lX1_60 : gLkS RX1 60 mX1_sumFrom := ⟨gT4 (i := 54) (by decide +kernel) (by decide +kernel), gT4 (i := 55) (by decide +kernel) (by decide +kernel)⟩
theorem lX1_71 : gLkV RX1 71 mX1_counts := ⟨gT4 (i := 57) (by decide +kernel) (by decide +kernel), gT4 (i := 59) (by decide +kernel) (by decide +kernel), gT0 (i := 28) (by decide +kernel) (by decide +kernel)⟩
theorem lX1_88 : gLkV RX1 88 mX1_join := ⟨gT4 (i := 61) (by decide +kernel) (by decide +kernel), gT4 (i := 63) (by decide +kernel) (by decide +kernel), gT0 (i := 29) (by decide +kernel) (by decide +kernel)⟩
theorem lX1_98 : gLkV RX1 98 mX8_becomeWordOf := ⟨gT4 (i := 65) (by decide +kernel) (by decide +kernel), gT2 (i := 110) (by decide +kernel) (by decide +kernel), gT2 (i := 111) (by decide +kernel) (by decide +kernel)⟩
theorem lX1_46 : gLkA RX1 46 := ⟨gT4 (i := 66) (by decide +kernel) (by decide +kernel), gT2 (i := 119) (by decide +kernel) (by decide +kernel), gT2 (i := 118) (by decide +kernel) (by decide +kernel), gT1 (i := 13) (by decide +kernel) (by decide +kernel)⟩
theorem lX1_92 : gLkV RX1 92 mX3_isHighest := ⟨gT4 (i := 67) (by decide +kernel) (by decide +kernel), gT4 (i := 68) (by decide +kernel) (by decide +kernel), gT4 (i := 69) (by decide +kernel) (by decide +kernel)⟩
theorem lX3_99 : gLkV RX3 99 mX3_canRaise := ⟨gT4 (i := 71) (by decide +kernel) (by decide +kernel), gT3 (i := 232) (by decide +kernel) (by decide +kernel), gT3 (i := 233) (by decide +kernel) (by decide +kernel)⟩
theorem lX1_41 : gLkV RX1 41 mX4_lengthOf := ⟨gT4 (i := 72) (by decide +kernel) (by decide +kernel), gT4 (i := 73) (by decide +kernel) (by decide +kernel), gT4 (i := 74) (by decide +kernel) (by decide +kernel)⟩
theorem lX1_78 : gLkV RX1 78 mX1_leastLetter := ⟨gT4 (i := 76) (by decide +kernel) (by decide +kernel), gT4 (i := 78) (by decide +kernel) (by decide +kernel), gT0 (i := 30) (by decide +kernel) (by decide +kernel)⟩
theorem lX1_82 : gLkX RX1 82 := ⟨gT4 (i := 80) (by decide +kernel) (by decide +kernel), gT2 (i := 170) (by decide +kernel) (by decide +kernel), gT1 (i := 14) (by decide +kernel) (by decide +kernel), gT2 (i := 171) (by decide +kernel) (by decide +kernel)⟩
theorem lL_100 : gLkV RL 100 mX9_together := ⟨gT4 (i := 81) (by decide +kernel) (by decide +kernel), gT4 (i := 82) (by decide +kernel) (by decide +kernel), gT4 (i := 83) (by decide +kernel) (by decide +kernel)⟩
theorem lX9_246 : gLkV RX9 246 mX1_allowDifference := ⟨gT4 (i := 85) (by decide +kernel) (by decide +kernel), gT4 (i := 86) (by decide +kernel) (by decide +kernel), gT4 (i := 87) (by decide +kernel) (by decide +kernel)⟩
theorem lX9_250 : gLkV RX9 250 mX1_countHighest := ⟨gT4 (i := 89) (by decide +kernel) (by decide +kernel), gT4 (i := 90) (by decide +kernel) (by decide +kernel), gT4 (i := 91) (by decide +kernel) (by decide +kernel)⟩
theorem lL_104 : gLkV RL 104 mX9_worth := ⟨gT4 (i := 93) (by decide +kernel) (by decide +kernel), gT4 (i := 94) (by decide +kernel) (by decide +kernel), gT4 (i := 95) (by decide +kernel) (by decide +kernel)⟩
theorem lX9_254 : gLkV RX9 254 mX9_isLetter := ⟨gT4 (i := 97) (by decide +kernel) (by decide +kernel), gT4 (i := 99) (by decide +kernel) (by decide +kernel), gT0 (i := 31) (by decide +kernel) (by decide +kernel)⟩
theorem lL_108 : gLkV RL 108 mX9_worthOf := ⟨gT4 (i := 101) (by decide +kernel) (by decide +kernel), gT4 (i := 102) (by decide +kernel) (by decide +kernel), gT4 (i := 103) (by decide +kernel) (by decide +kernel)⟩
theorem lX9_261 : gLkV RX9 261 mX1_allowAny := ⟨gT4 (i := 105) (by decide +kernel) (by decide +kernel), gT4 (i := 106) (by decide +kernel) (by decide +kernel), gT4 (i := 107) (by decide +kernel) (by decide +kernel)⟩
theorem lX9_264 : gLkV RX9 264 mX1_worthAs := ⟨gT4 (i := 109) (by decide +kernel) (by decide +kernel), gT4 (i := 110) (by decide +kernel) (by decide +kernel), gT4 (i := 111) (by decide +kernel) (by decide +kernel)⟩
theorem kX9_268 : Cond.constantLong RX9 268 (2147483647 : Int64) ∈ gTbl := gT4 (i := 113) (by decide +kernel) (by decide +kernel)
theorem lL_112 : gLkV RL 112 mX9_seed := ⟨gT4 (i := 114) (by decide +kernel) (by decide +kernel), gT4 (i := 115) (by decide +kernel) (by decide +kernel), gT4 (i := 116) (by decide +kernel) (by decide +kernel)⟩
theorem lL_116 : gLkV RL 116 mX9_lot := ⟨gT4 (i := 118) (by decide +kernel) (by decide +kernel), gT4 (i := 119) (by decide +kernel) (by decide +kernel), gT4 (i := 120) (by decide +kernel) (by decide +kernel)⟩
theorem lX9_273 : gLkV RX9 273 mX8_becomeWordOf := ⟨gT4 (i := 122) (by decide +kernel) (by decide +kernel), gT2 (i := 110) (by decide +kernel) (by decide +kernel), gT2 (i := 111) (by decide +kernel) (by decide +kernel)⟩
theorem lX9_280 : gLkV RX9 280 mX6_draw := ⟨gT4 (i := 123) (by decide +kernel) (by decide +kernel), gT4 (i := 124) (by decide +kernel) (by decide +kernel), gT4 (i := 125) (by decide +kernel) (by decide +kernel)⟩
theorem kX6_54 : Cond.constant RX6 54 (1103515245 : Int32) ∈ gTbl := gT4 (i := 127) (by decide +kernel) (by decide +kernel)
theorem lL_120 : gLkV RL 120 mX9_sheet := ⟨gT4 (i := 128) (by decide +kernel) (by decide +kernel), gT4 (i := 129) (by decide +kernel) (by decide +kernel), gT4 (i := 130) (by decide +kernel) (by decide +kernel)⟩
theorem lX9_283 : gLkS RX9 283 mX9_isSheet := ⟨gT4 (i := 132) (by decide +kernel) (by decide +kernel), gT4 (i := 133) (by decide +kernel) (by decide +kernel)⟩
theorem lX9_286 : gLkV RX9 286 mX5_becomeMissing := ⟨gT4 (i := 135) (by decide +kernel) (by decide +kernel), gT4 (i := 136) (by decide +kernel) (by decide +kernel), gT4 (i := 137) (by decide +kernel) (by decide +kernel)⟩
theorem lX9_289 : gLkV RX9 289 mX5_becomeRow := ⟨gT4 (i := 139) (by decide +kernel) (by decide +kernel), gT4 (i := 140) (by decide +kernel) (by decide +kernel), gT4 (i := 141) (by decide +kernel) (by decide +kernel)⟩
theorem lX5_22 : gLkS RX5 22 mJ7_fill_d0a16 := ⟨gT4 (i := 143) (by decide +kernel) (by decide +kernel), gT3 (i := 168) (by decide +kernel) (by decide +kernel)⟩
theorem lL_124 : gLkV RL 124 mX9_put := ⟨gT4 (i := 144) (by decide +kernel) (by decide +kernel), gT4 (i := 145) (by decide +kernel) (by decide +kernel), gT4 (i := 146) (by decide +kernel) (by decide +kernel)⟩
theorem lX9_293 : gLkV RX9 293 mX5_isMissing := ⟨gT4 (i := 148) (by decide +kernel) (by decide +kernel), gT4 (i := 149) (by decide +kernel) (by decide +kernel), gT4 (i := 150) (by decide +kernel) (by decide +kernel)⟩
theorem lX9_296 : gLkV RX9 296 mX5_hasPlaces := ⟨gT4 (i := 152) (by decide +kernel) (by decide +kernel), gT4 (i := 153) (by decide +kernel) (by decide +kernel), gT4 (i := 154) (by decide +kernel) (by decide +kernel)⟩
theorem lX9_299 : gLkV RX9 299 mX5_write := ⟨gT4 (i := 156) (by decide +kernel) (by decide +kernel), gT4 (i := 157) (by decide +kernel) (by decide +kernel), gT4 (i := 158) (by decide +kernel) (by decide +kernel)⟩
theorem lL_128 : gLkV RL 128 mX9_item := ⟨gT4 (i := 160) (by decide +kernel) (by decide +kernel), gT4 (i := 161) (by decide +kernel) (by decide +kernel), gT4 (i := 162) (by decide +kernel) (by decide +kernel)⟩
theorem lL_132 : gLkV RL 132 mX9_copy := ⟨gT4 (i := 164) (by decide +kernel) (by decide +kernel), gT4 (i := 165) (by decide +kernel) (by decide +kernel), gT4 (i := 166) (by decide +kernel) (by decide +kernel)⟩
theorem lX9_309 : gLkA RX9 309 := ⟨gT4 (i := 168) (by decide +kernel) (by decide +kernel), gT2 (i := 119) (by decide +kernel) (by decide +kernel), gT2 (i := 118) (by decide +kernel) (by decide +kernel), gT1 (i := 13) (by decide +kernel) (by decide +kernel)⟩
theorem lL_137 : gLkV RL 137 mX9_lay := ⟨gT4 (i := 169) (by decide +kernel) (by decide +kernel), gT4 (i := 170) (by decide +kernel) (by decide +kernel), gT4 (i := 171) (by decide +kernel) (by decide +kernel)⟩
theorem lL_141 : gLkV RL 141 mX9_take := ⟨gT4 (i := 173) (by decide +kernel) (by decide +kernel), gT4 (i := 174) (by decide +kernel) (by decide +kernel), gT4 (i := 175) (by decide +kernel) (by decide +kernel)⟩
theorem lL_145 : gLkV RL 145 mX9_many := ⟨gT4 (i := 177) (by decide +kernel) (by decide +kernel), gT4 (i := 178) (by decide +kernel) (by decide +kernel), gT4 (i := 179) (by decide +kernel) (by decide +kernel)⟩
theorem lX9_315 : gLkV RX9 315 mX6_heldSlots := ⟨gT4 (i := 181) (by decide +kernel) (by decide +kernel), gT4 (i := 182) (by decide +kernel) (by decide +kernel), gT4 (i := 183) (by decide +kernel) (by decide +kernel)⟩
theorem lX9_318 : gLkV RX9 318 mX6_lettersInAll := ⟨gT4 (i := 185) (by decide +kernel) (by decide +kernel), gT4 (i := 186) (by decide +kernel) (by decide +kernel), gT4 (i := 187) (by decide +kernel) (by decide +kernel)⟩
theorem lL_149 : gLkV RL 149 mX9_keep := ⟨gT4 (i := 189) (by decide +kernel) (by decide +kernel), gT4 (i := 190) (by decide +kernel) (by decide +kernel), gT4 (i := 191) (by decide +kernel) (by decide +kernel)⟩
theorem lX9_321 : gLkV RX9 321 mX6_becomeLike := ⟨gT4 (i := 193) (by decide +kernel) (by decide +kernel), gT4 (i := 194) (by decide +kernel) (by decide +kernel), gT4 (i := 195) (by decide +kernel) (by decide +kernel)⟩
theorem lX6_35 : gLkV RX6 35 mX8_becomeLike := ⟨gT4 (i := 197) (by decide +kernel) (by decide +kernel), gT2 (i := 114) (by decide +kernel) (by decide +kernel), gT2 (i := 115) (by decide +kernel) (by decide +kernel)⟩
theorem lX6_39 : gLkA RX6 39 := ⟨gT4 (i := 198) (by decide +kernel) (by decide +kernel), gT2 (i := 119) (by decide +kernel) (by decide +kernel), gT2 (i := 118) (by decide +kernel) (by decide +kernel), gT1 (i := 13) (by decide +kernel) (by decide +kernel)⟩
theorem lL_154 : gLkV RL 154 mX9_again := ⟨gT4 (i := 199) (by decide +kernel) (by decide +kernel), gT4 (i := 200) (by decide +kernel) (by decide +kernel), gT4 (i := 201) (by decide +kernel) (by decide +kernel)⟩
theorem cL_10 : Cond.classLink RL 10 RX10 ∈ gTbl := gT4 (i := 203) (by decide +kernel) (by decide +kernel)
theorem lL_12 : gLkI RL 12 mX10_init := ⟨gT4 (i := 205) (by decide +kernel) (by decide +kernel), gT4 (i := 206) (by decide +kernel) (by decide +kernel), rfl, rfl⟩
theorem lX10_1 : gLkO RX10 1 := ⟨gT4 (i := 208) (by decide +kernel) (by decide +kernel), gT1 (i := 28) (by decide +kernel) (by decide +kernel), gT1 (i := 29) (by decide +kernel) (by decide +kernel)⟩
theorem fX10_7 : gFld RX10 7 10 0 0 false := ⟨RX10, TX10, 46, rfl, by decide, rfl, rfl, gT4 (i := 209) (by decide +kernel) (by decide +kernel), rfl⟩
theorem fX10_13 : gFld RX10 13 10 1 0 false := ⟨RX10, TX10, 46, rfl, by decide, rfl, rfl, gT4 (i := 210) (by decide +kernel) (by decide +kernel), rfl⟩
theorem fX10_302 : gFld RX10 302 10 2 0 false := ⟨RX10, TX10, 46, rfl, by decide, rfl, rfl, gT4 (i := 211) (by decide +kernel) (by decide +kernel), rfl⟩
theorem fX10_305 : gFld RX10 305 10 3 0 false := ⟨RX10, TX10, 46, rfl, by decide, rfl, rfl, gT4 (i := 212) (by decide +kernel) (by decide +kernel), rfl⟩
theorem fX10_16 : gFld RX10 16 10 4 2 true := ⟨RX10, TX10, 46, rfl, by decide, rfl, rfl, gT4 (i := 213) (by decide +kernel) (by decide +kernel), rfl⟩
theorem fX10_20 : gFld RX10 20 10 5 2 true := ⟨RX10, TX10, 46, rfl, by decide, rfl, rfl, gT4 (i := 214) (by decide +kernel) (by decide +kernel), rfl⟩
theorem fX10_23 : gFld RX10 23 10 6 2 true := ⟨RX10, TX10, 46, rfl, by decide, rfl, rfl, gT4 (i := 215) (by decide +kernel) (by decide +kernel), rfl⟩
theorem fX10_26 : gFld RX10 26 10 7 2 true := ⟨RX10, TX10, 46, rfl, by decide, rfl, rfl, gT4 (i := 216) (by decide +kernel) (by decide +kernel), rfl⟩
theorem fX10_29 : gFld RX10 29 10 8 2 true := ⟨RX10, TX10, 46, rfl, by decide, rfl, rfl, gT4 (i := 217) (by decide +kernel) (by decide +kernel), rfl⟩
theorem fX10_32 : gFld RX10 32 10 9 2 true := ⟨RX10, TX10, 46, rfl, by decide, rfl, rfl, gT4 (i := 218) (by decide +kernel) (by decide +kernel), rfl⟩
theorem fX10_35 : gFld RX10 35 10 10 2 true := ⟨RX10, TX10, 46, rfl, by decide, rfl, rfl, gT4 (i := 219) (by decide +kernel) (by decide +kernel), rfl⟩
theorem fX10_38 : gFld RX10 38 10 11 2 true := ⟨RX10, TX10, 46, rfl, by decide, rfl, rfl, gT4 (i := 220) (by decide +kernel) (by decide +kernel), rfl⟩
theorem fX10_41 : gFld RX10 41 10 12 2 true := ⟨RX10, TX10, 46, rfl, by decide, rfl, rfl, gT4 (i := 221) (by decide +kernel) (by decide +kernel), rfl⟩
theorem fX10_44 : gFld RX10 44 10 13 2 true := ⟨RX10, TX10, 46, rfl, by decide, rfl, rfl, gT4 (i := 222) (by decide +kernel) (by decide +kernel), rfl⟩
theorem fX10_308 : gFld RX10 308 10 14 3 false := ⟨RX10, TX10, 46, rfl, by decide, rfl, rfl, gT4 (i := 223) (by decide +kernel) (by decide +kernel), rfl⟩
theorem fX10_47 : gFld RX10 47 10 15 2 true := ⟨RX10, TX10, 46, rfl, by decide, rfl, rfl, gT4 (i := 224) (by decide +kernel) (by decide +kernel), rfl⟩
theorem fX10_50 : gFld RX10 50 10 16 2 true := ⟨RX10, TX10, 46, rfl, by decide, rfl, rfl, gT4 (i := 225) (by decide +kernel) (by decide +kernel), rfl⟩
theorem fX10_53 : gFld RX10 53 10 17 2 true := ⟨RX10, TX10, 46, rfl, by decide, rfl, rfl, gT4 (i := 226) (by decide +kernel) (by decide +kernel), rfl⟩
theorem fX10_111 : gFld RX10 111 10 18 0 false := ⟨RX10, TX10, 46, rfl, by decide, rfl, rfl, gT4 (i := 227) (by decide +kernel) (by decide +kernel), rfl⟩
theorem fX10_108 : gFld RX10 108 10 19 0 false := ⟨RX10, TX10, 46, rfl, by decide, rfl, rfl, gT4 (i := 228) (by decide +kernel) (by decide +kernel), rfl⟩
theorem fX10_56 : gFld RX10 56 10 20 2 true := ⟨RX10, TX10, 46, rfl, by decide, rfl, rfl, gT4 (i := 229) (by decide +kernel) (by decide +kernel), rfl⟩
theorem fX10_125 : gFld RX10 125 10 21 0 false := ⟨RX10, TX10, 46, rfl, by decide, rfl, rfl, gT4 (i := 230) (by decide +kernel) (by decide +kernel), rfl⟩
theorem fX10_130 : gFld RX10 130 10 22 0 false := ⟨RX10, TX10, 46, rfl, by decide, rfl, rfl, gT4 (i := 231) (by decide +kernel) (by decide +kernel), rfl⟩
theorem fX10_59 : gFld RX10 59 10 23 2 true := ⟨RX10, TX10, 46, rfl, by decide, rfl, rfl, gT4 (i := 232) (by decide +kernel) (by decide +kernel), rfl⟩
theorem fX10_62 : gFld RX10 62 10 24 2 true := ⟨RX10, TX10, 46, rfl, by decide, rfl, rfl, gT4 (i := 233) (by decide +kernel) (by decide +kernel), rfl⟩
theorem fX10_158 : gFld RX10 158 10 25 0 false := ⟨RX10, TX10, 46, rfl, by decide, rfl, rfl, gT4 (i := 234) (by decide +kernel) (by decide +kernel), rfl⟩
theorem fX10_164 : gFld RX10 164 10 26 0 false := ⟨RX10, TX10, 46, rfl, by decide, rfl, rfl, gT4 (i := 235) (by decide +kernel) (by decide +kernel), rfl⟩
theorem fX10_161 : gFld RX10 161 10 27 0 false := ⟨RX10, TX10, 46, rfl, by decide, rfl, rfl, gT4 (i := 236) (by decide +kernel) (by decide +kernel), rfl⟩
theorem fX10_167 : gFld RX10 167 10 28 0 false := ⟨RX10, TX10, 46, rfl, by decide, rfl, rfl, gT4 (i := 237) (by decide +kernel) (by decide +kernel), rfl⟩
theorem fX10_192 : gFld RX10 192 10 29 0 false := ⟨RX10, TX10, 46, rfl, by decide, rfl, rfl, gT4 (i := 238) (by decide +kernel) (by decide +kernel), rfl⟩
theorem fX10_65 : gFld RX10 65 10 30 2 true := ⟨RX10, TX10, 46, rfl, by decide, rfl, rfl, gT4 (i := 239) (by decide +kernel) (by decide +kernel), rfl⟩
theorem fX10_68 : gFld RX10 68 10 31 2 true := ⟨RX10, TX10, 46, rfl, by decide, rfl, rfl, gT5 (i := 0) (by decide +kernel) (by decide +kernel), rfl⟩
theorem fX10_71 : gFld RX10 71 10 32 2 true := ⟨RX10, TX10, 46, rfl, by decide, rfl, rfl, gT5 (i := 1) (by decide +kernel) (by decide +kernel), rfl⟩
theorem fX10_74 : gFld RX10 74 10 33 2 true := ⟨RX10, TX10, 46, rfl, by decide, rfl, rfl, gT5 (i := 2) (by decide +kernel) (by decide +kernel), rfl⟩
theorem fX10_230 : gFld RX10 230 10 34 0 false := ⟨RX10, TX10, 46, rfl, by decide, rfl, rfl, gT5 (i := 3) (by decide +kernel) (by decide +kernel), rfl⟩
theorem fX10_77 : gFld RX10 77 10 35 2 true := ⟨RX10, TX10, 46, rfl, by decide, rfl, rfl, gT5 (i := 4) (by decide +kernel) (by decide +kernel), rfl⟩
theorem fX10_80 : gFld RX10 80 10 36 2 true := ⟨RX10, TX10, 46, rfl, by decide, rfl, rfl, gT5 (i := 5) (by decide +kernel) (by decide +kernel), rfl⟩
theorem fX10_83 : gFld RX10 83 10 37 2 true := ⟨RX10, TX10, 46, rfl, by decide, rfl, rfl, gT5 (i := 6) (by decide +kernel) (by decide +kernel), rfl⟩
theorem fX10_86 : gFld RX10 86 10 38 2 true := ⟨RX10, TX10, 46, rfl, by decide, rfl, rfl, gT5 (i := 7) (by decide +kernel) (by decide +kernel), rfl⟩
theorem fX10_256 : gFld RX10 256 10 39 0 false := ⟨RX10, TX10, 46, rfl, by decide, rfl, rfl, gT5 (i := 8) (by decide +kernel) (by decide +kernel), rfl⟩
theorem fX10_259 : gFld RX10 259 10 40 1 false := ⟨RX10, TX10, 46, rfl, by decide, rfl, rfl, gT5 (i := 9) (by decide +kernel) (by decide +kernel), rfl⟩
theorem fX10_89 : gFld RX10 89 10 41 2 true := ⟨RX10, TX10, 46, rfl, by decide, rfl, rfl, gT5 (i := 10) (by decide +kernel) (by decide +kernel), rfl⟩
theorem fX10_92 : gFld RX10 92 10 42 2 true := ⟨RX10, TX10, 46, rfl, by decide, rfl, rfl, gT5 (i := 11) (by decide +kernel) (by decide +kernel), rfl⟩
theorem fX10_95 : gFld RX10 95 10 43 2 true := ⟨RX10, TX10, 46, rfl, by decide, rfl, rfl, gT5 (i := 12) (by decide +kernel) (by decide +kernel), rfl⟩
theorem fX10_98 : gFld RX10 98 10 44 2 true := ⟨RX10, TX10, 46, rfl, by decide, rfl, rfl, gT5 (i := 13) (by decide +kernel) (by decide +kernel), rfl⟩
theorem fX10_101 : gFld RX10 101 10 45 2 true := ⟨RX10, TX10, 46, rfl, by decide, rfl, rfl, gT5 (i := 14) (by decide +kernel) (by decide +kernel), rfl⟩
theorem lL_17 : gLkV RL 17 mX10_letters := ⟨gT5 (i := 108) (by decide +kernel) (by decide +kernel), gT5 (i := 109) (by decide +kernel) (by decide +kernel), gT5 (i := 110) (by decide +kernel) (by decide +kernel)⟩
theorem lX10_104 : gLkS RX10 104 mX10_in := ⟨gT5 (i := 112) (by decide +kernel) (by decide +kernel), gT5 (i := 113) (by decide +kernel) (by decide +kernel)⟩
theorem lL_22 : gLkV RL 22 mX10_word := ⟨gT5 (i := 115) (by decide +kernel) (by decide +kernel), gT5 (i := 116) (by decide +kernel) (by decide +kernel), gT5 (i := 117) (by decide +kernel) (by decide +kernel)⟩
theorem lX10_114 : gLkS RX10 114 mX10_isSlot := ⟨gT5 (i := 119) (by decide +kernel) (by decide +kernel), gT5 (i := 120) (by decide +kernel) (by decide +kernel)⟩
theorem lX10_118 : gLkV RX10 118 mX10_isWord := ⟨gT5 (i := 122) (by decide +kernel) (by decide +kernel), gT5 (i := 124) (by decide +kernel) (by decide +kernel), gT0 (i := 32) (by decide +kernel) (by decide +kernel)⟩
theorem lX10_121 : gLkV RX10 121 mX10_lays := ⟨gT5 (i := 126) (by decide +kernel) (by decide +kernel), gT5 (i := 128) (by decide +kernel) (by decide +kernel), gT0 (i := 33) (by decide +kernel) (by decide +kernel)⟩
theorem lL_29 : gLkV RL 29 mX10_feed := ⟨gT5 (i := 130) (by decide +kernel) (by decide +kernel), gT5 (i := 131) (by decide +kernel) (by decide +kernel), gT5 (i := 132) (by decide +kernel) (by decide +kernel)⟩
theorem kX10_128 : Cond.constantLong RX10 128 (255 : Int64) ∈ gTbl := gT5 (i := 134) (by decide +kernel) (by decide +kernel)
theorem lL_33 : gLkV RL 33 mX10_tableau := ⟨gT5 (i := 135) (by decide +kernel) (by decide +kernel), gT5 (i := 136) (by decide +kernel) (by decide +kernel), gT5 (i := 137) (by decide +kernel) (by decide +kernel)⟩
theorem lX10_133 : gLkV RX10 133 mX10_here := ⟨gT5 (i := 139) (by decide +kernel) (by decide +kernel), gT5 (i := 141) (by decide +kernel) (by decide +kernel), gT0 (i := 34) (by decide +kernel) (by decide +kernel)⟩
theorem lX10_137 : gLkV RX10 137 mX10_mayStand := ⟨gT5 (i := 143) (by decide +kernel) (by decide +kernel), gT5 (i := 145) (by decide +kernel) (by decide +kernel), gT0 (i := 35) (by decide +kernel) (by decide +kernel)⟩
theorem lX10_140 : gLkV RX10 140 mX10_fault := ⟨gT5 (i := 147) (by decide +kernel) (by decide +kernel), gT5 (i := 149) (by decide +kernel) (by decide +kernel), gT0 (i := 36) (by decide +kernel) (by decide +kernel)⟩
theorem lX10_143 : gLkV RX10 143 mX10_readsCells := ⟨gT5 (i := 151) (by decide +kernel) (by decide +kernel), gT5 (i := 153) (by decide +kernel) (by decide +kernel), gT0 (i := 37) (by decide +kernel) (by decide +kernel)⟩
theorem lL_37 : gLkV RL 37 mX10_bare := ⟨gT5 (i := 155) (by decide +kernel) (by decide +kernel), gT5 (i := 156) (by decide +kernel) (by decide +kernel), gT5 (i := 157) (by decide +kernel) (by decide +kernel)⟩
theorem lL_41 : gLkV RL 41 mX10_of := ⟨gT5 (i := 159) (by decide +kernel) (by decide +kernel), gT5 (i := 160) (by decide +kernel) (by decide +kernel), gT5 (i := 161) (by decide +kernel) (by decide +kernel)⟩
theorem lX10_146 : gLkV RX10 146 mX10_takes := ⟨gT5 (i := 163) (by decide +kernel) (by decide +kernel), gT5 (i := 165) (by decide +kernel) (by decide +kernel), gT0 (i := 38) (by decide +kernel) (by decide +kernel)⟩
theorem lX10_149 : gLkV RX10 149 mX10_read := ⟨gT5 (i := 167) (by decide +kernel) (by decide +kernel), gT5 (i := 169) (by decide +kernel) (by decide +kernel), gT0 (i := 39) (by decide +kernel) (by decide +kernel)⟩
theorem lX10_152 : gLkV RX10 152 mX10_content := ⟨gT5 (i := 171) (by decide +kernel) (by decide +kernel), gT5 (i := 173) (by decide +kernel) (by decide +kernel), gT0 (i := 40) (by decide +kernel) (by decide +kernel)⟩
theorem lX10_155 : gLkV RX10 155 mX10_manyRows := ⟨gT5 (i := 175) (by decide +kernel) (by decide +kernel), gT5 (i := 177) (by decide +kernel) (by decide +kernel), gT0 (i := 41) (by decide +kernel) (by decide +kernel)⟩
theorem lL_45 : gLkV RL 45 mX10_row := ⟨gT5 (i := 179) (by decide +kernel) (by decide +kernel), gT5 (i := 180) (by decide +kernel) (by decide +kernel), gT5 (i := 181) (by decide +kernel) (by decide +kernel)⟩
theorem lL_49 : gLkV RL 49 mX10_taken := ⟨gT5 (i := 183) (by decide +kernel) (by decide +kernel), gT5 (i := 184) (by decide +kernel) (by decide +kernel), gT5 (i := 185) (by decide +kernel) (by decide +kernel)⟩
theorem lL_54 : gLkV RL 54 mX10_signs := ⟨gT5 (i := 187) (by decide +kernel) (by decide +kernel), gT5 (i := 188) (by decide +kernel) (by decide +kernel), gT5 (i := 189) (by decide +kernel) (by decide +kernel)⟩
theorem lX10_173 : gLkV RX10 173 mX10_isSign := ⟨gT5 (i := 191) (by decide +kernel) (by decide +kernel), gT5 (i := 193) (by decide +kernel) (by decide +kernel), gT0 (i := 42) (by decide +kernel) (by decide +kernel)⟩
theorem lX10_170 : gLkV RX10 170 mX10_looks := ⟨gT5 (i := 195) (by decide +kernel) (by decide +kernel), gT5 (i := 197) (by decide +kernel) (by decide +kernel), gT0 (i := 43) (by decide +kernel) (by decide +kernel)⟩
theorem lL_59 : gLkV RL 59 mX10_act := ⟨gT5 (i := 199) (by decide +kernel) (by decide +kernel), gT5 (i := 200) (by decide +kernel) (by decide +kernel), gT5 (i := 201) (by decide +kernel) (by decide +kernel)⟩
theorem lX10_188 : gLkV RX10 188 mX10_acts := ⟨gT5 (i := 203) (by decide +kernel) (by decide +kernel), gT5 (i := 205) (by decide +kernel) (by decide +kernel), gT0 (i := 44) (by decide +kernel) (by decide +kernel)⟩
theorem lX10_179 : gLkV RX10 179 mX10_raises := ⟨gT5 (i := 207) (by decide +kernel) (by decide +kernel), gT5 (i := 209) (by decide +kernel) (by decide +kernel), gT0 (i := 45) (by decide +kernel) (by decide +kernel)⟩
theorem lX10_182 : gLkV RX10 182 mX10_lowers := ⟨gT5 (i := 211) (by decide +kernel) (by decide +kernel), gT5 (i := 213) (by decide +kernel) (by decide +kernel), gT0 (i := 46) (by decide +kernel) (by decide +kernel)⟩
theorem lX10_185 : gLkV RX10 185 mX10_turns := ⟨gT5 (i := 215) (by decide +kernel) (by decide +kernel), gT5 (i := 217) (by decide +kernel) (by decide +kernel), gT0 (i := 47) (by decide +kernel) (by decide +kernel)⟩
theorem lX10_176 : gLkV RX10 176 mX10_inserts := ⟨gT5 (i := 219) (by decide +kernel) (by decide +kernel), gT5 (i := 221) (by decide +kernel) (by decide +kernel), gT0 (i := 48) (by decide +kernel) (by decide +kernel)⟩
theorem lL_63 : gLkV RL 63 mX10_acts_ := ⟨gT5 (i := 223) (by decide +kernel) (by decide +kernel), gT5 (i := 224) (by decide +kernel) (by decide +kernel), gT5 (i := 225) (by decide +kernel) (by decide +kernel)⟩
theorem lX10_221 : gLkV RX10 221 mX10_readsActs := ⟨gT5 (i := 227) (by decide +kernel) (by decide +kernel), gT5 (i := 229) (by decide +kernel) (by decide +kernel), gT0 (i := 49) (by decide +kernel) (by decide +kernel)⟩
theorem lX10_213 : gLkV RX10 213 mX10_name := ⟨gT5 (i := 231) (by decide +kernel) (by decide +kernel), gT5 (i := 233) (by decide +kernel) (by decide +kernel), gT0 (i := 50) (by decide +kernel) (by decide +kernel)⟩
theorem kX10_195 : Cond.constantLong RX10 195 (-1 : Int64) ∈ gTbl := gT5 (i := 235) (by decide +kernel) (by decide +kernel)
theorem kX10_197 : Cond.constantLong RX10 197 (27 : Int64) ∈ gTbl := gT5 (i := 236) (by decide +kernel) (by decide +kernel)
theorem kX10_199 : Cond.constantLong RX10 199 (96 : Int64) ∈ gTbl := gT5 (i := 237) (by decide +kernel) (by decide +kernel)
theorem lX10_217 : gLkS RX10 217 mX10_actOf := ⟨gT5 (i := 238) (by decide +kernel) (by decide +kernel), gT5 (i := 239) (by decide +kernel) (by decide +kernel)⟩
theorem kX10_201 : Cond.constantLong RX10 201 (9592700 : Int64) ∈ gTbl := gT6 (i := 1) (by decide +kernel) (by decide +kernel)
theorem kX10_203 : Cond.constantLong RX10 203 (6689457 : Int64) ∈ gTbl := gT6 (i := 2) (by decide +kernel) (by decide +kernel)
theorem kX10_205 : Cond.constantLong RX10 205 (7048741925 : Int64) ∈ gTbl := gT6 (i := 3) (by decide +kernel) (by decide +kernel)
theorem kX10_207 : Cond.constantLong RX10 207 (15001 : Int64) ∈ gTbl := gT6 (i := 4) (by decide +kernel) (by decide +kernel)
theorem kX10_209 : Cond.constantLong RX10 209 (129458 : Int64) ∈ gTbl := gT6 (i := 5) (by decide +kernel) (by decide +kernel)
theorem kX10_211 : Cond.constantLong RX10 211 (409469 : Int64) ∈ gTbl := gT6 (i := 6) (by decide +kernel) (by decide +kernel)
theorem lL_67 : gLkV RL 67 mX10_highest := ⟨gT6 (i := 7) (by decide +kernel) (by decide +kernel), gT6 (i := 8) (by decide +kernel) (by decide +kernel), gT6 (i := 9) (by decide +kernel) (by decide +kernel)⟩
theorem lX10_224 : gLkV RX10 224 mX10_highestNow := ⟨gT6 (i := 11) (by decide +kernel) (by decide +kernel), gT6 (i := 13) (by decide +kernel) (by decide +kernel), gT0 (i := 51) (by decide +kernel) (by decide +kernel)⟩
theorem lL_71 : gLkV RL 71 mX10_all := ⟨gT6 (i := 15) (by decide +kernel) (by decide +kernel), gT6 (i := 16) (by decide +kernel) (by decide +kernel), gT6 (i := 17) (by decide +kernel) (by decide +kernel)⟩
theorem lX10_239 : gLkV RX10 239 mX10_findAll := ⟨gT6 (i := 19) (by decide +kernel) (by decide +kernel), gT6 (i := 21) (by decide +kernel) (by decide +kernel), gT0 (i := 52) (by decide +kernel) (by decide +kernel)⟩
theorem lX10_233 : gLkV RX10 233 mX10_comesTo := ⟨gT6 (i := 23) (by decide +kernel) (by decide +kernel), gT6 (i := 25) (by decide +kernel) (by decide +kernel), gT0 (i := 53) (by decide +kernel) (by decide +kernel)⟩
theorem lX10_227 : gLkV RX10 227 mX10_code := ⟨gT6 (i := 27) (by decide +kernel) (by decide +kernel), gT6 (i := 29) (by decide +kernel) (by decide +kernel), gT0 (i := 54) (by decide +kernel) (by decide +kernel)⟩
theorem lX10_236 : gLkV RX10 236 mX10_decodes := ⟨gT6 (i := 31) (by decide +kernel) (by decide +kernel), gT6 (i := 33) (by decide +kernel) (by decide +kernel), gT0 (i := 55) (by decide +kernel) (by decide +kernel)⟩
theorem lL_75 : gLkV RL 75 mX10_stands := ⟨gT6 (i := 35) (by decide +kernel) (by decide +kernel), gT6 (i := 36) (by decide +kernel) (by decide +kernel), gT6 (i := 37) (by decide +kernel) (by decide +kernel)⟩
theorem lL_79 : gLkV RL 79 mX10_way := ⟨gT6 (i := 39) (by decide +kernel) (by decide +kernel), gT6 (i := 40) (by decide +kernel) (by decide +kernel), gT6 (i := 41) (by decide +kernel) (by decide +kernel)⟩
theorem lL_83 : gLkV RL 83 mX10_pair := ⟨gT6 (i := 43) (by decide +kernel) (by decide +kernel), gT6 (i := 44) (by decide +kernel) (by decide +kernel), gT6 (i := 45) (by decide +kernel) (by decide +kernel)⟩
theorem lX10_242 : gLkV RX10 242 mX10_raisedBy := ⟨gT6 (i := 47) (by decide +kernel) (by decide +kernel), gT6 (i := 49) (by decide +kernel) (by decide +kernel), gT0 (i := 56) (by decide +kernel) (by decide +kernel)⟩
theorem lL_87 : gLkV RL 87 mX10_insert := ⟨gT6 (i := 51) (by decide +kernel) (by decide +kernel), gT6 (i := 52) (by decide +kernel) (by decide +kernel), gT6 (i := 53) (by decide +kernel) (by decide +kernel)⟩
theorem lL_91 : gLkV RL 91 mX10_record := ⟨gT6 (i := 55) (by decide +kernel) (by decide +kernel), gT6 (i := 56) (by decide +kernel) (by decide +kernel), gT6 (i := 57) (by decide +kernel) (by decide +kernel)⟩
theorem lL_95 : gLkV RL 95 mX10_alike := ⟨gT6 (i := 59) (by decide +kernel) (by decide +kernel), gT6 (i := 60) (by decide +kernel) (by decide +kernel), gT6 (i := 61) (by decide +kernel) (by decide +kernel)⟩
theorem lX10_248 : gLkV RX10 248 mX10_inserted := ⟨gT6 (i := 63) (by decide +kernel) (by decide +kernel), gT6 (i := 65) (by decide +kernel) (by decide +kernel), gT0 (i := 57) (by decide +kernel) (by decide +kernel)⟩
theorem kX10_246 : Cond.constantLong RX10 246 (7 : Int64) ∈ gTbl := gT6 (i := 67) (by decide +kernel) (by decide +kernel)
theorem lL_99 : gLkV RL 99 mX10_count := ⟨gT6 (i := 68) (by decide +kernel) (by decide +kernel), gT6 (i := 69) (by decide +kernel) (by decide +kernel), gT6 (i := 70) (by decide +kernel) (by decide +kernel)⟩
theorem lX10_270 : gLkV RX10 270 mX10_isShape := ⟨gT6 (i := 72) (by decide +kernel) (by decide +kernel), gT6 (i := 74) (by decide +kernel) (by decide +kernel), gT0 (i := 58) (by decide +kernel) (by decide +kernel)⟩
theorem lX10_274 : gLkV RX10 274 mX10_fillsAll := ⟨gT6 (i := 76) (by decide +kernel) (by decide +kernel), gT6 (i := 78) (by decide +kernel) (by decide +kernel), gT0 (i := 59) (by decide +kernel) (by decide +kernel)⟩
theorem lX10_266 : gLkV RX10 266 mX10_fills := ⟨gT6 (i := 80) (by decide +kernel) (by decide +kernel), gT6 (i := 82) (by decide +kernel) (by decide +kernel), gT0 (i := 60) (by decide +kernel) (by decide +kernel)⟩
theorem lX10_263 : gLkV RX10 263 mX10_isFilled := ⟨gT6 (i := 84) (by decide +kernel) (by decide +kernel), gT6 (i := 86) (by decide +kernel) (by decide +kernel), gT0 (i := 61) (by decide +kernel) (by decide +kernel)⟩
theorem lX10_252 : gLkV RX10 252 mX10_isHighest := ⟨gT6 (i := 88) (by decide +kernel) (by decide +kernel), gT6 (i := 90) (by decide +kernel) (by decide +kernel), gT0 (i := 62) (by decide +kernel) (by decide +kernel)⟩
theorem lL_103 : gLkV RL 103 mX10_together := ⟨gT6 (i := 92) (by decide +kernel) (by decide +kernel), gT6 (i := 93) (by decide +kernel) (by decide +kernel), gT6 (i := 94) (by decide +kernel) (by decide +kernel)⟩
theorem lX10_277 : gLkS RX10 277 mX10_sum := ⟨gT6 (i := 96) (by decide +kernel) (by decide +kernel), gT6 (i := 97) (by decide +kernel) (by decide +kernel)⟩
theorem lL_107 : gLkV RL 107 mX10_worth := ⟨gT6 (i := 99) (by decide +kernel) (by decide +kernel), gT6 (i := 100) (by decide +kernel) (by decide +kernel), gT6 (i := 101) (by decide +kernel) (by decide +kernel)⟩
theorem lL_111 : gLkV RL 111 mX10_worthOf := ⟨gT6 (i := 103) (by decide +kernel) (by decide +kernel), gT6 (i := 104) (by decide +kernel) (by decide +kernel), gT6 (i := 105) (by decide +kernel) (by decide +kernel)⟩
theorem kX10_281 : Cond.constantLong RX10 281 (2147483647 : Int64) ∈ gTbl := gT6 (i := 107) (by decide +kernel) (by decide +kernel)
theorem lL_115 : gLkV RL 115 mX10_seed := ⟨gT6 (i := 108) (by decide +kernel) (by decide +kernel), gT6 (i := 109) (by decide +kernel) (by decide +kernel), gT6 (i := 110) (by decide +kernel) (by decide +kernel)⟩
theorem lL_119 : gLkV RL 119 mX10_lot := ⟨gT6 (i := 112) (by decide +kernel) (by decide +kernel), gT6 (i := 113) (by decide +kernel) (by decide +kernel), gT6 (i := 114) (by decide +kernel) (by decide +kernel)⟩
theorem kX10_283 : Cond.constant RX10 283 (1103515245 : Int32) ∈ gTbl := gT6 (i := 116) (by decide +kernel) (by decide +kernel)
theorem lL_123 : gLkV RL 123 mX10_sheet := ⟨gT6 (i := 117) (by decide +kernel) (by decide +kernel), gT6 (i := 118) (by decide +kernel) (by decide +kernel), gT6 (i := 119) (by decide +kernel) (by decide +kernel)⟩
theorem lX10_285 : gLkS RX10 285 mX10_isSheet := ⟨gT6 (i := 121) (by decide +kernel) (by decide +kernel), gT6 (i := 122) (by decide +kernel) (by decide +kernel)⟩
theorem lL_127 : gLkV RL 127 mX10_put := ⟨gT6 (i := 124) (by decide +kernel) (by decide +kernel), gT6 (i := 125) (by decide +kernel) (by decide +kernel), gT6 (i := 126) (by decide +kernel) (by decide +kernel)⟩
theorem lX10_288 : gLkS RX10 288 mX10_cut := ⟨gT6 (i := 128) (by decide +kernel) (by decide +kernel), gT6 (i := 129) (by decide +kernel) (by decide +kernel)⟩
theorem kX10_284 : Cond.constant RX10 284 (65535 : Int32) ∈ gTbl := gT6 (i := 131) (by decide +kernel) (by decide +kernel)
theorem lL_131 : gLkV RL 131 mX10_item := ⟨gT6 (i := 132) (by decide +kernel) (by decide +kernel), gT6 (i := 133) (by decide +kernel) (by decide +kernel), gT6 (i := 134) (by decide +kernel) (by decide +kernel)⟩
theorem lL_136 : gLkV RL 136 mX10_copy := ⟨gT6 (i := 136) (by decide +kernel) (by decide +kernel), gT6 (i := 137) (by decide +kernel) (by decide +kernel), gT6 (i := 138) (by decide +kernel) (by decide +kernel)⟩
theorem lX10_292 : gLkV RX10 292 mX10_isOutside := ⟨gT6 (i := 140) (by decide +kernel) (by decide +kernel), gT6 (i := 142) (by decide +kernel) (by decide +kernel), gT0 (i := 63) (by decide +kernel) (by decide +kernel)⟩
theorem lL_140 : gLkV RL 140 mX10_lay := ⟨gT6 (i := 144) (by decide +kernel) (by decide +kernel), gT6 (i := 145) (by decide +kernel) (by decide +kernel), gT6 (i := 146) (by decide +kernel) (by decide +kernel)⟩
theorem lL_144 : gLkV RL 144 mX10_take := ⟨gT6 (i := 148) (by decide +kernel) (by decide +kernel), gT6 (i := 149) (by decide +kernel) (by decide +kernel), gT6 (i := 150) (by decide +kernel) (by decide +kernel)⟩
theorem lL_148 : gLkV RL 148 mX10_many := ⟨gT6 (i := 152) (by decide +kernel) (by decide +kernel), gT6 (i := 153) (by decide +kernel) (by decide +kernel), gT6 (i := 154) (by decide +kernel) (by decide +kernel)⟩
theorem lX10_295 : gLkV RX10 295 mX10_lettersAll := ⟨gT6 (i := 156) (by decide +kernel) (by decide +kernel), gT6 (i := 158) (by decide +kernel) (by decide +kernel), gT0 (i := 64) (by decide +kernel) (by decide +kernel)⟩
theorem lL_153 : gLkV RL 153 mX10_keep := ⟨gT6 (i := 160) (by decide +kernel) (by decide +kernel), gT6 (i := 161) (by decide +kernel) (by decide +kernel), gT6 (i := 162) (by decide +kernel) (by decide +kernel)⟩
theorem lX10_298 : gLkS RX10 298 mX10_copies := ⟨gT6 (i := 164) (by decide +kernel) (by decide +kernel), gT6 (i := 165) (by decide +kernel) (by decide +kernel)⟩
theorem lL_157 : gLkV RL 157 mX10_again := ⟨gT6 (i := 167) (by decide +kernel) (by decide +kernel), gT6 (i := 168) (by decide +kernel) (by decide +kernel), gT6 (i := 169) (by decide +kernel) (by decide +kernel)⟩
theorem kL_23 : Cond.constantLong RL 23 (4294967295 : Int64) ∈ gTbl := gT6 (i := 171) (by decide +kernel) (by decide +kernel)
theorem fJ0_9 : Cond.fieldLink RJ0 9 "java/lang/String" "value" "[B" ∈ gTbl := gT6 (i := 172) (by decide +kernel) (by decide +kernel)
theorem fJ0_15 : Cond.fieldLink RJ0 15 "java/lang/String" "coder" "B" ∈ gTbl := gT6 (i := 173) (by decide +kernel) (by decide +kernel)
theorem nX0 : Cond.instantiable RX0 7 ∈ gTbl ∧ Cond.initialized RX0 ∈ gTbl := ⟨gT1 (i := 180) (by decide +kernel) (by decide +kernel), gT1 (i := 8) (by decide +kernel) (by decide +kernel)⟩
theorem nX1 : Cond.instantiable RX1 7 ∈ gTbl ∧ Cond.initialized RX1 ∈ gTbl := ⟨gT1 (i := 212) (by decide +kernel) (by decide +kernel), gT1 (i := 9) (by decide +kernel) (by decide +kernel)⟩
theorem nX2 : Cond.instantiable RX2 5 ∈ gTbl ∧ Cond.initialized RX2 ∈ gTbl := ⟨gT1 (i := 134) (by decide +kernel) (by decide +kernel), gT1 (i := 7) (by decide +kernel) (by decide +kernel)⟩
theorem nX3 : Cond.instantiable RX3 6 ∈ gTbl ∧ Cond.initialized RX3 ∈ gTbl := ⟨gT1 (i := 126) (by decide +kernel) (by decide +kernel), gT1 (i := 6) (by decide +kernel) (by decide +kernel)⟩
theorem nX4 : Cond.instantiable RX4 3 ∈ gTbl ∧ Cond.initialized RX4 ∈ gTbl := ⟨gT2 (i := 2) (by decide +kernel) (by decide +kernel), gT1 (i := 10) (by decide +kernel) (by decide +kernel)⟩
theorem nX5 : Cond.instantiable RX5 3 ∈ gTbl ∧ Cond.initialized RX5 ∈ gTbl := ⟨gT2 (i := 23) (by decide +kernel) (by decide +kernel), gT1 (i := 11) (by decide +kernel) (by decide +kernel)⟩
theorem nX6 : Cond.instantiable RX6 4 ∈ gTbl ∧ Cond.initialized RX6 ∈ gTbl := ⟨gT1 (i := 31) (by decide +kernel) (by decide +kernel), gT1 (i := 2) (by decide +kernel) (by decide +kernel)⟩
theorem nX7 : Cond.instantiable RX7 5 ∈ gTbl ∧ Cond.initialized RX7 ∈ gTbl := ⟨gT1 (i := 98) (by decide +kernel) (by decide +kernel), gT1 (i := 5) (by decide +kernel) (by decide +kernel)⟩
theorem nX8 : Cond.instantiable RX8 5 ∈ gTbl ∧ Cond.initialized RX8 ∈ gTbl := ⟨gT1 (i := 38) (by decide +kernel) (by decide +kernel), gT1 (i := 3) (by decide +kernel) (by decide +kernel)⟩
theorem nX9 : Cond.instantiable RX9 14 ∈ gTbl ∧ Cond.initialized RX9 ∈ gTbl := ⟨gT1 (i := 23) (by decide +kernel) (by decide +kernel), gT1 (i := 1) (by decide +kernel) (by decide +kernel)⟩
theorem nX10 : Cond.instantiable RX10 46 ∈ gTbl ∧ Cond.initialized RX10 ∈ gTbl := ⟨gT4 (i := 204) (by decide +kernel) (by decide +kernel), gT1 (i := 12) (by decide +kernel) (by decide +kernel)⟩
theorem gArrI : Cond.arrayClass .int ∈ gTbl := gT1 (i := 76) (by decide +kernel) (by decide +kernel)
theorem gArrL : Cond.arrayClass .long ∈ gTbl := gT1 (i := 210) (by decide +kernel) (by decide +kernel)
