/-! LINKS: the tables' words, by their places -/
theorem tb1 {w : Cond} (h : w ∈ tables_1_1) : w ∈ tables_1 := List.mem_append_left _ h
theorem tb2 {w : Cond} (h : w ∈ tables_1_2) : w ∈ tables_1 := List.mem_append_right _ (List.mem_append_left _ h)
theorem tb3 {w : Cond} (h : w ∈ tables_1_3) : w ∈ tables_1 := List.mem_append_right _ (List.mem_append_right _ (List.mem_append_left _ h))
theorem tb4 {w : Cond} (h : w ∈ tables_1_4) : w ∈ tables_1 := List.mem_append_right _ (List.mem_append_right _ (List.mem_append_right _ (List.mem_append_left _ h)))
theorem tb5 {w : Cond} (h : w ∈ tables_1_5) : w ∈ tables_1 := List.mem_append_right _ (List.mem_append_right _ (List.mem_append_right _ (List.mem_append_right _ (List.mem_append_left _ h))))
theorem tb6 {w : Cond} (h : w ∈ tables_1_6) : w ∈ tables_1 := List.mem_append_right _ (List.mem_append_right _ (List.mem_append_right _ (List.mem_append_right _ (List.mem_append_right _ (h)))))
theorem qc_X6_init : Cond.code yX6_init cX6_init 3 none ∈ TT := TT_of (tb1 (List.mem_of_getElem? (i := 29) rfl)) rfl
theorem qc_X5_init : Cond.code yX5_init cX5_init 1 none ∈ TT := TT_of (tb1 (List.mem_of_getElem? (i := 37) rfl)) rfl
theorem qc_X4_init : Cond.code yX4_init cX4_init 1 none ∈ TT := TT_of (tb1 (List.mem_of_getElem? (i := 43) rfl)) rfl
theorem qc_X4_clear : Cond.code yX4_clear cX4_clear 1 none ∈ TT := TT_of (tb1 (List.mem_of_getElem? (i := 50) rfl)) rfl
theorem qc_J7_fill_53178 : Cond.code yJ7_fill_53178 cJ7_fill_53178 4 none ∈ TT := TT_of (tb1 (List.mem_of_getElem? (i := 54) rfl)) rfl
theorem qc_X0_init : Cond.code yX0_init cX0_init 1 none ∈ TT := TT_of (tb1 (List.mem_of_getElem? (i := 133) rfl)) rfl
theorem qc_X1_init : Cond.code yX1_init cX1_init 1 none ∈ TT := TT_of (tb1 (List.mem_of_getElem? (i := 139) rfl)) rfl
theorem qc_X3_init : Cond.code yX3_init cX3_init 1 none ∈ TT := TT_of (tb1 (List.mem_of_getElem? (i := 188) rfl)) rfl
theorem qc_X2_init : Cond.code yX2_init cX2_init 1 none ∈ TT := TT_of (tb1 (List.mem_of_getElem? (i := 211) rfl)) rfl
theorem qc_X0_begin : Cond.code yX0_begin cX0_begin 2 none ∈ TT := TT_of (tb2 (List.mem_of_getElem? (i := 55) rfl)) rfl
theorem qc_X1_begin : Cond.code yX1_begin cX1_begin 4 none ∈ TT := TT_of (tb2 (List.mem_of_getElem? (i := 59) rfl)) rfl
theorem qc_X2_wordOf : Cond.code yX2_wordOf cX2_wordOf 2 (some FieldType.int) ∈ TT := TT_of (tb2 (List.mem_of_getElem? (i := 67) rfl)) rfl
theorem qc_X3_clear : Cond.code yX3_clear cX3_clear 1 none ∈ TT := TT_of (tb2 (List.mem_of_getElem? (i := 71) rfl)) rfl
theorem qc_X0_switchOff : Cond.code yX0_switchOff cX0_switchOff 1 none ∈ TT := TT_of (tb2 (List.mem_of_getElem? (i := 76) rfl)) rfl
theorem qc_X6_stage : Cond.code yX6_stage cX6_stage 2 (some FieldType.int) ∈ TT := TT_of (tb2 (List.mem_of_getElem? (i := 101) rfl)) rfl
theorem qc_X6_requireRange : Cond.code yX6_requireRange cX6_requireRange 3 none ∈ TT := TT_of (tb2 (List.mem_of_getElem? (i := 105) rfl)) rfl
theorem qc_X1_room : Cond.code yX1_room cX1_room 1 (some FieldType.int) ∈ TT := TT_of (tb2 (List.mem_of_getElem? (i := 175) rfl)) rfl
theorem qc_L_cell : Cond.code yL_cell method_2_code 2 (some FieldType.int) ∈ TT := TT_of (tb2 (List.mem_of_getElem? (i := 178) rfl)) rfl
theorem qc_J9_abs_0f7a4 : Cond.code yJ9_abs_0f7a4 cJ9_abs_0f7a4 1 (some FieldType.int) ∈ TT := TT_of (tb2 (List.mem_of_getElem? (i := 182) rfl)) rfl
theorem qc_L_load : Cond.code yL_load method_3_code 5 (some FieldType.int) ∈ TT := TT_of (tb2 (List.mem_of_getElem? (i := 185) rfl)) rfl
theorem qc_J0_length_8abf5 : Cond.code yJ0_length_8abf5 cJ0_length_8abf5 1 (some FieldType.int) ∈ TT := TT_of (tb2 (List.mem_of_getElem? (i := 189) rfl)) rfl
theorem qc_J0_coder_7d493 : Cond.code yJ0_coder_7d493 cJ0_coder_7d493 1 (some FieldType.byte) ∈ TT := TT_of (tb2 (List.mem_of_getElem? (i := 193) rfl)) rfl
theorem qc_J0_charAt_5068e : Cond.code yJ0_charAt_5068e cJ0_charAt_5068e 2 (some FieldType.char) ∈ TT := TT_of (tb2 (List.mem_of_getElem? (i := 199) rfl)) rfl
theorem qc_J0_isLatin1_aae02 : Cond.code yJ0_isLatin1_aae02 cJ0_isLatin1_aae02 1 (some FieldType.boolean) ∈ TT := TT_of (tb2 (List.mem_of_getElem? (i := 203) rfl)) rfl
theorem qc_J1_charAt_3b067 : Cond.code yJ1_charAt_3b067 cJ1_charAt_3b067 2 (some FieldType.char) ∈ TT := TT_of (tb2 (List.mem_of_getElem? (i := 206) rfl)) rfl
theorem qc_J0_checkIndex_df160 : Cond.code yJ0_checkIndex_df160 cJ0_checkIndex_df160 2 none ∈ TT := TT_of (tb2 (List.mem_of_getElem? (i := 209) rfl)) rfl
theorem qc_J3_checkIndex_8e157 : Cond.code yJ3_checkIndex_8e157 cJ3_checkIndex_8e157 3 (some FieldType.int) ∈ TT := TT_of (tb2 (List.mem_of_getElem? (i := 214) rfl)) rfl
theorem qc_J2_charAt_3b067 : Cond.code yJ2_charAt_3b067 cJ2_charAt_3b067 2 (some FieldType.char) ∈ TT := TT_of (tb2 (List.mem_of_getElem? (i := 217) rfl)) rfl
theorem qc_J2_checkIndex_2214a : Cond.code yJ2_checkIndex_2214a cJ2_checkIndex_2214a 2 none ∈ TT := TT_of (tb2 (List.mem_of_getElem? (i := 220) rfl)) rfl
theorem qc_J2_length_9d52b : Cond.code yJ2_length_9d52b cJ2_length_9d52b 1 (some FieldType.int) ∈ TT := TT_of (tb2 (List.mem_of_getElem? (i := 223) rfl)) rfl
theorem qc_J2_getChar_3b067 : Cond.code yJ2_getChar_3b067 cJ2_getChar_3b067 2 (some FieldType.char) ∈ TT := TT_of (tb2 (List.mem_of_getElem? (i := 227) rfl)) rfl
theorem qc_X6_append : Cond.code yX6_append cX6_append 3 (some FieldType.int) ∈ TT := TT_of (tb2 (List.mem_of_getElem? (i := 237) rfl)) rfl
theorem qc_X5_add : Cond.code yX5_add cX5_add 5 (some FieldType.int) ∈ TT := TT_of (tb3 (List.mem_of_getElem? (i := 1) rfl)) rfl
theorem qc_X6_load : Cond.code yX6_load cX6_load 1 (some FieldType.int) ∈ TT := TT_of (tb3 (List.mem_of_getElem? (i := 6) rfl)) rfl
theorem qc_X5_read : Cond.code yX5_read cX5_read 3 (some FieldType.boolean) ∈ TT := TT_of (tb3 (List.mem_of_getElem? (i := 10) rfl)) rfl
theorem qc_X5_readFlash : Cond.code yX5_readFlash cX5_readFlash 2 (some FieldType.boolean) ∈ TT := TT_of (tb3 (List.mem_of_getElem? (i := 15) rfl)) rfl
theorem qc_X5_passWord : Cond.code yX5_passWord cX5_passWord 2 (some FieldType.int) ∈ TT := TT_of (tb3 (List.mem_of_getElem? (i := 19) rfl)) rfl
theorem qc_X5_skipSpaces : Cond.code yX5_skipSpaces cX5_skipSpaces 1 none ∈ TT := TT_of (tb3 (List.mem_of_getElem? (i := 23) rfl)) rfl
theorem qc_X5_isWord : Cond.code yX5_isWord cX5_isWord 4 (some FieldType.boolean) ∈ TT := TT_of (tb3 (List.mem_of_getElem? (i := 28) rfl)) rfl
theorem qc_X5_fail : Cond.code yX5_fail cX5_fail 3 (some FieldType.boolean) ∈ TT := TT_of (tb3 (List.mem_of_getElem? (i := 34) rfl)) rfl
theorem qc_X5_readNumber : Cond.code yX5_readNumber cX5_readNumber 3 (some FieldType.boolean) ∈ TT := TT_of (tb3 (List.mem_of_getElem? (i := 38) rfl)) rfl
theorem qc_X5_isAtDigit : Cond.code yX5_isAtDigit cX5_isAtDigit 1 (some FieldType.boolean) ∈ TT := TT_of (tb3 (List.mem_of_getElem? (i := 42) rfl)) rfl
theorem qc_J9_min_7cf53 : Cond.code yJ9_min_7cf53 cJ9_min_7cf53 2 (some FieldType.int) ∈ TT := TT_of (tb3 (List.mem_of_getElem? (i := 46) rfl)) rfl
theorem qc_X5_isAtEnd : Cond.code yX5_isAtEnd cX5_isAtEnd 1 (some FieldType.boolean) ∈ TT := TT_of (tb3 (List.mem_of_getElem? (i := 50) rfl)) rfl
theorem qc_X5_readSemicolon : Cond.code yX5_readSemicolon cX5_readSemicolon 1 (some FieldType.boolean) ∈ TT := TT_of (tb3 (List.mem_of_getElem? (i := 54) rfl)) rfl
theorem qc_X5_readStatement : Cond.code yX5_readStatement cX5_readStatement 3 (some FieldType.boolean) ∈ TT := TT_of (tb3 (List.mem_of_getElem? (i := 58) rfl)) rfl
theorem qc_X5_readImage : Cond.code yX5_readImage cX5_readImage 3 (some FieldType.boolean) ∈ TT := TT_of (tb3 (List.mem_of_getElem? (i := 63) rfl)) rfl
theorem qc_X5_claim : Cond.code yX5_claim cX5_claim 3 (some FieldType.boolean) ∈ TT := TT_of (tb3 (List.mem_of_getElem? (i := 67) rfl)) rfl
theorem qc_X1_sum : Cond.code yX1_sum cX1_sum 5 (some FieldType.int) ∈ TT := TT_of (tb3 (List.mem_of_getElem? (i := 71) rfl)) rfl
theorem qc_X5_readOnce : Cond.code yX5_readOnce cX5_readOnce 5 (some FieldType.boolean) ∈ TT := TT_of (tb3 (List.mem_of_getElem? (i := 76) rfl)) rfl
theorem qc_X1_holdsImage : Cond.code yX1_holdsImage cX1_holdsImage 2 (some FieldType.boolean) ∈ TT := TT_of (tb3 (List.mem_of_getElem? (i := 83) rfl)) rfl
theorem qc_X1_sumOf : Cond.code yX1_sumOf cX1_sumOf 4 (some FieldType.int) ∈ TT := TT_of (tb3 (List.mem_of_getElem? (i := 87) rfl)) rfl
theorem qc_L_step : Cond.code yL_step method_4_code 5 none ∈ TT := TT_of (tb3 (List.mem_of_getElem? (i := 92) rfl)) rfl
theorem qc_X6_boot : Cond.code yX6_boot cX6_boot 1 (some FieldType.int) ∈ TT := TT_of (tb3 (List.mem_of_getElem? (i := 96) rfl)) rfl
theorem qc_X0_startUp : Cond.code yX0_startUp cX0_startUp 3 (some FieldType.int) ∈ TT := TT_of (tb3 (List.mem_of_getElem? (i := 100) rfl)) rfl
theorem qc_X2_readFrom : Cond.code yX2_readFrom cX2_readFrom 5 none ∈ TT := TT_of (tb3 (List.mem_of_getElem? (i := 104) rfl)) rfl
theorem qc_X2_activePageOf : Cond.code yX2_activePageOf cX2_activePageOf 3 (some FieldType.int) ∈ TT := TT_of (tb3 (List.mem_of_getElem? (i := 107) rfl)) rfl
theorem qc_X2_rightKind : Cond.code yX2_rightKind cX2_rightKind 5 (some FieldType.int) ∈ TT := TT_of (tb3 (List.mem_of_getElem? (i := 110) rfl)) rfl
theorem qc_X2_valueOf : Cond.code yX2_valueOf cX2_valueOf 1 (some FieldType.int) ∈ TT := TT_of (tb3 (List.mem_of_getElem? (i := 113) rfl)) rfl
theorem qc_X2_isEntry : Cond.code yX2_isEntry cX2_isEntry 2 (some FieldType.boolean) ∈ TT := TT_of (tb3 (List.mem_of_getElem? (i := 117) rfl)) rfl
theorem qc_X2_kindOf : Cond.code yX2_kindOf cX2_kindOf 1 (some FieldType.int) ∈ TT := TT_of (tb3 (List.mem_of_getElem? (i := 120) rfl)) rfl
theorem qc_X2_take : Cond.code yX2_take cX2_take 3 none ∈ TT := TT_of (tb3 (List.mem_of_getElem? (i := 124) rfl)) rfl
theorem qc_J9_max_7cf53 : Cond.code yJ9_max_7cf53 cJ9_max_7cf53 2 (some FieldType.int) ∈ TT := TT_of (tb3 (List.mem_of_getElem? (i := 127) rfl)) rfl
theorem qc_X2_forgetFresh : Cond.code yX2_forgetFresh cX2_forgetFresh 2 none ∈ TT := TT_of (tb3 (List.mem_of_getElem? (i := 131) rfl)) rfl
theorem qc_X0_formatJournal : Cond.code yX0_formatJournal cX0_formatJournal 1 (some FieldType.boolean) ∈ TT := TT_of (tb3 (List.mem_of_getElem? (i := 135) rfl)) rfl
theorem qc_X1_eraseJournalPage : Cond.code yX1_eraseJournalPage cX1_eraseJournalPage 3 (some FieldType.boolean) ∈ TT := TT_of (tb3 (List.mem_of_getElem? (i := 139) rfl)) rfl
theorem qc_X1_takePower : Cond.code yX1_takePower cX1_takePower 1 (some FieldType.boolean) ∈ TT := TT_of (tb3 (List.mem_of_getElem? (i := 143) rfl)) rfl
theorem qc_J7_fill_fda19 : Cond.code yJ7_fill_fda19 cJ7_fill_fda19 5 none ∈ TT := TT_of (tb3 (List.mem_of_getElem? (i := 146) rfl)) rfl
theorem qc_J7_rangeCheck_23922 : Cond.code yJ7_rangeCheck_23922 cJ7_rangeCheck_23922 3 none ∈ TT := TT_of (tb3 (List.mem_of_getElem? (i := 149) rfl)) rfl
theorem qc_X1_write : Cond.code yX1_write cX1_write 5 (some FieldType.boolean) ∈ TT := TT_of (tb3 (List.mem_of_getElem? (i := 154) rfl)) rfl
theorem qc_X0_note : Cond.code yX0_note cX0_note 3 none ∈ TT := TT_of (tb3 (List.mem_of_getElem? (i := 159) rfl)) rfl
theorem qc_X3_note : Cond.code yX3_note cX3_note 5 none ∈ TT := TT_of (tb3 (List.mem_of_getElem? (i := 163) rfl)) rfl
theorem qc_X0_losePower : Cond.code yX0_losePower cX0_losePower 1 (some FieldType.int) ∈ TT := TT_of (tb3 (List.mem_of_getElem? (i := 167) rfl)) rfl
theorem qc_X0_canStart : Cond.code yX0_canStart cX0_canStart 2 (some FieldType.boolean) ∈ TT := TT_of (tb3 (List.mem_of_getElem? (i := 171) rfl)) rfl
theorem qc_X2_isBad : Cond.code yX2_isBad cX2_isBad 2 (some FieldType.boolean) ∈ TT := TT_of (tb3 (List.mem_of_getElem? (i := 176) rfl)) rfl
theorem qc_X0_appendRecord : Cond.code yX0_appendRecord cX0_appendRecord 5 (some FieldType.boolean) ∈ TT := TT_of (tb3 (List.mem_of_getElem? (i := 180) rfl)) rfl
theorem qc_X0_moveRecords : Cond.code yX0_moveRecords cX0_moveRecords 5 (some FieldType.boolean) ∈ TT := TT_of (tb3 (List.mem_of_getElem? (i := 184) rfl)) rfl
theorem qc_X0_gatherRecords : Cond.code yX0_gatherRecords cX0_gatherRecords 3 (some FieldType.int) ∈ TT := TT_of (tb3 (List.mem_of_getElem? (i := 188) rfl)) rfl
theorem qc_X0_noteRecord : Cond.code yX0_noteRecord cX0_noteRecord 3 none ∈ TT := TT_of (tb3 (List.mem_of_getElem? (i := 192) rfl)) rfl
theorem qc_X0_run : Cond.code yX0_run cX0_run 2 (some FieldType.int) ∈ TT := TT_of (tb3 (List.mem_of_getElem? (i := 196) rfl)) rfl
theorem qc_X0_waitForRecovery : Cond.code yX0_waitForRecovery cX0_waitForRecovery 1 (some FieldType.int) ∈ TT := TT_of (tb3 (List.mem_of_getElem? (i := 200) rfl)) rfl
theorem qc_X6_confirm : Cond.code yX6_confirm cX6_confirm 1 (some FieldType.int) ∈ TT := TT_of (tb3 (List.mem_of_getElem? (i := 204) rfl)) rfl
theorem qc_X0_confirmRunning : Cond.code yX0_confirmRunning cX0_confirmRunning 2 (some FieldType.int) ∈ TT := TT_of (tb3 (List.mem_of_getElem? (i := 208) rfl)) rfl
theorem qc_X6_update : Cond.code yX6_update cX6_update 2 (some FieldType.int) ∈ TT := TT_of (tb3 (List.mem_of_getElem? (i := 212) rfl)) rfl
theorem qc_X6_requireVersion : Cond.code yX6_requireVersion cX6_requireVersion 1 none ∈ TT := TT_of (tb3 (List.mem_of_getElem? (i := 215) rfl)) rfl
theorem qc_X0_updateOther : Cond.code yX0_updateOther cX0_updateOther 5 (some FieldType.int) ∈ TT := TT_of (tb3 (List.mem_of_getElem? (i := 219) rfl)) rfl
theorem qc_X0_runsGoodSlot : Cond.code yX0_runsGoodSlot cX0_runsGoodSlot 1 (some FieldType.boolean) ∈ TT := TT_of (tb3 (List.mem_of_getElem? (i := 223) rfl)) rfl
theorem qc_X1_writeImage : Cond.code yX1_writeImage cX1_writeImage 8 (some FieldType.boolean) ∈ TT := TT_of (tb3 (List.mem_of_getElem? (i := 227) rfl)) rfl
theorem qc_X1_mustErase : Cond.code yX1_mustErase cX1_mustErase 8 (some FieldType.boolean) ∈ TT := TT_of (tb3 (List.mem_of_getElem? (i := 231) rfl)) rfl
theorem qc_X1_eraseSlotPage : Cond.code yX1_eraseSlotPage cX1_eraseSlotPage 7 (some FieldType.boolean) ∈ TT := TT_of (tb3 (List.mem_of_getElem? (i := 237) rfl)) rfl
theorem qc_X6_thriftyUpdate : Cond.code yX6_thriftyUpdate cX6_thriftyUpdate 2 (some FieldType.int) ∈ TT := TT_of (tb4 (List.mem_of_getElem? (i := 3) rfl)) rfl
theorem qc_X6_mirror : Cond.code yX6_mirror cX6_mirror 1 (some FieldType.int) ∈ TT := TT_of (tb4 (List.mem_of_getElem? (i := 7) rfl)) rfl
theorem qc_X0_mirrorRunning : Cond.code yX0_mirrorRunning cX0_mirrorRunning 3 (some FieldType.int) ∈ TT := TT_of (tb4 (List.mem_of_getElem? (i := 11) rfl)) rfl
theorem qc_X6_moveJournal : Cond.code yX6_moveJournal cX6_moveJournal 1 (some FieldType.int) ∈ TT := TT_of (tb4 (List.mem_of_getElem? (i := 15) rfl)) rfl
theorem qc_X0_moveByHand : Cond.code yX0_moveByHand cX0_moveByHand 1 (some FieldType.int) ∈ TT := TT_of (tb4 (List.mem_of_getElem? (i := 19) rfl)) rfl
theorem qc_X6_recover : Cond.code yX6_recover cX6_recover 3 (some FieldType.int) ∈ TT := TT_of (tb4 (List.mem_of_getElem? (i := 23) rfl)) rfl
theorem qc_X6_requireSlot : Cond.code yX6_requireSlot cX6_requireSlot 1 none ∈ TT := TT_of (tb4 (List.mem_of_getElem? (i := 26) rfl)) rfl
theorem qc_X0_recoverSlot : Cond.code yX0_recoverSlot cX0_recoverSlot 4 (some FieldType.int) ∈ TT := TT_of (tb4 (List.mem_of_getElem? (i := 30) rfl)) rfl
theorem qc_X6_setPower : Cond.code yX6_setPower cX6_setPower 3 (some FieldType.int) ∈ TT := TT_of (tb4 (List.mem_of_getElem? (i := 34) rfl)) rfl
theorem qc_X6_off : Cond.code yX6_off cX6_off 2 (some FieldType.boolean) ∈ TT := TT_of (tb4 (List.mem_of_getElem? (i := 39) rfl)) rfl
theorem qc_X6_damage : Cond.code yX6_damage cX6_damage 4 (some FieldType.int) ∈ TT := TT_of (tb4 (List.mem_of_getElem? (i := 44) rfl)) rfl
theorem qc_X6_requireIndex : Cond.code yX6_requireIndex cX6_requireIndex 2 none ∈ TT := TT_of (tb4 (List.mem_of_getElem? (i := 47) rfl)) rfl
theorem qc_X1_loseBits : Cond.code yX1_loseBits cX1_loseBits 5 (some FieldType.int) ∈ TT := TT_of (tb4 (List.mem_of_getElem? (i := 67) rfl)) rfl
theorem qc_J6_bitCount_0f7a4 : Cond.code yJ6_bitCount_0f7a4 cJ6_bitCount_0f7a4 1 (some FieldType.int) ∈ TT := TT_of (tb4 (List.mem_of_getElem? (i := 70) rfl)) rfl
theorem qc_X6_damageJournal : Cond.code yX6_damageJournal cX6_damageJournal 4 (some FieldType.int) ∈ TT := TT_of (tb4 (List.mem_of_getElem? (i := 77) rfl)) rfl
theorem qc_L_isTold : Cond.code yL_isTold method_6_code 7 (some FieldType.boolean) ∈ TT := TT_of (tb4 (List.mem_of_getElem? (i := 81) rfl)) rfl
theorem qc_X6_recordCount : Cond.code yX6_recordCount cX6_recordCount 1 (some FieldType.int) ∈ TT := TT_of (tb4 (List.mem_of_getElem? (i := 85) rfl)) rfl
theorem qc_X6_readLedger : Cond.code yX6_readLedger cX6_readLedger 1 (some (FieldType.object "TwinBoot$Ledger")) ∈ TT := TT_of (tb4 (List.mem_of_getElem? (i := 89) rfl)) rfl
theorem qc_X6_record : Cond.code yX6_record cX6_record 6 (some FieldType.int) ∈ TT := TT_of (tb4 (List.mem_of_getElem? (i := 94) rfl)) rfl
theorem qc_X2_placeOf : Cond.code yX2_placeOf cX2_placeOf 6 (some FieldType.int) ∈ TT := TT_of (tb4 (List.mem_of_getElem? (i := 98) rfl)) rfl
theorem qc_X6_activePage : Cond.code yX6_activePage cX6_activePage 1 (some FieldType.int) ∈ TT := TT_of (tb4 (List.mem_of_getElem? (i := 104) rfl)) rfl
theorem qc_X6_freeWords : Cond.code yX6_freeWords cX6_freeWords 2 (some FieldType.int) ∈ TT := TT_of (tb4 (List.mem_of_getElem? (i := 108) rfl)) rfl
theorem qc_X6_recordsLeft : Cond.code yX6_recordsLeft cX6_recordsLeft 2 (some FieldType.int) ∈ TT := TT_of (tb4 (List.mem_of_getElem? (i := 112) rfl)) rfl
theorem qc_X6_generation : Cond.code yX6_generation cX6_generation 1 (some FieldType.int) ∈ TT := TT_of (tb4 (List.mem_of_getElem? (i := 116) rfl)) rfl
theorem qc_X6_spoiled : Cond.code yX6_spoiled cX6_spoiled 1 (some FieldType.int) ∈ TT := TT_of (tb4 (List.mem_of_getElem? (i := 120) rfl)) rfl
theorem qc_X6_eventCount : Cond.code yX6_eventCount cX6_eventCount 2 (some FieldType.int) ∈ TT := TT_of (tb4 (List.mem_of_getElem? (i := 124) rfl)) rfl
theorem qc_X6_mostWorn : Cond.code yX6_mostWorn cX6_mostWorn 6 (some FieldType.int) ∈ TT := TT_of (tb4 (List.mem_of_getElem? (i := 128) rfl)) rfl
theorem qc_X1_pagesOf : Cond.code yX1_pagesOf cX1_pagesOf 2 (some FieldType.int) ∈ TT := TT_of (tb4 (List.mem_of_getElem? (i := 132) rfl)) rfl
theorem qc_X6_wear : Cond.code yX6_wear cX6_wear 3 (some FieldType.int) ∈ TT := TT_of (tb4 (List.mem_of_getElem? (i := 136) rfl)) rfl
theorem qc_X6_isBootable : Cond.code yX6_isBootable cX6_isBootable 2 (some FieldType.boolean) ∈ TT := TT_of (tb4 (List.mem_of_getElem? (i := 140) rfl)) rfl
theorem qc_X6_isWhole : Cond.code yX6_isWhole cX6_isWhole 2 (some FieldType.boolean) ∈ TT := TT_of (tb4 (List.mem_of_getElem? (i := 145) rfl)) rfl
theorem qc_X6_checksum : Cond.code yX6_checksum cX6_checksum 2 (some FieldType.int) ∈ TT := TT_of (tb4 (List.mem_of_getElem? (i := 149) rfl)) rfl
theorem qc_X6_word : Cond.code yX6_word cX6_word 3 (some FieldType.int) ∈ TT := TT_of (tb4 (List.mem_of_getElem? (i := 154) rfl)) rfl
theorem qc_X6_differentWords : Cond.code yX6_differentWords cX6_differentWords 5 (some FieldType.int) ∈ TT := TT_of (tb4 (List.mem_of_getElem? (i := 158) rfl)) rfl
theorem qc_X6_standsBefore : Cond.code yX6_standsBefore cX6_standsBefore 3 (some FieldType.boolean) ∈ TT := TT_of (tb4 (List.mem_of_getElem? (i := 161) rfl)) rfl
theorem qc_X6_logSize : Cond.code yX6_logSize cX6_logSize 1 (some FieldType.int) ∈ TT := TT_of (tb4 (List.mem_of_getElem? (i := 165) rfl)) rfl
theorem qc_X3_size : Cond.code yX3_size cX3_size 1 (some FieldType.int) ∈ TT := TT_of (tb4 (List.mem_of_getElem? (i := 169) rfl)) rfl
theorem qc_X6_running : Cond.code yX6_running cX6_running 1 (some FieldType.int) ∈ TT := TT_of (tb4 (List.mem_of_getElem? (i := 175) rfl)) rfl
theorem qc_X6_state : Cond.code yX6_state cX6_state 1 (some FieldType.int) ∈ TT := TT_of (tb4 (List.mem_of_getElem? (i := 179) rfl)) rfl
theorem qc_L_boots : Cond.code yL_boots method_7_code 8 (some FieldType.boolean) ∈ TT := TT_of (tb4 (List.mem_of_getElem? (i := 182) rfl)) rfl
theorem qc_L_whole : Cond.code yL_whole method_5_code 5 (some FieldType.long) ∈ TT := TT_of (tb4 (List.mem_of_getElem? (i := 185) rfl)) rfl
theorem qc_X6_operations : Cond.code yX6_operations cX6_operations 1 (some FieldType.int) ∈ TT := TT_of (tb4 (List.mem_of_getElem? (i := 189) rfl)) rfl
theorem qc_X6_power : Cond.code yX6_power cX6_power 1 (some FieldType.int) ∈ TT := TT_of (tb4 (List.mem_of_getElem? (i := 196) rfl)) rfl
theorem qc_X6_setting : Cond.code yX6_setting cX6_setting 2 (some FieldType.int) ∈ TT := TT_of (tb4 (List.mem_of_getElem? (i := 200) rfl)) rfl
theorem qc_X6_journalWord : Cond.code yX6_journalWord cX6_journalWord 3 (some FieldType.int) ∈ TT := TT_of (tb4 (List.mem_of_getElem? (i := 204) rfl)) rfl
theorem qc_X6_bootWould : Cond.code yX6_bootWould cX6_bootWould 1 (some FieldType.int) ∈ TT := TT_of (tb4 (List.mem_of_getElem? (i := 208) rfl)) rfl
theorem qc_X6_prepareTrial : Cond.code yX6_prepareTrial cX6_prepareTrial 2 none ∈ TT := TT_of (tb4 (List.mem_of_getElem? (i := 212) rfl)) rfl
theorem qc_X0_copyFrom : Cond.code yX0_copyFrom cX0_copyFrom 2 none ∈ TT := TT_of (tb4 (List.mem_of_getElem? (i := 216) rfl)) rfl
theorem qc_X1_copyFrom : Cond.code yX1_copyFrom cX1_copyFrom 3 none ∈ TT := TT_of (tb4 (List.mem_of_getElem? (i := 220) rfl)) rfl
theorem qc_X3_copyFrom : Cond.code yX3_copyFrom cX3_copyFrom 2 none ∈ TT := TT_of (tb4 (List.mem_of_getElem? (i := 224) rfl)) rfl
theorem qc_X6_bootOperations : Cond.code yX6_bootOperations cX6_bootOperations 1 (some FieldType.int) ∈ TT := TT_of (tb4 (List.mem_of_getElem? (i := 230) rfl)) rfl
theorem qc_X6_firstBootCut : Cond.code yX6_firstBootCut cX6_firstBootCut 3 (some FieldType.int) ∈ TT := TT_of (tb4 (List.mem_of_getElem? (i := 234) rfl)) rfl
theorem qc_X6_bootsToRollback : Cond.code yX6_bootsToRollback cX6_bootsToRollback 4 (some FieldType.int) ∈ TT := TT_of (tb4 (List.mem_of_getElem? (i := 238) rfl)) rfl
theorem qc_X6_saveSnapshot : Cond.code yX6_saveSnapshot cX6_saveSnapshot 2 (some FieldType.int) ∈ TT := TT_of (tb5 (List.mem_of_getElem? (i := 2) rfl)) rfl
theorem qc_X6_restoreSnapshot : Cond.code yX6_restoreSnapshot cX6_restoreSnapshot 2 (some FieldType.int) ∈ TT := TT_of (tb5 (List.mem_of_getElem? (i := 6) rfl)) rfl
theorem qc_L_updates : Cond.code yL_updates method_8_code 15 (some FieldType.boolean) ∈ TT := TT_of (tb5 (List.mem_of_getElem? (i := 10) rfl)) rfl
theorem qc_X6_updateOperations : Cond.code yX6_updateOperations cX6_updateOperations 2 (some FieldType.int) ∈ TT := TT_of (tb5 (List.mem_of_getElem? (i := 14) rfl)) rfl
theorem qc_X6_slotAfterCut : Cond.code yX6_slotAfterCut cX6_slotAfterCut 3 (some FieldType.int) ∈ TT := TT_of (tb5 (List.mem_of_getElem? (i := 18) rfl)) rfl
theorem qc_X6_requireCut : Cond.code yX6_requireCut cX6_requireCut 1 none ∈ TT := TT_of (tb5 (List.mem_of_getElem? (i := 21) rfl)) rfl
theorem qc_X6_bootAfterCut : Cond.code yX6_bootAfterCut cX6_bootAfterCut 5 (some FieldType.int) ∈ TT := TT_of (tb5 (List.mem_of_getElem? (i := 25) rfl)) rfl
theorem qc_X6_thriftyOperations : Cond.code yX6_thriftyOperations cX6_thriftyOperations 2 (some FieldType.int) ∈ TT := TT_of (tb5 (List.mem_of_getElem? (i := 29) rfl)) rfl
theorem qc_X6_firstUnsafeCut : Cond.code yX6_firstUnsafeCut cX6_firstUnsafeCut 2 (some FieldType.int) ∈ TT := TT_of (tb5 (List.mem_of_getElem? (i := 33) rfl)) rfl
theorem qc_X6_unsafeCut : Cond.code yX6_unsafeCut cX6_unsafeCut 5 (some FieldType.int) ∈ TT := TT_of (tb5 (List.mem_of_getElem? (i := 37) rfl)) rfl
theorem qc_X6_told : Cond.code yX6_told cX6_told 2 (some FieldType.int) ∈ TT := TT_of (tb5 (List.mem_of_getElem? (i := 41) rfl)) rfl
theorem qc_X2_part : Cond.code yX2_part cX2_part 2 (some FieldType.int) ∈ TT := TT_of (tb5 (List.mem_of_getElem? (i := 45) rfl)) rfl
theorem qc_X6_cutsToNew : Cond.code yX6_cutsToNew cX6_cutsToNew 5 (some FieldType.int) ∈ TT := TT_of (tb5 (List.mem_of_getElem? (i := 49) rfl)) rfl
theorem qc_X6_longestOldRun : Cond.code yX6_longestOldRun cX6_longestOldRun 6 (some FieldType.int) ∈ TT := TT_of (tb5 (List.mem_of_getElem? (i := 53) rfl)) rfl
theorem qc_X6_firstUnsafeThriftyCut : Cond.code yX6_firstUnsafeThriftyCut cX6_firstUnsafeThriftyCut 2 (some FieldType.int) ∈ TT := TT_of (tb5 (List.mem_of_getElem? (i := 58) rfl)) rfl
theorem qc_X6_thriftyPages : Cond.code yX6_thriftyPages cX6_thriftyPages 3 (some FieldType.int) ∈ TT := TT_of (tb5 (List.mem_of_getElem? (i := 62) rfl)) rfl
theorem qc_J4_init_da8c8 : Cond.code yJ4_init_da8c8 cJ4_init_da8c8 1 none ∈ TT := TT_of (tb5 (List.mem_of_getElem? (i := 68) rfl)) rfl
theorem qc_J5_init_d00df : Cond.code yJ5_init_d00df cJ5_init_d00df 2 none ∈ TT := TT_of (tb5 (List.mem_of_getElem? (i := 71) rfl)) rfl
theorem qc_J2_newBytesFor_77867 : Cond.code yJ2_newBytesFor_77867 cJ2_newBytesFor_77867 1 (some (FieldType.array FieldType.byte)) ∈ TT := TT_of (tb5 (List.mem_of_getElem? (i := 76) rfl)) rfl
theorem qc_J2_newBytesLength_0f7a4 : Cond.code yJ2_newBytesLength_0f7a4 cJ2_newBytesLength_0f7a4 1 (some FieldType.int) ∈ TT := TT_of (tb5 (List.mem_of_getElem? (i := 79) rfl)) rfl
theorem qc_J4_append_15ec4 : Cond.code yJ4_append_15ec4 cJ4_append_15ec4 2 (some (FieldType.object "java/lang/StringBuilder")) ∈ TT := TT_of (tb5 (List.mem_of_getElem? (i := 97) rfl)) rfl
theorem qc_J5_append_cf1ce : Cond.code yJ5_append_cf1ce cJ5_append_cf1ce 3 (some (FieldType.object "java/lang/AbstractStringBuilder")) ∈ TT := TT_of (tb5 (List.mem_of_getElem? (i := 100) rfl)) rfl
theorem qc_J5_appendNull_278bc : Cond.code yJ5_appendNull_278bc cJ5_appendNull_278bc 3 (some (FieldType.object "java/lang/AbstractStringBuilder")) ∈ TT := TT_of (tb5 (List.mem_of_getElem? (i := 104) rfl)) rfl
theorem qc_J5_ensureCapacityInternal_d00df : Cond.code yJ5_ensureCapacityInternal_d00df cJ5_ensureCapacityInternal_d00df 3 none ∈ TT := TT_of (tb5 (List.mem_of_getElem? (i := 108) rfl)) rfl
theorem qc_J5_newCapacity_0f7a4 : Cond.code yJ5_newCapacity_0f7a4 cJ5_newCapacity_0f7a4 6 (some FieldType.int) ∈ TT := TT_of (tb5 (List.mem_of_getElem? (i := 112) rfl)) rfl
theorem qc_J8_newLength_cabcc : Cond.code yJ8_newLength_cabcc cJ8_newLength_cabcc 4 (some FieldType.int) ∈ TT := TT_of (tb5 (List.mem_of_getElem? (i := 115) rfl)) rfl
theorem qc_J8_hugeLength_7cf53 : Cond.code yJ8_hugeLength_7cf53 cJ8_hugeLength_7cf53 3 (some FieldType.int) ∈ TT := TT_of (tb5 (List.mem_of_getElem? (i := 120) rfl)) rfl
theorem qc_J7_copyOf_9075b : Cond.code yJ7_copyOf_9075b cJ7_copyOf_9075b 3 (some (FieldType.array FieldType.byte)) ∈ TT := TT_of (tb5 (List.mem_of_getElem? (i := 124) rfl)) rfl
theorem qc_J5_isLatin1_aae02 : Cond.code yJ5_isLatin1_aae02 cJ5_isLatin1_aae02 1 (some FieldType.boolean) ∈ TT := TT_of (tb5 (List.mem_of_getElem? (i := 138) rfl)) rfl
theorem qc_J2_putCharsAt_cd4e5 : Cond.code yJ2_putCharsAt_cd4e5 cJ2_putCharsAt_cd4e5 7 (some FieldType.int) ∈ TT := TT_of (tb5 (List.mem_of_getElem? (i := 141) rfl)) rfl
theorem qc_J2_checkBoundsBeginEnd_d044e : Cond.code yJ2_checkBoundsBeginEnd_d044e cJ2_checkBoundsBeginEnd_d044e 3 none ∈ TT := TT_of (tb5 (List.mem_of_getElem? (i := 144) rfl)) rfl
theorem qc_J0_checkBoundsBeginEnd_23922 : Cond.code yJ0_checkBoundsBeginEnd_23922 cJ0_checkBoundsBeginEnd_23922 3 none ∈ TT := TT_of (tb5 (List.mem_of_getElem? (i := 147) rfl)) rfl
theorem qc_J3_checkFromToIndex_8c36e : Cond.code yJ3_checkFromToIndex_8c36e cJ3_checkFromToIndex_8c36e 4 (some FieldType.int) ∈ TT := TT_of (tb5 (List.mem_of_getElem? (i := 150) rfl)) rfl
theorem qc_J2_putChar_b72d1 : Cond.code yJ2_putChar_b72d1 cJ2_putChar_b72d1 3 none ∈ TT := TT_of (tb5 (List.mem_of_getElem? (i := 153) rfl)) rfl
theorem qc_J5_putStringAt_47b60 : Cond.code yJ5_putStringAt_47b60 cJ5_putStringAt_47b60 3 none ∈ TT := TT_of (tb5 (List.mem_of_getElem? (i := 158) rfl)) rfl
theorem qc_J5_inflateIfNeededFor_a7421 : Cond.code yJ5_inflateIfNeededFor_a7421 cJ5_inflateIfNeededFor_a7421 2 none ∈ TT := TT_of (tb5 (List.mem_of_getElem? (i := 162) rfl)) rfl
theorem qc_J5_inflate_da8c8 : Cond.code yJ5_inflate_da8c8 cJ5_inflate_da8c8 2 none ∈ TT := TT_of (tb5 (List.mem_of_getElem? (i := 167) rfl)) rfl
theorem qc_J1_inflate_0e8fd : Cond.code yJ1_inflate_0e8fd cJ1_inflate_0e8fd 5 none ∈ TT := TT_of (tb5 (List.mem_of_getElem? (i := 170) rfl)) rfl
theorem qc_J2_inflate_0e8fd : Cond.code yJ2_inflate_0e8fd cJ2_inflate_0e8fd 6 none ∈ TT := TT_of (tb5 (List.mem_of_getElem? (i := 173) rfl)) rfl
theorem qc_J2_checkBoundsOffCount_d044e : Cond.code yJ2_checkBoundsOffCount_d044e cJ2_checkBoundsOffCount_d044e 3 none ∈ TT := TT_of (tb5 (List.mem_of_getElem? (i := 176) rfl)) rfl
theorem qc_J0_checkBoundsOffCount_cabcc : Cond.code yJ0_checkBoundsOffCount_cabcc cJ0_checkBoundsOffCount_cabcc 3 (some FieldType.int) ∈ TT := TT_of (tb5 (List.mem_of_getElem? (i := 179) rfl)) rfl
theorem qc_J3_checkFromIndexSize_8c36e : Cond.code yJ3_checkFromIndexSize_8c36e cJ3_checkFromIndexSize_8c36e 4 (some FieldType.int) ∈ TT := TT_of (tb5 (List.mem_of_getElem? (i := 182) rfl)) rfl
theorem qc_J0_getBytes_840e7 : Cond.code yJ0_getBytes_840e7 cJ0_getBytes_840e7 4 none ∈ TT := TT_of (tb5 (List.mem_of_getElem? (i := 186) rfl)) rfl
theorem qc_J4_append_bf812 : Cond.code yJ4_append_bf812 cJ4_append_bf812 2 (some (FieldType.object "java/lang/StringBuilder")) ∈ TT := TT_of (tb5 (List.mem_of_getElem? (i := 192) rfl)) rfl
theorem qc_J5_append_c97b9 : Cond.code yJ5_append_c97b9 cJ5_append_c97b9 4 (some (FieldType.object "java/lang/AbstractStringBuilder")) ∈ TT := TT_of (tb5 (List.mem_of_getElem? (i := 195) rfl)) rfl
theorem qc_J6_stringSize_0f7a4 : Cond.code yJ6_stringSize_0f7a4 cJ6_stringSize_0f7a4 4 (some FieldType.int) ∈ TT := TT_of (tb5 (List.mem_of_getElem? (i := 198) rfl)) rfl
theorem qc_J6_getChars_ba4f3 : Cond.code yJ6_getChars_ba4f3 cJ6_getChars_ba4f3 7 (some FieldType.int) ∈ TT := TT_of (tb5 (List.mem_of_getElem? (i := 201) rfl)) rfl
theorem qc_J2_getChars_46870 : Cond.code yJ2_getChars_46870 cJ2_getChars_46870 5 (some FieldType.int) ∈ TT := TT_of (tb5 (List.mem_of_getElem? (i := 208) rfl)) rfl
theorem qc_J2_getChars_ba4f3 : Cond.code yJ2_getChars_ba4f3 cJ2_getChars_ba4f3 7 (some FieldType.int) ∈ TT := TT_of (tb5 (List.mem_of_getElem? (i := 211) rfl)) rfl
theorem qc_J4_toString_0e30d : Cond.code yJ4_toString_0e30d cJ4_toString_0e30d 1 (some (FieldType.object "java/lang/String")) ∈ TT := TT_of (tb5 (List.mem_of_getElem? (i := 217) rfl)) rfl
theorem qc_J0_init_81219 : Cond.code yJ0_init_81219 cJ0_init_81219 2 none ∈ TT := TT_of (tb5 (List.mem_of_getElem? (i := 222) rfl)) rfl
theorem qc_J0_init_db425 : Cond.code yJ0_init_db425 cJ0_init_db425 5 none ∈ TT := TT_of (tb5 (List.mem_of_getElem? (i := 225) rfl)) rfl
theorem qc_J5_getValue_6d5f1 : Cond.code yJ5_getValue_6d5f1 cJ5_getValue_6d5f1 1 (some (FieldType.array FieldType.byte)) ∈ TT := TT_of (tb5 (List.mem_of_getElem? (i := 231) rfl)) rfl
theorem qc_J4_length_8abf5 : Cond.code yJ4_length_8abf5 cJ4_length_8abf5 1 (some FieldType.int) ∈ TT := TT_of (tb5 (List.mem_of_getElem? (i := 237) rfl)) rfl
theorem qc_J5_length_8abf5 : Cond.code yJ5_length_8abf5 cJ5_length_8abf5 1 (some FieldType.int) ∈ TT := TT_of (tb5 (List.mem_of_getElem? (i := 239) rfl)) rfl
theorem qc_J7_copyOfRange_39247 : Cond.code yJ7_copyOfRange_39247 cJ7_copyOfRange_39247 3 (some (FieldType.array FieldType.byte)) ∈ TT := TT_of (tb6 (List.mem_of_getElem? (i := 3) rfl)) rfl
theorem qc_J7_copyOfRangeByte_39247 : Cond.code yJ7_copyOfRangeByte_39247 cJ7_copyOfRangeByte_39247 5 (some (FieldType.array FieldType.byte)) ∈ TT := TT_of (tb6 (List.mem_of_getElem? (i := 6) rfl)) rfl
theorem qc_J7_checkLength_df160 : Cond.code yJ7_checkLength_df160 cJ7_checkLength_df160 2 none ∈ TT := TT_of (tb6 (List.mem_of_getElem? (i := 9) rfl)) rfl
theorem qc_J2_compress_39247 : Cond.code yJ2_compress_39247 cJ2_compress_39247 6 (some (FieldType.array FieldType.byte)) ∈ TT := TT_of (tb6 (List.mem_of_getElem? (i := 12) rfl)) rfl
theorem qc_J2_compress_5af95 : Cond.code yJ2_compress_5af95 cJ2_compress_5af95 7 (some FieldType.int) ∈ TT := TT_of (tb6 (List.mem_of_getElem? (i := 15) rfl)) rfl
theorem qc_J2_coderFromArrayLen_85cad : Cond.code yJ2_coderFromArrayLen_85cad cJ2_coderFromArrayLen_85cad 2 (some FieldType.byte) ∈ TT := TT_of (tb6 (List.mem_of_getElem? (i := 19) rfl)) rfl
theorem qs_J7_fill_53178 : Cond.static yJ7_fill_53178 ∈ TT := TT_of (tb1 (List.mem_of_getElem? (i := 53) rfl)) rfl
theorem qs_X2_wordOf : Cond.static yX2_wordOf ∈ TT := TT_of (tb2 (List.mem_of_getElem? (i := 66) rfl)) rfl
theorem qs_X6_requireRange : Cond.static yX6_requireRange ∈ TT := TT_of (tb2 (List.mem_of_getElem? (i := 104) rfl)) rfl
theorem qs_L_cell : Cond.static yL_cell ∈ TT := TT_of (tb2 (List.mem_of_getElem? (i := 177) rfl)) rfl
theorem qs_J9_abs_0f7a4 : Cond.static yJ9_abs_0f7a4 ∈ TT := TT_of (tb2 (List.mem_of_getElem? (i := 181) rfl)) rfl
theorem qs_L_load : Cond.static yL_load ∈ TT := TT_of (tb2 (List.mem_of_getElem? (i := 184) rfl)) rfl
theorem qs_J1_charAt_3b067 : Cond.static yJ1_charAt_3b067 ∈ TT := TT_of (tb2 (List.mem_of_getElem? (i := 205) rfl)) rfl
theorem qs_J0_checkIndex_df160 : Cond.static yJ0_checkIndex_df160 ∈ TT := TT_of (tb2 (List.mem_of_getElem? (i := 208) rfl)) rfl
theorem qs_J3_checkIndex_8e157 : Cond.static yJ3_checkIndex_8e157 ∈ TT := TT_of (tb2 (List.mem_of_getElem? (i := 213) rfl)) rfl
theorem qs_J2_charAt_3b067 : Cond.static yJ2_charAt_3b067 ∈ TT := TT_of (tb2 (List.mem_of_getElem? (i := 216) rfl)) rfl
theorem qs_J2_checkIndex_2214a : Cond.static yJ2_checkIndex_2214a ∈ TT := TT_of (tb2 (List.mem_of_getElem? (i := 219) rfl)) rfl
theorem qs_J2_length_9d52b : Cond.static yJ2_length_9d52b ∈ TT := TT_of (tb2 (List.mem_of_getElem? (i := 222) rfl)) rfl
theorem qs_J2_getChar_3b067 : Cond.static yJ2_getChar_3b067 ∈ TT := TT_of (tb2 (List.mem_of_getElem? (i := 226) rfl)) rfl
theorem qs_J9_min_7cf53 : Cond.static yJ9_min_7cf53 ∈ TT := TT_of (tb3 (List.mem_of_getElem? (i := 45) rfl)) rfl
theorem qs_X1_sum : Cond.static yX1_sum ∈ TT := TT_of (tb3 (List.mem_of_getElem? (i := 70) rfl)) rfl
theorem qs_L_step : Cond.static yL_step ∈ TT := TT_of (tb3 (List.mem_of_getElem? (i := 91) rfl)) rfl
theorem qs_X2_activePageOf : Cond.static yX2_activePageOf ∈ TT := TT_of (tb3 (List.mem_of_getElem? (i := 106) rfl)) rfl
theorem qs_X2_rightKind : Cond.static yX2_rightKind ∈ TT := TT_of (tb3 (List.mem_of_getElem? (i := 109) rfl)) rfl
theorem qs_X2_valueOf : Cond.static yX2_valueOf ∈ TT := TT_of (tb3 (List.mem_of_getElem? (i := 112) rfl)) rfl
theorem qs_X2_isEntry : Cond.static yX2_isEntry ∈ TT := TT_of (tb3 (List.mem_of_getElem? (i := 116) rfl)) rfl
theorem qs_X2_kindOf : Cond.static yX2_kindOf ∈ TT := TT_of (tb3 (List.mem_of_getElem? (i := 119) rfl)) rfl
theorem qs_J9_max_7cf53 : Cond.static yJ9_max_7cf53 ∈ TT := TT_of (tb3 (List.mem_of_getElem? (i := 126) rfl)) rfl
theorem qs_J7_fill_fda19 : Cond.static yJ7_fill_fda19 ∈ TT := TT_of (tb3 (List.mem_of_getElem? (i := 145) rfl)) rfl
theorem qs_J7_rangeCheck_23922 : Cond.static yJ7_rangeCheck_23922 ∈ TT := TT_of (tb3 (List.mem_of_getElem? (i := 148) rfl)) rfl
theorem qs_X6_requireVersion : Cond.static yX6_requireVersion ∈ TT := TT_of (tb3 (List.mem_of_getElem? (i := 214) rfl)) rfl
theorem qs_X6_requireSlot : Cond.static yX6_requireSlot ∈ TT := TT_of (tb4 (List.mem_of_getElem? (i := 25) rfl)) rfl
theorem qs_X6_requireIndex : Cond.static yX6_requireIndex ∈ TT := TT_of (tb4 (List.mem_of_getElem? (i := 46) rfl)) rfl
theorem qs_J6_bitCount_0f7a4 : Cond.static yJ6_bitCount_0f7a4 ∈ TT := TT_of (tb4 (List.mem_of_getElem? (i := 69) rfl)) rfl
theorem qs_L_isTold : Cond.static yL_isTold ∈ TT := TT_of (tb4 (List.mem_of_getElem? (i := 80) rfl)) rfl
theorem qs_X6_standsBefore : Cond.static yX6_standsBefore ∈ TT := TT_of (tb4 (List.mem_of_getElem? (i := 160) rfl)) rfl
theorem qs_L_boots : Cond.static yL_boots ∈ TT := TT_of (tb4 (List.mem_of_getElem? (i := 181) rfl)) rfl
theorem qs_L_whole : Cond.static yL_whole ∈ TT := TT_of (tb4 (List.mem_of_getElem? (i := 184) rfl)) rfl
theorem qs_L_updates : Cond.static yL_updates ∈ TT := TT_of (tb5 (List.mem_of_getElem? (i := 9) rfl)) rfl
theorem qs_X6_requireCut : Cond.static yX6_requireCut ∈ TT := TT_of (tb5 (List.mem_of_getElem? (i := 20) rfl)) rfl
theorem qs_J2_newBytesFor_77867 : Cond.static yJ2_newBytesFor_77867 ∈ TT := TT_of (tb5 (List.mem_of_getElem? (i := 75) rfl)) rfl
theorem qs_J2_newBytesLength_0f7a4 : Cond.static yJ2_newBytesLength_0f7a4 ∈ TT := TT_of (tb5 (List.mem_of_getElem? (i := 78) rfl)) rfl
theorem qs_J8_newLength_cabcc : Cond.static yJ8_newLength_cabcc ∈ TT := TT_of (tb5 (List.mem_of_getElem? (i := 114) rfl)) rfl
theorem qs_J8_hugeLength_7cf53 : Cond.static yJ8_hugeLength_7cf53 ∈ TT := TT_of (tb5 (List.mem_of_getElem? (i := 119) rfl)) rfl
theorem qs_J7_copyOf_9075b : Cond.static yJ7_copyOf_9075b ∈ TT := TT_of (tb5 (List.mem_of_getElem? (i := 123) rfl)) rfl
theorem qs_J2_putCharsAt_cd4e5 : Cond.static yJ2_putCharsAt_cd4e5 ∈ TT := TT_of (tb5 (List.mem_of_getElem? (i := 140) rfl)) rfl
theorem qs_J2_checkBoundsBeginEnd_d044e : Cond.static yJ2_checkBoundsBeginEnd_d044e ∈ TT := TT_of (tb5 (List.mem_of_getElem? (i := 143) rfl)) rfl
theorem qs_J0_checkBoundsBeginEnd_23922 : Cond.static yJ0_checkBoundsBeginEnd_23922 ∈ TT := TT_of (tb5 (List.mem_of_getElem? (i := 146) rfl)) rfl
theorem qs_J3_checkFromToIndex_8c36e : Cond.static yJ3_checkFromToIndex_8c36e ∈ TT := TT_of (tb5 (List.mem_of_getElem? (i := 149) rfl)) rfl
theorem qs_J2_putChar_b72d1 : Cond.static yJ2_putChar_b72d1 ∈ TT := TT_of (tb5 (List.mem_of_getElem? (i := 152) rfl)) rfl
theorem qs_J1_inflate_0e8fd : Cond.static yJ1_inflate_0e8fd ∈ TT := TT_of (tb5 (List.mem_of_getElem? (i := 169) rfl)) rfl
theorem qs_J2_inflate_0e8fd : Cond.static yJ2_inflate_0e8fd ∈ TT := TT_of (tb5 (List.mem_of_getElem? (i := 172) rfl)) rfl
theorem qs_J2_checkBoundsOffCount_d044e : Cond.static yJ2_checkBoundsOffCount_d044e ∈ TT := TT_of (tb5 (List.mem_of_getElem? (i := 175) rfl)) rfl
theorem qs_J0_checkBoundsOffCount_cabcc : Cond.static yJ0_checkBoundsOffCount_cabcc ∈ TT := TT_of (tb5 (List.mem_of_getElem? (i := 178) rfl)) rfl
theorem qs_J3_checkFromIndexSize_8c36e : Cond.static yJ3_checkFromIndexSize_8c36e ∈ TT := TT_of (tb5 (List.mem_of_getElem? (i := 181) rfl)) rfl
theorem qs_J6_stringSize_0f7a4 : Cond.static yJ6_stringSize_0f7a4 ∈ TT := TT_of (tb5 (List.mem_of_getElem? (i := 197) rfl)) rfl
theorem qs_J6_getChars_ba4f3 : Cond.static yJ6_getChars_ba4f3 ∈ TT := TT_of (tb5 (List.mem_of_getElem? (i := 200) rfl)) rfl
theorem qs_J2_getChars_46870 : Cond.static yJ2_getChars_46870 ∈ TT := TT_of (tb5 (List.mem_of_getElem? (i := 207) rfl)) rfl
theorem qs_J2_getChars_ba4f3 : Cond.static yJ2_getChars_ba4f3 ∈ TT := TT_of (tb5 (List.mem_of_getElem? (i := 210) rfl)) rfl
theorem qs_J7_copyOfRange_39247 : Cond.static yJ7_copyOfRange_39247 ∈ TT := TT_of (tb6 (List.mem_of_getElem? (i := 2) rfl)) rfl
theorem qs_J7_copyOfRangeByte_39247 : Cond.static yJ7_copyOfRangeByte_39247 ∈ TT := TT_of (tb6 (List.mem_of_getElem? (i := 5) rfl)) rfl
theorem qs_J7_checkLength_df160 : Cond.static yJ7_checkLength_df160 ∈ TT := TT_of (tb6 (List.mem_of_getElem? (i := 8) rfl)) rfl
theorem qs_J2_compress_39247 : Cond.static yJ2_compress_39247 ∈ TT := TT_of (tb6 (List.mem_of_getElem? (i := 11) rfl)) rfl
theorem qs_J2_compress_5af95 : Cond.static yJ2_compress_5af95 ∈ TT := TT_of (tb6 (List.mem_of_getElem? (i := 14) rfl)) rfl
theorem qs_J2_coderFromArrayLen_85cad : Cond.static yJ2_coderFromArrayLen_85cad ∈ TT := TT_of (tb6 (List.mem_of_getElem? (i := 18) rfl)) rfl
theorem qi_X6_init : Cond.instanceMethod yX6_init ∈ TT := TT_of (tb1 (List.mem_of_getElem? (i := 28) rfl)) rfl
theorem qi_X5_init : Cond.instanceMethod yX5_init ∈ TT := TT_of (tb1 (List.mem_of_getElem? (i := 36) rfl)) rfl
theorem qi_X4_init : Cond.instanceMethod yX4_init ∈ TT := TT_of (tb1 (List.mem_of_getElem? (i := 42) rfl)) rfl
theorem qi_X4_clear : Cond.instanceMethod yX4_clear ∈ TT := TT_of (tb1 (List.mem_of_getElem? (i := 48) rfl)) rfl
theorem qi_X0_init : Cond.instanceMethod yX0_init ∈ TT := TT_of (tb1 (List.mem_of_getElem? (i := 132) rfl)) rfl
theorem qi_X1_init : Cond.instanceMethod yX1_init ∈ TT := TT_of (tb1 (List.mem_of_getElem? (i := 138) rfl)) rfl
theorem qi_X3_init : Cond.instanceMethod yX3_init ∈ TT := TT_of (tb1 (List.mem_of_getElem? (i := 187) rfl)) rfl
theorem qi_X2_init : Cond.instanceMethod yX2_init ∈ TT := TT_of (tb1 (List.mem_of_getElem? (i := 210) rfl)) rfl
theorem qi_X0_begin : Cond.instanceMethod yX0_begin ∈ TT := TT_of (tb2 (List.mem_of_getElem? (i := 53) rfl)) rfl
theorem qi_X1_begin : Cond.instanceMethod yX1_begin ∈ TT := TT_of (tb2 (List.mem_of_getElem? (i := 57) rfl)) rfl
theorem qi_X3_clear : Cond.instanceMethod yX3_clear ∈ TT := TT_of (tb2 (List.mem_of_getElem? (i := 69) rfl)) rfl
theorem qi_X0_switchOff : Cond.instanceMethod yX0_switchOff ∈ TT := TT_of (tb2 (List.mem_of_getElem? (i := 74) rfl)) rfl
theorem qi_X6_stage : Cond.instanceMethod yX6_stage ∈ TT := TT_of (tb2 (List.mem_of_getElem? (i := 99) rfl)) rfl
theorem qi_X1_room : Cond.instanceMethod yX1_room ∈ TT := TT_of (tb2 (List.mem_of_getElem? (i := 173) rfl)) rfl
theorem qi_J0_length_8abf5 : Cond.instanceMethod yJ0_length_8abf5 ∈ TT := TT_of (tb2 (List.mem_of_getElem? (i := 187) rfl)) rfl
theorem qi_J0_coder_7d493 : Cond.instanceMethod yJ0_coder_7d493 ∈ TT := TT_of (tb2 (List.mem_of_getElem? (i := 191) rfl)) rfl
theorem qi_J0_charAt_5068e : Cond.instanceMethod yJ0_charAt_5068e ∈ TT := TT_of (tb2 (List.mem_of_getElem? (i := 197) rfl)) rfl
theorem qi_J0_isLatin1_aae02 : Cond.instanceMethod yJ0_isLatin1_aae02 ∈ TT := TT_of (tb2 (List.mem_of_getElem? (i := 201) rfl)) rfl
theorem qi_X6_append : Cond.instanceMethod yX6_append ∈ TT := TT_of (tb2 (List.mem_of_getElem? (i := 235) rfl)) rfl
theorem qi_X5_add : Cond.instanceMethod yX5_add ∈ TT := TT_of (tb2 (List.mem_of_getElem? (i := 239) rfl)) rfl
theorem qi_X6_load : Cond.instanceMethod yX6_load ∈ TT := TT_of (tb3 (List.mem_of_getElem? (i := 4) rfl)) rfl
theorem qi_X5_read : Cond.instanceMethod yX5_read ∈ TT := TT_of (tb3 (List.mem_of_getElem? (i := 8) rfl)) rfl
theorem qi_X5_readFlash : Cond.instanceMethod yX5_readFlash ∈ TT := TT_of (tb3 (List.mem_of_getElem? (i := 14) rfl)) rfl
theorem qi_X5_passWord : Cond.instanceMethod yX5_passWord ∈ TT := TT_of (tb3 (List.mem_of_getElem? (i := 18) rfl)) rfl
theorem qi_X5_skipSpaces : Cond.instanceMethod yX5_skipSpaces ∈ TT := TT_of (tb3 (List.mem_of_getElem? (i := 22) rfl)) rfl
theorem qi_X5_isWord : Cond.instanceMethod yX5_isWord ∈ TT := TT_of (tb3 (List.mem_of_getElem? (i := 27) rfl)) rfl
theorem qi_X5_fail : Cond.instanceMethod yX5_fail ∈ TT := TT_of (tb3 (List.mem_of_getElem? (i := 33) rfl)) rfl
theorem qi_X5_readNumber : Cond.instanceMethod yX5_readNumber ∈ TT := TT_of (tb3 (List.mem_of_getElem? (i := 37) rfl)) rfl
theorem qi_X5_isAtDigit : Cond.instanceMethod yX5_isAtDigit ∈ TT := TT_of (tb3 (List.mem_of_getElem? (i := 41) rfl)) rfl
theorem qi_X5_isAtEnd : Cond.instanceMethod yX5_isAtEnd ∈ TT := TT_of (tb3 (List.mem_of_getElem? (i := 49) rfl)) rfl
theorem qi_X5_readSemicolon : Cond.instanceMethod yX5_readSemicolon ∈ TT := TT_of (tb3 (List.mem_of_getElem? (i := 53) rfl)) rfl
theorem qi_X5_readStatement : Cond.instanceMethod yX5_readStatement ∈ TT := TT_of (tb3 (List.mem_of_getElem? (i := 57) rfl)) rfl
theorem qi_X5_readImage : Cond.instanceMethod yX5_readImage ∈ TT := TT_of (tb3 (List.mem_of_getElem? (i := 62) rfl)) rfl
theorem qi_X5_claim : Cond.instanceMethod yX5_claim ∈ TT := TT_of (tb3 (List.mem_of_getElem? (i := 66) rfl)) rfl
theorem qi_X5_readOnce : Cond.instanceMethod yX5_readOnce ∈ TT := TT_of (tb3 (List.mem_of_getElem? (i := 75) rfl)) rfl
theorem qi_X1_holdsImage : Cond.instanceMethod yX1_holdsImage ∈ TT := TT_of (tb3 (List.mem_of_getElem? (i := 81) rfl)) rfl
theorem qi_X1_sumOf : Cond.instanceMethod yX1_sumOf ∈ TT := TT_of (tb3 (List.mem_of_getElem? (i := 85) rfl)) rfl
theorem qi_X6_boot : Cond.instanceMethod yX6_boot ∈ TT := TT_of (tb3 (List.mem_of_getElem? (i := 94) rfl)) rfl
theorem qi_X0_startUp : Cond.instanceMethod yX0_startUp ∈ TT := TT_of (tb3 (List.mem_of_getElem? (i := 98) rfl)) rfl
theorem qi_X2_readFrom : Cond.instanceMethod yX2_readFrom ∈ TT := TT_of (tb3 (List.mem_of_getElem? (i := 102) rfl)) rfl
theorem qi_X2_take : Cond.instanceMethod yX2_take ∈ TT := TT_of (tb3 (List.mem_of_getElem? (i := 123) rfl)) rfl
theorem qi_X2_forgetFresh : Cond.instanceMethod yX2_forgetFresh ∈ TT := TT_of (tb3 (List.mem_of_getElem? (i := 130) rfl)) rfl
theorem qi_X0_formatJournal : Cond.instanceMethod yX0_formatJournal ∈ TT := TT_of (tb3 (List.mem_of_getElem? (i := 134) rfl)) rfl
theorem qi_X1_eraseJournalPage : Cond.instanceMethod yX1_eraseJournalPage ∈ TT := TT_of (tb3 (List.mem_of_getElem? (i := 137) rfl)) rfl
theorem qi_X1_takePower : Cond.instanceMethod yX1_takePower ∈ TT := TT_of (tb3 (List.mem_of_getElem? (i := 142) rfl)) rfl
theorem qi_X1_write : Cond.instanceMethod yX1_write ∈ TT := TT_of (tb3 (List.mem_of_getElem? (i := 152) rfl)) rfl
theorem qi_X0_note : Cond.instanceMethod yX0_note ∈ TT := TT_of (tb3 (List.mem_of_getElem? (i := 158) rfl)) rfl
theorem qi_X3_note : Cond.instanceMethod yX3_note ∈ TT := TT_of (tb3 (List.mem_of_getElem? (i := 161) rfl)) rfl
theorem qi_X0_losePower : Cond.instanceMethod yX0_losePower ∈ TT := TT_of (tb3 (List.mem_of_getElem? (i := 166) rfl)) rfl
theorem qi_X0_canStart : Cond.instanceMethod yX0_canStart ∈ TT := TT_of (tb3 (List.mem_of_getElem? (i := 169) rfl)) rfl
theorem qi_X2_isBad : Cond.instanceMethod yX2_isBad ∈ TT := TT_of (tb3 (List.mem_of_getElem? (i := 174) rfl)) rfl
theorem qi_X0_appendRecord : Cond.instanceMethod yX0_appendRecord ∈ TT := TT_of (tb3 (List.mem_of_getElem? (i := 179) rfl)) rfl
theorem qi_X0_moveRecords : Cond.instanceMethod yX0_moveRecords ∈ TT := TT_of (tb3 (List.mem_of_getElem? (i := 183) rfl)) rfl
theorem qi_X0_gatherRecords : Cond.instanceMethod yX0_gatherRecords ∈ TT := TT_of (tb3 (List.mem_of_getElem? (i := 187) rfl)) rfl
theorem qi_X0_noteRecord : Cond.instanceMethod yX0_noteRecord ∈ TT := TT_of (tb3 (List.mem_of_getElem? (i := 191) rfl)) rfl
theorem qi_X0_run : Cond.instanceMethod yX0_run ∈ TT := TT_of (tb3 (List.mem_of_getElem? (i := 195) rfl)) rfl
theorem qi_X0_waitForRecovery : Cond.instanceMethod yX0_waitForRecovery ∈ TT := TT_of (tb3 (List.mem_of_getElem? (i := 199) rfl)) rfl
theorem qi_X6_confirm : Cond.instanceMethod yX6_confirm ∈ TT := TT_of (tb3 (List.mem_of_getElem? (i := 202) rfl)) rfl
theorem qi_X0_confirmRunning : Cond.instanceMethod yX0_confirmRunning ∈ TT := TT_of (tb3 (List.mem_of_getElem? (i := 206) rfl)) rfl
theorem qi_X6_update : Cond.instanceMethod yX6_update ∈ TT := TT_of (tb3 (List.mem_of_getElem? (i := 210) rfl)) rfl
theorem qi_X0_updateOther : Cond.instanceMethod yX0_updateOther ∈ TT := TT_of (tb3 (List.mem_of_getElem? (i := 217) rfl)) rfl
theorem qi_X0_runsGoodSlot : Cond.instanceMethod yX0_runsGoodSlot ∈ TT := TT_of (tb3 (List.mem_of_getElem? (i := 222) rfl)) rfl
theorem qi_X1_writeImage : Cond.instanceMethod yX1_writeImage ∈ TT := TT_of (tb3 (List.mem_of_getElem? (i := 225) rfl)) rfl
theorem qi_X1_mustErase : Cond.instanceMethod yX1_mustErase ∈ TT := TT_of (tb3 (List.mem_of_getElem? (i := 229) rfl)) rfl
theorem qi_X1_eraseSlotPage : Cond.instanceMethod yX1_eraseSlotPage ∈ TT := TT_of (tb3 (List.mem_of_getElem? (i := 235) rfl)) rfl
theorem qi_X6_thriftyUpdate : Cond.instanceMethod yX6_thriftyUpdate ∈ TT := TT_of (tb4 (List.mem_of_getElem? (i := 1) rfl)) rfl
theorem qi_X6_mirror : Cond.instanceMethod yX6_mirror ∈ TT := TT_of (tb4 (List.mem_of_getElem? (i := 5) rfl)) rfl
theorem qi_X0_mirrorRunning : Cond.instanceMethod yX0_mirrorRunning ∈ TT := TT_of (tb4 (List.mem_of_getElem? (i := 9) rfl)) rfl
theorem qi_X6_moveJournal : Cond.instanceMethod yX6_moveJournal ∈ TT := TT_of (tb4 (List.mem_of_getElem? (i := 13) rfl)) rfl
theorem qi_X0_moveByHand : Cond.instanceMethod yX0_moveByHand ∈ TT := TT_of (tb4 (List.mem_of_getElem? (i := 17) rfl)) rfl
theorem qi_X6_recover : Cond.instanceMethod yX6_recover ∈ TT := TT_of (tb4 (List.mem_of_getElem? (i := 21) rfl)) rfl
theorem qi_X0_recoverSlot : Cond.instanceMethod yX0_recoverSlot ∈ TT := TT_of (tb4 (List.mem_of_getElem? (i := 28) rfl)) rfl
theorem qi_X6_setPower : Cond.instanceMethod yX6_setPower ∈ TT := TT_of (tb4 (List.mem_of_getElem? (i := 32) rfl)) rfl
theorem qi_X6_off : Cond.instanceMethod yX6_off ∈ TT := TT_of (tb4 (List.mem_of_getElem? (i := 37) rfl)) rfl
theorem qi_X6_damage : Cond.instanceMethod yX6_damage ∈ TT := TT_of (tb4 (List.mem_of_getElem? (i := 42) rfl)) rfl
theorem qi_X1_loseBits : Cond.instanceMethod yX1_loseBits ∈ TT := TT_of (tb4 (List.mem_of_getElem? (i := 65) rfl)) rfl
theorem qi_X6_damageJournal : Cond.instanceMethod yX6_damageJournal ∈ TT := TT_of (tb4 (List.mem_of_getElem? (i := 75) rfl)) rfl
theorem qi_X6_recordCount : Cond.instanceMethod yX6_recordCount ∈ TT := TT_of (tb4 (List.mem_of_getElem? (i := 83) rfl)) rfl
theorem qi_X6_readLedger : Cond.instanceMethod yX6_readLedger ∈ TT := TT_of (tb4 (List.mem_of_getElem? (i := 88) rfl)) rfl
theorem qi_X6_record : Cond.instanceMethod yX6_record ∈ TT := TT_of (tb4 (List.mem_of_getElem? (i := 92) rfl)) rfl
theorem qi_X2_placeOf : Cond.instanceMethod yX2_placeOf ∈ TT := TT_of (tb4 (List.mem_of_getElem? (i := 96) rfl)) rfl
theorem qi_X6_activePage : Cond.instanceMethod yX6_activePage ∈ TT := TT_of (tb4 (List.mem_of_getElem? (i := 102) rfl)) rfl
theorem qi_X6_freeWords : Cond.instanceMethod yX6_freeWords ∈ TT := TT_of (tb4 (List.mem_of_getElem? (i := 106) rfl)) rfl
theorem qi_X6_recordsLeft : Cond.instanceMethod yX6_recordsLeft ∈ TT := TT_of (tb4 (List.mem_of_getElem? (i := 110) rfl)) rfl
theorem qi_X6_generation : Cond.instanceMethod yX6_generation ∈ TT := TT_of (tb4 (List.mem_of_getElem? (i := 114) rfl)) rfl
theorem qi_X6_spoiled : Cond.instanceMethod yX6_spoiled ∈ TT := TT_of (tb4 (List.mem_of_getElem? (i := 118) rfl)) rfl
theorem qi_X6_eventCount : Cond.instanceMethod yX6_eventCount ∈ TT := TT_of (tb4 (List.mem_of_getElem? (i := 122) rfl)) rfl
theorem qi_X6_mostWorn : Cond.instanceMethod yX6_mostWorn ∈ TT := TT_of (tb4 (List.mem_of_getElem? (i := 126) rfl)) rfl
theorem qi_X1_pagesOf : Cond.instanceMethod yX1_pagesOf ∈ TT := TT_of (tb4 (List.mem_of_getElem? (i := 130) rfl)) rfl
theorem qi_X6_wear : Cond.instanceMethod yX6_wear ∈ TT := TT_of (tb4 (List.mem_of_getElem? (i := 134) rfl)) rfl
theorem qi_X6_isBootable : Cond.instanceMethod yX6_isBootable ∈ TT := TT_of (tb4 (List.mem_of_getElem? (i := 138) rfl)) rfl
theorem qi_X6_isWhole : Cond.instanceMethod yX6_isWhole ∈ TT := TT_of (tb4 (List.mem_of_getElem? (i := 143) rfl)) rfl
theorem qi_X6_checksum : Cond.instanceMethod yX6_checksum ∈ TT := TT_of (tb4 (List.mem_of_getElem? (i := 147) rfl)) rfl
theorem qi_X6_word : Cond.instanceMethod yX6_word ∈ TT := TT_of (tb4 (List.mem_of_getElem? (i := 152) rfl)) rfl
theorem qi_X6_differentWords : Cond.instanceMethod yX6_differentWords ∈ TT := TT_of (tb4 (List.mem_of_getElem? (i := 156) rfl)) rfl
theorem qi_X6_logSize : Cond.instanceMethod yX6_logSize ∈ TT := TT_of (tb4 (List.mem_of_getElem? (i := 163) rfl)) rfl
theorem qi_X3_size : Cond.instanceMethod yX3_size ∈ TT := TT_of (tb4 (List.mem_of_getElem? (i := 167) rfl)) rfl
theorem qi_X6_running : Cond.instanceMethod yX6_running ∈ TT := TT_of (tb4 (List.mem_of_getElem? (i := 173) rfl)) rfl
theorem qi_X6_state : Cond.instanceMethod yX6_state ∈ TT := TT_of (tb4 (List.mem_of_getElem? (i := 177) rfl)) rfl
theorem qi_X6_operations : Cond.instanceMethod yX6_operations ∈ TT := TT_of (tb4 (List.mem_of_getElem? (i := 187) rfl)) rfl
theorem qi_X6_power : Cond.instanceMethod yX6_power ∈ TT := TT_of (tb4 (List.mem_of_getElem? (i := 194) rfl)) rfl
theorem qi_X6_setting : Cond.instanceMethod yX6_setting ∈ TT := TT_of (tb4 (List.mem_of_getElem? (i := 198) rfl)) rfl
theorem qi_X6_journalWord : Cond.instanceMethod yX6_journalWord ∈ TT := TT_of (tb4 (List.mem_of_getElem? (i := 202) rfl)) rfl
theorem qi_X6_bootWould : Cond.instanceMethod yX6_bootWould ∈ TT := TT_of (tb4 (List.mem_of_getElem? (i := 206) rfl)) rfl
theorem qi_X6_prepareTrial : Cond.instanceMethod yX6_prepareTrial ∈ TT := TT_of (tb4 (List.mem_of_getElem? (i := 211) rfl)) rfl
theorem qi_X0_copyFrom : Cond.instanceMethod yX0_copyFrom ∈ TT := TT_of (tb4 (List.mem_of_getElem? (i := 214) rfl)) rfl
theorem qi_X1_copyFrom : Cond.instanceMethod yX1_copyFrom ∈ TT := TT_of (tb4 (List.mem_of_getElem? (i := 218) rfl)) rfl
theorem qi_X3_copyFrom : Cond.instanceMethod yX3_copyFrom ∈ TT := TT_of (tb4 (List.mem_of_getElem? (i := 222) rfl)) rfl
theorem qi_X6_bootOperations : Cond.instanceMethod yX6_bootOperations ∈ TT := TT_of (tb4 (List.mem_of_getElem? (i := 228) rfl)) rfl
theorem qi_X6_firstBootCut : Cond.instanceMethod yX6_firstBootCut ∈ TT := TT_of (tb4 (List.mem_of_getElem? (i := 232) rfl)) rfl
theorem qi_X6_bootsToRollback : Cond.instanceMethod yX6_bootsToRollback ∈ TT := TT_of (tb4 (List.mem_of_getElem? (i := 236) rfl)) rfl
theorem qi_X6_saveSnapshot : Cond.instanceMethod yX6_saveSnapshot ∈ TT := TT_of (tb5 (List.mem_of_getElem? (i := 0) rfl)) rfl
theorem qi_X6_restoreSnapshot : Cond.instanceMethod yX6_restoreSnapshot ∈ TT := TT_of (tb5 (List.mem_of_getElem? (i := 4) rfl)) rfl
theorem qi_X6_updateOperations : Cond.instanceMethod yX6_updateOperations ∈ TT := TT_of (tb5 (List.mem_of_getElem? (i := 12) rfl)) rfl
theorem qi_X6_slotAfterCut : Cond.instanceMethod yX6_slotAfterCut ∈ TT := TT_of (tb5 (List.mem_of_getElem? (i := 16) rfl)) rfl
theorem qi_X6_bootAfterCut : Cond.instanceMethod yX6_bootAfterCut ∈ TT := TT_of (tb5 (List.mem_of_getElem? (i := 24) rfl)) rfl
theorem qi_X6_thriftyOperations : Cond.instanceMethod yX6_thriftyOperations ∈ TT := TT_of (tb5 (List.mem_of_getElem? (i := 27) rfl)) rfl
theorem qi_X6_firstUnsafeCut : Cond.instanceMethod yX6_firstUnsafeCut ∈ TT := TT_of (tb5 (List.mem_of_getElem? (i := 31) rfl)) rfl
theorem qi_X6_unsafeCut : Cond.instanceMethod yX6_unsafeCut ∈ TT := TT_of (tb5 (List.mem_of_getElem? (i := 36) rfl)) rfl
theorem qi_X6_told : Cond.instanceMethod yX6_told ∈ TT := TT_of (tb5 (List.mem_of_getElem? (i := 39) rfl)) rfl
theorem qi_X2_part : Cond.instanceMethod yX2_part ∈ TT := TT_of (tb5 (List.mem_of_getElem? (i := 43) rfl)) rfl
theorem qi_X6_cutsToNew : Cond.instanceMethod yX6_cutsToNew ∈ TT := TT_of (tb5 (List.mem_of_getElem? (i := 47) rfl)) rfl
theorem qi_X6_longestOldRun : Cond.instanceMethod yX6_longestOldRun ∈ TT := TT_of (tb5 (List.mem_of_getElem? (i := 51) rfl)) rfl
theorem qi_X6_firstUnsafeThriftyCut : Cond.instanceMethod yX6_firstUnsafeThriftyCut ∈ TT := TT_of (tb5 (List.mem_of_getElem? (i := 56) rfl)) rfl
theorem qi_X6_thriftyPages : Cond.instanceMethod yX6_thriftyPages ∈ TT := TT_of (tb5 (List.mem_of_getElem? (i := 60) rfl)) rfl
theorem qi_J4_init_da8c8 : Cond.instanceMethod yJ4_init_da8c8 ∈ TT := TT_of (tb5 (List.mem_of_getElem? (i := 67) rfl)) rfl
theorem qi_J5_init_d00df : Cond.instanceMethod yJ5_init_d00df ∈ TT := TT_of (tb5 (List.mem_of_getElem? (i := 70) rfl)) rfl
theorem qi_J4_append_15ec4 : Cond.instanceMethod yJ4_append_15ec4 ∈ TT := TT_of (tb5 (List.mem_of_getElem? (i := 95) rfl)) rfl
theorem qi_J5_append_cf1ce : Cond.instanceMethod yJ5_append_cf1ce ∈ TT := TT_of (tb5 (List.mem_of_getElem? (i := 99) rfl)) rfl
theorem qi_J5_appendNull_278bc : Cond.instanceMethod yJ5_appendNull_278bc ∈ TT := TT_of (tb5 (List.mem_of_getElem? (i := 103) rfl)) rfl
theorem qi_J5_ensureCapacityInternal_d00df : Cond.instanceMethod yJ5_ensureCapacityInternal_d00df ∈ TT := TT_of (tb5 (List.mem_of_getElem? (i := 107) rfl)) rfl
theorem qi_J5_newCapacity_0f7a4 : Cond.instanceMethod yJ5_newCapacity_0f7a4 ∈ TT := TT_of (tb5 (List.mem_of_getElem? (i := 111) rfl)) rfl
theorem qi_J5_isLatin1_aae02 : Cond.instanceMethod yJ5_isLatin1_aae02 ∈ TT := TT_of (tb5 (List.mem_of_getElem? (i := 135) rfl)) rfl
theorem qi_J5_putStringAt_47b60 : Cond.instanceMethod yJ5_putStringAt_47b60 ∈ TT := TT_of (tb5 (List.mem_of_getElem? (i := 157) rfl)) rfl
theorem qi_J5_inflateIfNeededFor_a7421 : Cond.instanceMethod yJ5_inflateIfNeededFor_a7421 ∈ TT := TT_of (tb5 (List.mem_of_getElem? (i := 161) rfl)) rfl
theorem qi_J5_inflate_da8c8 : Cond.instanceMethod yJ5_inflate_da8c8 ∈ TT := TT_of (tb5 (List.mem_of_getElem? (i := 166) rfl)) rfl
theorem qi_J0_getBytes_840e7 : Cond.instanceMethod yJ0_getBytes_840e7 ∈ TT := TT_of (tb5 (List.mem_of_getElem? (i := 184) rfl)) rfl
theorem qi_J4_append_bf812 : Cond.instanceMethod yJ4_append_bf812 ∈ TT := TT_of (tb5 (List.mem_of_getElem? (i := 190) rfl)) rfl
theorem qi_J5_append_c97b9 : Cond.instanceMethod yJ5_append_c97b9 ∈ TT := TT_of (tb5 (List.mem_of_getElem? (i := 194) rfl)) rfl
theorem qi_J4_toString_0e30d : Cond.instanceMethod yJ4_toString_0e30d ∈ TT := TT_of (tb5 (List.mem_of_getElem? (i := 215) rfl)) rfl
theorem qi_J0_init_81219 : Cond.instanceMethod yJ0_init_81219 ∈ TT := TT_of (tb5 (List.mem_of_getElem? (i := 221) rfl)) rfl
theorem qi_J0_init_db425 : Cond.instanceMethod yJ0_init_db425 ∈ TT := TT_of (tb5 (List.mem_of_getElem? (i := 224) rfl)) rfl
theorem qi_J5_getValue_6d5f1 : Cond.instanceMethod yJ5_getValue_6d5f1 ∈ TT := TT_of (tb5 (List.mem_of_getElem? (i := 228) rfl)) rfl
theorem qi_J5_length_8abf5 : Cond.instanceMethod yJ5_length_8abf5 ∈ TT := TT_of (tb5 (List.mem_of_getElem? (i := 233) rfl)) rfl
theorem qi_J4_length_8abf5 : Cond.instanceMethod yJ4_length_8abf5 ∈ TT := TT_of (tb5 (List.mem_of_getElem? (i := 236) rfl)) rfl
theorem qn_TwinBootLaw : Cond.initialized RL ∈ TT := TT_of (tb1 (List.mem_of_getElem? (i := 0) rfl)) rfl
theorem qn_TwinBoot : Cond.initialized RX6 ∈ TT := TT_of (tb1 (List.mem_of_getElem? (i := 1) rfl)) rfl
theorem qn_TwinBoot_Text : Cond.initialized RX5 ∈ TT := TT_of (tb1 (List.mem_of_getElem? (i := 2) rfl)) rfl
theorem qn_TwinBoot_Plan : Cond.initialized RX4 ∈ TT := TT_of (tb1 (List.mem_of_getElem? (i := 3) rfl)) rfl
theorem qn_java_util_Arrays : Cond.initialized RJ7 ∈ TT := TT_of (tb1 (List.mem_of_getElem? (i := 4) rfl)) rfl
theorem qn_TwinBoot_Device : Cond.initialized RX0 ∈ TT := TT_of (tb1 (List.mem_of_getElem? (i := 5) rfl)) rfl
theorem qn_TwinBoot_Flash : Cond.initialized RX1 ∈ TT := TT_of (tb1 (List.mem_of_getElem? (i := 6) rfl)) rfl
theorem qn_TwinBoot_Log : Cond.initialized RX3 ∈ TT := TT_of (tb1 (List.mem_of_getElem? (i := 7) rfl)) rfl
theorem qn_TwinBoot_Ledger : Cond.initialized RX2 ∈ TT := TT_of (tb1 (List.mem_of_getElem? (i := 8) rfl)) rfl
theorem qn_java_lang_System : Cond.initialized RJ10 ∈ TT := TT_of (tb1 (List.mem_of_getElem? (i := 9) rfl)) rfl
theorem qn_java_lang_Math : Cond.initialized RJ9 ∈ TT := TT_of (tb1 (List.mem_of_getElem? (i := 10) rfl)) rfl
theorem qn_java_lang_AbstractStringBuilder : Cond.initialized RJ5 ∈ TT := TT_of (tb1 (List.mem_of_getElem? (i := 11) rfl)) rfl
theorem qn_java_lang_StringBuilder : Cond.initialized RJ4 ∈ TT := TT_of (tb1 (List.mem_of_getElem? (i := 12) rfl)) rfl
theorem qn_java_lang_String : Cond.initialized RJ0 ∈ TT := TT_of (tb1 (List.mem_of_getElem? (i := 13) rfl)) rfl
theorem qn_java_lang_StringUTF16 : Cond.initialized RJ2 ∈ TT := TT_of (tb1 (List.mem_of_getElem? (i := 14) rfl)) rfl
theorem qn_jdk_internal_util_ArraysSupport : Cond.initialized RJ8 ∈ TT := TT_of (tb1 (List.mem_of_getElem? (i := 15) rfl)) rfl
theorem qn_jdk_internal_util_Preconditions : Cond.initialized RJ3 ∈ TT := TT_of (tb1 (List.mem_of_getElem? (i := 16) rfl)) rfl
theorem qn_java_lang_StringLatin1 : Cond.initialized RJ1 ∈ TT := TT_of (tb1 (List.mem_of_getElem? (i := 17) rfl)) rfl
theorem qn_java_lang_Number : Cond.initialized RJxd2413 ∈ TT := TT_of (tb1 (List.mem_of_getElem? (i := 18) rfl)) rfl
theorem qn_java_lang_Integer : Cond.initialized RJ6 ∈ TT := TT_of (tb1 (List.mem_of_getElem? (i := 19) rfl)) rfl
theorem qn_java_lang_Throwable : Cond.initialized "java/lang/Throwable" ∈ TT := TT_of (tb1 (List.mem_of_getElem? (i := 20) rfl)) rfl
theorem qn_java_lang_Exception : Cond.initialized "java/lang/Exception" ∈ TT := TT_of (tb1 (List.mem_of_getElem? (i := 21) rfl)) rfl
theorem qn_java_lang_RuntimeException : Cond.initialized "java/lang/RuntimeException" ∈ TT := TT_of (tb1 (List.mem_of_getElem? (i := 22) rfl)) rfl
theorem qn_java_lang_IllegalArgumentException : Cond.initialized "java/lang/IllegalArgumentException" ∈ TT := TT_of (tb1 (List.mem_of_getElem? (i := 23) rfl)) rfl
theorem qn_java_lang_IndexOutOfBoundsException : Cond.initialized "java/lang/IndexOutOfBoundsException" ∈ TT := TT_of (tb1 (List.mem_of_getElem? (i := 24) rfl)) rfl
theorem qk_TwinBoot_Plan_44 : Cond.constant RX4 44 (65535 : Int32) ∈ TT := TT_of (tb1 (List.mem_of_getElem? (i := 51) rfl)) rfl
theorem qk_TwinBoot_Flash_62 : Cond.constant RX1 62 (65535 : Int32) ∈ TT := TT_of (tb2 (List.mem_of_getElem? (i := 64) rfl)) rfl
theorem qk_TwinBoot_70 : Cond.constant RX6 70 (65535 : Int32) ∈ TT := TT_of (tb2 (List.mem_of_getElem? (i := 102) rfl)) rfl
theorem qk_TwinBootLaw_7 : Cond.constant RL 7 (100000 : Int32) ∈ TT := TT_of (tb2 (List.mem_of_getElem? (i := 179) rfl)) rfl
theorem qk_TwinBoot_Text_78 : Cond.constant RX5 78 (1000000 : Int32) ∈ TT := TT_of (tb3 (List.mem_of_getElem? (i := 43) rfl)) rfl
theorem qk_TwinBoot_Text_141 : Cond.constant RX5 141 (65535 : Int32) ∈ TT := TT_of (tb3 (List.mem_of_getElem? (i := 68) rfl)) rfl
theorem qk_TwinBoot_Ledger_62 : Cond.constant RX2 62 (65535 : Int32) ∈ TT := TT_of (tb3 (List.mem_of_getElem? (i := 114) rfl)) rfl
theorem qk_TwinBoot_Flash_79 : Cond.constant RX1 79 (65280 : Int32) ∈ TT := TT_of (tb3 (List.mem_of_getElem? (i := 155) rfl)) rfl
theorem qk_TwinBoot_Flash_80 : Cond.constant RX1 80 (65534 : Int32) ∈ TT := TT_of (tb3 (List.mem_of_getElem? (i := 238) rfl)) rfl
theorem qk_TwinBoot_101 : Cond.constant RX6 101 (100000 : Int32) ∈ TT := TT_of (tb4 (List.mem_of_getElem? (i := 35) rfl)) rfl
theorem qk_java_lang_Integer_265 : Cond.constant RJ6 265 (1431655765 : Int32) ∈ TT := TT_of (tb4 (List.mem_of_getElem? (i := 71) rfl)) rfl
theorem qk_java_lang_Integer_266 : Cond.constant RJ6 266 (858993459 : Int32) ∈ TT := TT_of (tb4 (List.mem_of_getElem? (i := 72) rfl)) rfl
theorem qk_java_lang_Integer_267 : Cond.constant RJ6 267 (252645135 : Int32) ∈ TT := TT_of (tb4 (List.mem_of_getElem? (i := 73) rfl)) rfl
theorem qk_TwinBootLaw_75 : Cond.constant RL 75 (65536 : Int32) ∈ TT := TT_of (tb4 (List.mem_of_getElem? (i := 78) rfl)) rfl
theorem qk_java_lang_StringUTF16_20 : Cond.constant RJ2 20 (1073741823 : Int32) ∈ TT := TT_of (tb5 (List.mem_of_getElem? (i := 80) rfl)) rfl
theorem qk_jdk_internal_util_ArraysSupport_200 : Cond.constant RJ8 200 (2147483639 : Int32) ∈ TT := TT_of (tb5 (List.mem_of_getElem? (i := 117) rfl)) rfl
theorem qk_java_lang_AbstractStringBuilder_39 : Cond.constant RJ5 39 (2147483647 : Int32) ∈ TT := TT_of (tb5 (List.mem_of_getElem? (i := 121) rfl)) rfl
theorem ql_TwinBoot_Text_22 : Cond.constantLong RX5 22 (255 : Int64) ∈ TT := TT_of (tb3 (List.mem_of_getElem? (i := 2) rfl)) rfl
theorem ql_TwinBootLaw_82 : Cond.constantLong RL 82 (31 : Int64) ∈ TT := TT_of (tb4 (List.mem_of_getElem? (i := 190) rfl)) rfl
theorem ql_TwinBootLaw_87 : Cond.constantLong RL 87 (7 : Int64) ∈ TT := TT_of (tb4 (List.mem_of_getElem? (i := 191) rfl)) rfl
theorem ql_TwinBootLaw_92 : Cond.constantLong RL 92 (100 : Int64) ∈ TT := TT_of (tb4 (List.mem_of_getElem? (i := 192) rfl)) rfl
theorem qv_X4_clear : Cond.selects RX4 yX4_clear yX4_clear ∈ TT := TT_of (tb1 (List.mem_of_getElem? (i := 49) rfl)) rfl
theorem qv_X0_begin : Cond.selects RX0 yX0_begin yX0_begin ∈ TT := TT_of (tb2 (List.mem_of_getElem? (i := 54) rfl)) rfl
theorem qv_X1_begin : Cond.selects RX1 yX1_begin yX1_begin ∈ TT := TT_of (tb2 (List.mem_of_getElem? (i := 58) rfl)) rfl
theorem qv_X3_clear : Cond.selects RX3 yX3_clear yX3_clear ∈ TT := TT_of (tb2 (List.mem_of_getElem? (i := 70) rfl)) rfl
theorem qv_X0_switchOff : Cond.selects RX0 yX0_switchOff yX0_switchOff ∈ TT := TT_of (tb2 (List.mem_of_getElem? (i := 75) rfl)) rfl
theorem qv_X6_stage : Cond.selects RX6 yX6_stage yX6_stage ∈ TT := TT_of (tb2 (List.mem_of_getElem? (i := 100) rfl)) rfl
theorem qv_X1_room : Cond.selects RX1 yX1_room yX1_room ∈ TT := TT_of (tb2 (List.mem_of_getElem? (i := 174) rfl)) rfl
theorem qv_J0_length_8abf5 : Cond.selects RJ0 yJ0_length_8abf5 yJ0_length_8abf5 ∈ TT := TT_of (tb2 (List.mem_of_getElem? (i := 188) rfl)) rfl
theorem qv_J0_coder_7d493 : Cond.selects RJ0 yJ0_coder_7d493 yJ0_coder_7d493 ∈ TT := TT_of (tb2 (List.mem_of_getElem? (i := 192) rfl)) rfl
theorem qv_J0_charAt_5068e : Cond.selects RJ0 yJ0_charAt_5068e yJ0_charAt_5068e ∈ TT := TT_of (tb2 (List.mem_of_getElem? (i := 198) rfl)) rfl
theorem qv_J0_isLatin1_aae02 : Cond.selects RJ0 yJ0_isLatin1_aae02 yJ0_isLatin1_aae02 ∈ TT := TT_of (tb2 (List.mem_of_getElem? (i := 202) rfl)) rfl
theorem qv_X6_append : Cond.selects RX6 yX6_append yX6_append ∈ TT := TT_of (tb2 (List.mem_of_getElem? (i := 236) rfl)) rfl
theorem qv_X5_add : Cond.selects RX5 yX5_add yX5_add ∈ TT := TT_of (tb3 (List.mem_of_getElem? (i := 0) rfl)) rfl
theorem qv_X6_load : Cond.selects RX6 yX6_load yX6_load ∈ TT := TT_of (tb3 (List.mem_of_getElem? (i := 5) rfl)) rfl
theorem qv_X5_read : Cond.selects RX5 yX5_read yX5_read ∈ TT := TT_of (tb3 (List.mem_of_getElem? (i := 9) rfl)) rfl
theorem qv_X1_holdsImage : Cond.selects RX1 yX1_holdsImage yX1_holdsImage ∈ TT := TT_of (tb3 (List.mem_of_getElem? (i := 82) rfl)) rfl
theorem qv_X1_sumOf : Cond.selects RX1 yX1_sumOf yX1_sumOf ∈ TT := TT_of (tb3 (List.mem_of_getElem? (i := 86) rfl)) rfl
theorem qv_X6_boot : Cond.selects RX6 yX6_boot yX6_boot ∈ TT := TT_of (tb3 (List.mem_of_getElem? (i := 95) rfl)) rfl
theorem qv_X0_startUp : Cond.selects RX0 yX0_startUp yX0_startUp ∈ TT := TT_of (tb3 (List.mem_of_getElem? (i := 99) rfl)) rfl
theorem qv_X2_readFrom : Cond.selects RX2 yX2_readFrom yX2_readFrom ∈ TT := TT_of (tb3 (List.mem_of_getElem? (i := 103) rfl)) rfl
theorem qv_X1_eraseJournalPage : Cond.selects RX1 yX1_eraseJournalPage yX1_eraseJournalPage ∈ TT := TT_of (tb3 (List.mem_of_getElem? (i := 138) rfl)) rfl
theorem qv_X1_write : Cond.selects RX1 yX1_write yX1_write ∈ TT := TT_of (tb3 (List.mem_of_getElem? (i := 153) rfl)) rfl
theorem qv_X3_note : Cond.selects RX3 yX3_note yX3_note ∈ TT := TT_of (tb3 (List.mem_of_getElem? (i := 162) rfl)) rfl
theorem qv_X0_canStart : Cond.selects RX0 yX0_canStart yX0_canStart ∈ TT := TT_of (tb3 (List.mem_of_getElem? (i := 170) rfl)) rfl
theorem qv_X2_isBad : Cond.selects RX2 yX2_isBad yX2_isBad ∈ TT := TT_of (tb3 (List.mem_of_getElem? (i := 175) rfl)) rfl
theorem qv_X6_confirm : Cond.selects RX6 yX6_confirm yX6_confirm ∈ TT := TT_of (tb3 (List.mem_of_getElem? (i := 203) rfl)) rfl
theorem qv_X0_confirmRunning : Cond.selects RX0 yX0_confirmRunning yX0_confirmRunning ∈ TT := TT_of (tb3 (List.mem_of_getElem? (i := 207) rfl)) rfl
theorem qv_X6_update : Cond.selects RX6 yX6_update yX6_update ∈ TT := TT_of (tb3 (List.mem_of_getElem? (i := 211) rfl)) rfl
theorem qv_X0_updateOther : Cond.selects RX0 yX0_updateOther yX0_updateOther ∈ TT := TT_of (tb3 (List.mem_of_getElem? (i := 218) rfl)) rfl
theorem qv_X1_writeImage : Cond.selects RX1 yX1_writeImage yX1_writeImage ∈ TT := TT_of (tb3 (List.mem_of_getElem? (i := 226) rfl)) rfl
theorem qv_X1_mustErase : Cond.selects RX1 yX1_mustErase yX1_mustErase ∈ TT := TT_of (tb3 (List.mem_of_getElem? (i := 230) rfl)) rfl
theorem qv_X1_eraseSlotPage : Cond.selects RX1 yX1_eraseSlotPage yX1_eraseSlotPage ∈ TT := TT_of (tb3 (List.mem_of_getElem? (i := 236) rfl)) rfl
theorem qv_X6_thriftyUpdate : Cond.selects RX6 yX6_thriftyUpdate yX6_thriftyUpdate ∈ TT := TT_of (tb4 (List.mem_of_getElem? (i := 2) rfl)) rfl
theorem qv_X6_mirror : Cond.selects RX6 yX6_mirror yX6_mirror ∈ TT := TT_of (tb4 (List.mem_of_getElem? (i := 6) rfl)) rfl
theorem qv_X0_mirrorRunning : Cond.selects RX0 yX0_mirrorRunning yX0_mirrorRunning ∈ TT := TT_of (tb4 (List.mem_of_getElem? (i := 10) rfl)) rfl
theorem qv_X6_moveJournal : Cond.selects RX6 yX6_moveJournal yX6_moveJournal ∈ TT := TT_of (tb4 (List.mem_of_getElem? (i := 14) rfl)) rfl
theorem qv_X0_moveByHand : Cond.selects RX0 yX0_moveByHand yX0_moveByHand ∈ TT := TT_of (tb4 (List.mem_of_getElem? (i := 18) rfl)) rfl
theorem qv_X6_recover : Cond.selects RX6 yX6_recover yX6_recover ∈ TT := TT_of (tb4 (List.mem_of_getElem? (i := 22) rfl)) rfl
theorem qv_X0_recoverSlot : Cond.selects RX0 yX0_recoverSlot yX0_recoverSlot ∈ TT := TT_of (tb4 (List.mem_of_getElem? (i := 29) rfl)) rfl
theorem qv_X6_setPower : Cond.selects RX6 yX6_setPower yX6_setPower ∈ TT := TT_of (tb4 (List.mem_of_getElem? (i := 33) rfl)) rfl
theorem qv_X6_off : Cond.selects RX6 yX6_off yX6_off ∈ TT := TT_of (tb4 (List.mem_of_getElem? (i := 38) rfl)) rfl
theorem qv_X6_damage : Cond.selects RX6 yX6_damage yX6_damage ∈ TT := TT_of (tb4 (List.mem_of_getElem? (i := 43) rfl)) rfl
theorem qv_X1_loseBits : Cond.selects RX1 yX1_loseBits yX1_loseBits ∈ TT := TT_of (tb4 (List.mem_of_getElem? (i := 66) rfl)) rfl
theorem qv_X6_damageJournal : Cond.selects RX6 yX6_damageJournal yX6_damageJournal ∈ TT := TT_of (tb4 (List.mem_of_getElem? (i := 76) rfl)) rfl
theorem qv_X6_recordCount : Cond.selects RX6 yX6_recordCount yX6_recordCount ∈ TT := TT_of (tb4 (List.mem_of_getElem? (i := 84) rfl)) rfl
theorem qv_X6_record : Cond.selects RX6 yX6_record yX6_record ∈ TT := TT_of (tb4 (List.mem_of_getElem? (i := 93) rfl)) rfl
theorem qv_X2_placeOf : Cond.selects RX2 yX2_placeOf yX2_placeOf ∈ TT := TT_of (tb4 (List.mem_of_getElem? (i := 97) rfl)) rfl
theorem qv_X6_activePage : Cond.selects RX6 yX6_activePage yX6_activePage ∈ TT := TT_of (tb4 (List.mem_of_getElem? (i := 103) rfl)) rfl
theorem qv_X6_freeWords : Cond.selects RX6 yX6_freeWords yX6_freeWords ∈ TT := TT_of (tb4 (List.mem_of_getElem? (i := 107) rfl)) rfl
theorem qv_X6_recordsLeft : Cond.selects RX6 yX6_recordsLeft yX6_recordsLeft ∈ TT := TT_of (tb4 (List.mem_of_getElem? (i := 111) rfl)) rfl
theorem qv_X6_generation : Cond.selects RX6 yX6_generation yX6_generation ∈ TT := TT_of (tb4 (List.mem_of_getElem? (i := 115) rfl)) rfl
theorem qv_X6_spoiled : Cond.selects RX6 yX6_spoiled yX6_spoiled ∈ TT := TT_of (tb4 (List.mem_of_getElem? (i := 119) rfl)) rfl
theorem qv_X6_eventCount : Cond.selects RX6 yX6_eventCount yX6_eventCount ∈ TT := TT_of (tb4 (List.mem_of_getElem? (i := 123) rfl)) rfl
theorem qv_X6_mostWorn : Cond.selects RX6 yX6_mostWorn yX6_mostWorn ∈ TT := TT_of (tb4 (List.mem_of_getElem? (i := 127) rfl)) rfl
theorem qv_X1_pagesOf : Cond.selects RX1 yX1_pagesOf yX1_pagesOf ∈ TT := TT_of (tb4 (List.mem_of_getElem? (i := 131) rfl)) rfl
theorem qv_X6_wear : Cond.selects RX6 yX6_wear yX6_wear ∈ TT := TT_of (tb4 (List.mem_of_getElem? (i := 135) rfl)) rfl
theorem qv_X6_isBootable : Cond.selects RX6 yX6_isBootable yX6_isBootable ∈ TT := TT_of (tb4 (List.mem_of_getElem? (i := 139) rfl)) rfl
theorem qv_X6_isWhole : Cond.selects RX6 yX6_isWhole yX6_isWhole ∈ TT := TT_of (tb4 (List.mem_of_getElem? (i := 144) rfl)) rfl
theorem qv_X6_checksum : Cond.selects RX6 yX6_checksum yX6_checksum ∈ TT := TT_of (tb4 (List.mem_of_getElem? (i := 148) rfl)) rfl
theorem qv_X6_word : Cond.selects RX6 yX6_word yX6_word ∈ TT := TT_of (tb4 (List.mem_of_getElem? (i := 153) rfl)) rfl
theorem qv_X6_differentWords : Cond.selects RX6 yX6_differentWords yX6_differentWords ∈ TT := TT_of (tb4 (List.mem_of_getElem? (i := 157) rfl)) rfl
theorem qv_X6_logSize : Cond.selects RX6 yX6_logSize yX6_logSize ∈ TT := TT_of (tb4 (List.mem_of_getElem? (i := 164) rfl)) rfl
theorem qv_X3_size : Cond.selects RX3 yX3_size yX3_size ∈ TT := TT_of (tb4 (List.mem_of_getElem? (i := 168) rfl)) rfl
theorem qv_X6_running : Cond.selects RX6 yX6_running yX6_running ∈ TT := TT_of (tb4 (List.mem_of_getElem? (i := 174) rfl)) rfl
theorem qv_X6_state : Cond.selects RX6 yX6_state yX6_state ∈ TT := TT_of (tb4 (List.mem_of_getElem? (i := 178) rfl)) rfl
theorem qv_X6_operations : Cond.selects RX6 yX6_operations yX6_operations ∈ TT := TT_of (tb4 (List.mem_of_getElem? (i := 188) rfl)) rfl
theorem qv_X6_power : Cond.selects RX6 yX6_power yX6_power ∈ TT := TT_of (tb4 (List.mem_of_getElem? (i := 195) rfl)) rfl
theorem qv_X6_setting : Cond.selects RX6 yX6_setting yX6_setting ∈ TT := TT_of (tb4 (List.mem_of_getElem? (i := 199) rfl)) rfl
theorem qv_X6_journalWord : Cond.selects RX6 yX6_journalWord yX6_journalWord ∈ TT := TT_of (tb4 (List.mem_of_getElem? (i := 203) rfl)) rfl
theorem qv_X6_bootWould : Cond.selects RX6 yX6_bootWould yX6_bootWould ∈ TT := TT_of (tb4 (List.mem_of_getElem? (i := 207) rfl)) rfl
theorem qv_X0_copyFrom : Cond.selects RX0 yX0_copyFrom yX0_copyFrom ∈ TT := TT_of (tb4 (List.mem_of_getElem? (i := 215) rfl)) rfl
theorem qv_X1_copyFrom : Cond.selects RX1 yX1_copyFrom yX1_copyFrom ∈ TT := TT_of (tb4 (List.mem_of_getElem? (i := 219) rfl)) rfl
theorem qv_X3_copyFrom : Cond.selects RX3 yX3_copyFrom yX3_copyFrom ∈ TT := TT_of (tb4 (List.mem_of_getElem? (i := 223) rfl)) rfl
theorem qv_X6_bootOperations : Cond.selects RX6 yX6_bootOperations yX6_bootOperations ∈ TT := TT_of (tb4 (List.mem_of_getElem? (i := 229) rfl)) rfl
theorem qv_X6_firstBootCut : Cond.selects RX6 yX6_firstBootCut yX6_firstBootCut ∈ TT := TT_of (tb4 (List.mem_of_getElem? (i := 233) rfl)) rfl
theorem qv_X6_bootsToRollback : Cond.selects RX6 yX6_bootsToRollback yX6_bootsToRollback ∈ TT := TT_of (tb4 (List.mem_of_getElem? (i := 237) rfl)) rfl
theorem qv_X6_saveSnapshot : Cond.selects RX6 yX6_saveSnapshot yX6_saveSnapshot ∈ TT := TT_of (tb5 (List.mem_of_getElem? (i := 1) rfl)) rfl
theorem qv_X6_restoreSnapshot : Cond.selects RX6 yX6_restoreSnapshot yX6_restoreSnapshot ∈ TT := TT_of (tb5 (List.mem_of_getElem? (i := 5) rfl)) rfl
theorem qv_X6_updateOperations : Cond.selects RX6 yX6_updateOperations yX6_updateOperations ∈ TT := TT_of (tb5 (List.mem_of_getElem? (i := 13) rfl)) rfl
theorem qv_X6_slotAfterCut : Cond.selects RX6 yX6_slotAfterCut yX6_slotAfterCut ∈ TT := TT_of (tb5 (List.mem_of_getElem? (i := 17) rfl)) rfl
theorem qv_X6_thriftyOperations : Cond.selects RX6 yX6_thriftyOperations yX6_thriftyOperations ∈ TT := TT_of (tb5 (List.mem_of_getElem? (i := 28) rfl)) rfl
theorem qv_X6_firstUnsafeCut : Cond.selects RX6 yX6_firstUnsafeCut yX6_firstUnsafeCut ∈ TT := TT_of (tb5 (List.mem_of_getElem? (i := 32) rfl)) rfl
theorem qv_X6_told : Cond.selects RX6 yX6_told yX6_told ∈ TT := TT_of (tb5 (List.mem_of_getElem? (i := 40) rfl)) rfl
theorem qv_X2_part : Cond.selects RX2 yX2_part yX2_part ∈ TT := TT_of (tb5 (List.mem_of_getElem? (i := 44) rfl)) rfl
theorem qv_X6_cutsToNew : Cond.selects RX6 yX6_cutsToNew yX6_cutsToNew ∈ TT := TT_of (tb5 (List.mem_of_getElem? (i := 48) rfl)) rfl
theorem qv_X6_longestOldRun : Cond.selects RX6 yX6_longestOldRun yX6_longestOldRun ∈ TT := TT_of (tb5 (List.mem_of_getElem? (i := 52) rfl)) rfl
theorem qv_X6_firstUnsafeThriftyCut : Cond.selects RX6 yX6_firstUnsafeThriftyCut yX6_firstUnsafeThriftyCut ∈ TT := TT_of (tb5 (List.mem_of_getElem? (i := 57) rfl)) rfl
theorem qv_X6_thriftyPages : Cond.selects RX6 yX6_thriftyPages yX6_thriftyPages ∈ TT := TT_of (tb5 (List.mem_of_getElem? (i := 61) rfl)) rfl
theorem qv_J4_append_15ec4 : Cond.selects RJ4 yJ4_append_15ec4 yJ4_append_15ec4 ∈ TT := TT_of (tb5 (List.mem_of_getElem? (i := 96) rfl)) rfl
theorem qv_J5_isLatin1_aae02 : Cond.selects RJ4 yJ5_isLatin1_aae02 yJ5_isLatin1_aae02 ∈ TT := TT_of (tb5 (List.mem_of_getElem? (i := 137) rfl)) rfl
theorem qv_J0_getBytes_840e7 : Cond.selects RJ0 yJ0_getBytes_840e7 yJ0_getBytes_840e7 ∈ TT := TT_of (tb5 (List.mem_of_getElem? (i := 185) rfl)) rfl
theorem qv_J4_append_bf812 : Cond.selects RJ4 yJ4_append_bf812 yJ4_append_bf812 ∈ TT := TT_of (tb5 (List.mem_of_getElem? (i := 191) rfl)) rfl
theorem qv_J4_toString_0e30d : Cond.selects RJ4 yJ4_toString_0e30d yJ4_toString_0e30d ∈ TT := TT_of (tb5 (List.mem_of_getElem? (i := 216) rfl)) rfl
theorem qv_J5_getValue_6d5f1 : Cond.selects RJ4 yJ5_getValue_6d5f1 yJ5_getValue_6d5f1 ∈ TT := TT_of (tb5 (List.mem_of_getElem? (i := 230) rfl)) rfl
theorem qv_X5_readFlash : Cond.selects RX5 yX5_readFlash yX5_readFlash ∈ TT := TT_sel (q := (yX5_readFlash, 8)) (show _ ∈ lw_privs from (List.mem_append_left _ (List.mem_of_getElem? (i := 1) rfl)))
theorem qv_X5_passWord : Cond.selects RX5 yX5_passWord yX5_passWord ∈ TT := TT_sel (q := (yX5_passWord, 8)) (show _ ∈ lw_privs from (List.mem_append_left _ (List.mem_of_getElem? (i := 2) rfl)))
theorem qv_X5_skipSpaces : Cond.selects RX5 yX5_skipSpaces yX5_skipSpaces ∈ TT := TT_sel (q := (yX5_skipSpaces, 8)) (show _ ∈ lw_privs from (List.mem_append_left _ (List.mem_of_getElem? (i := 3) rfl)))
theorem qv_X5_isWord : Cond.selects RX5 yX5_isWord yX5_isWord ∈ TT := TT_sel (q := (yX5_isWord, 8)) (show _ ∈ lw_privs from (List.mem_append_left _ (List.mem_of_getElem? (i := 4) rfl)))
theorem qv_X5_fail : Cond.selects RX5 yX5_fail yX5_fail ∈ TT := TT_sel (q := (yX5_fail, 8)) (show _ ∈ lw_privs from (List.mem_append_left _ (List.mem_of_getElem? (i := 5) rfl)))
theorem qv_X5_readNumber : Cond.selects RX5 yX5_readNumber yX5_readNumber ∈ TT := TT_sel (q := (yX5_readNumber, 8)) (show _ ∈ lw_privs from (List.mem_append_left _ (List.mem_of_getElem? (i := 6) rfl)))
theorem qv_X5_isAtDigit : Cond.selects RX5 yX5_isAtDigit yX5_isAtDigit ∈ TT := TT_sel (q := (yX5_isAtDigit, 8)) (show _ ∈ lw_privs from (List.mem_append_left _ (List.mem_of_getElem? (i := 7) rfl)))
theorem qv_X5_isAtEnd : Cond.selects RX5 yX5_isAtEnd yX5_isAtEnd ∈ TT := TT_sel (q := (yX5_isAtEnd, 8)) (show _ ∈ lw_privs from (List.mem_append_left _ (List.mem_of_getElem? (i := 8) rfl)))
theorem qv_X5_readSemicolon : Cond.selects RX5 yX5_readSemicolon yX5_readSemicolon ∈ TT := TT_sel (q := (yX5_readSemicolon, 8)) (show _ ∈ lw_privs from (List.mem_append_left _ (List.mem_of_getElem? (i := 9) rfl)))
theorem qv_X5_readStatement : Cond.selects RX5 yX5_readStatement yX5_readStatement ∈ TT := TT_sel (q := (yX5_readStatement, 8)) (show _ ∈ lw_privs from (List.mem_append_left _ (List.mem_of_getElem? (i := 10) rfl)))
theorem qv_X5_readImage : Cond.selects RX5 yX5_readImage yX5_readImage ∈ TT := TT_sel (q := (yX5_readImage, 8)) (show _ ∈ lw_privs from (List.mem_append_left _ (List.mem_of_getElem? (i := 11) rfl)))
theorem qv_X5_claim : Cond.selects RX5 yX5_claim yX5_claim ∈ TT := TT_sel (q := (yX5_claim, 8)) (show _ ∈ lw_privs from (List.mem_append_left _ (List.mem_of_getElem? (i := 12) rfl)))
theorem qv_X5_readOnce : Cond.selects RX5 yX5_readOnce yX5_readOnce ∈ TT := TT_sel (q := (yX5_readOnce, 8)) (show _ ∈ lw_privs from (List.mem_append_left _ (List.mem_of_getElem? (i := 13) rfl)))
theorem qv_X2_take : Cond.selects RX2 yX2_take yX2_take ∈ TT := TT_sel (q := (yX2_take, 10)) (show _ ∈ lw_privs from (List.mem_append_left _ (List.mem_of_getElem? (i := 14) rfl)))
theorem qv_X2_forgetFresh : Cond.selects RX2 yX2_forgetFresh yX2_forgetFresh ∈ TT := TT_sel (q := (yX2_forgetFresh, 10)) (show _ ∈ lw_privs from (List.mem_append_left _ (List.mem_of_getElem? (i := 15) rfl)))
theorem qv_X0_formatJournal : Cond.selects RX0 yX0_formatJournal yX0_formatJournal ∈ TT := TT_sel (q := (yX0_formatJournal, 9)) (show _ ∈ lw_privs from (List.mem_append_right _ (List.mem_of_getElem? (i := 0) rfl)))
theorem qv_X1_takePower : Cond.selects RX1 yX1_takePower yX1_takePower ∈ TT := TT_sel (q := (yX1_takePower, 9)) (show _ ∈ lw_privs from (List.mem_append_right _ (List.mem_of_getElem? (i := 1) rfl)))
theorem qv_X0_note : Cond.selects RX0 yX0_note yX0_note ∈ TT := TT_sel (q := (yX0_note, 9)) (show _ ∈ lw_privs from (List.mem_append_right _ (List.mem_of_getElem? (i := 2) rfl)))
theorem qv_X0_losePower : Cond.selects RX0 yX0_losePower yX0_losePower ∈ TT := TT_sel (q := (yX0_losePower, 9)) (show _ ∈ lw_privs from (List.mem_append_right _ (List.mem_of_getElem? (i := 3) rfl)))
theorem qv_X0_appendRecord : Cond.selects RX0 yX0_appendRecord yX0_appendRecord ∈ TT := TT_sel (q := (yX0_appendRecord, 9)) (show _ ∈ lw_privs from (List.mem_append_right _ (List.mem_of_getElem? (i := 4) rfl)))
theorem qv_X0_moveRecords : Cond.selects RX0 yX0_moveRecords yX0_moveRecords ∈ TT := TT_sel (q := (yX0_moveRecords, 9)) (show _ ∈ lw_privs from (List.mem_append_right _ (List.mem_of_getElem? (i := 5) rfl)))
theorem qv_X0_gatherRecords : Cond.selects RX0 yX0_gatherRecords yX0_gatherRecords ∈ TT := TT_sel (q := (yX0_gatherRecords, 9)) (show _ ∈ lw_privs from (List.mem_append_right _ (List.mem_of_getElem? (i := 6) rfl)))
theorem qv_X0_noteRecord : Cond.selects RX0 yX0_noteRecord yX0_noteRecord ∈ TT := TT_sel (q := (yX0_noteRecord, 9)) (show _ ∈ lw_privs from (List.mem_append_right _ (List.mem_of_getElem? (i := 7) rfl)))
theorem qv_X0_run : Cond.selects RX0 yX0_run yX0_run ∈ TT := TT_sel (q := (yX0_run, 9)) (show _ ∈ lw_privs from (List.mem_append_right _ (List.mem_of_getElem? (i := 8) rfl)))
theorem qv_X0_waitForRecovery : Cond.selects RX0 yX0_waitForRecovery yX0_waitForRecovery ∈ TT := TT_sel (q := (yX0_waitForRecovery, 9)) (show _ ∈ lw_privs from (List.mem_append_right _ (List.mem_of_getElem? (i := 9) rfl)))
theorem qv_X0_runsGoodSlot : Cond.selects RX0 yX0_runsGoodSlot yX0_runsGoodSlot ∈ TT := TT_sel (q := (yX0_runsGoodSlot, 9)) (show _ ∈ lw_privs from (List.mem_append_right _ (List.mem_of_getElem? (i := 10) rfl)))
theorem qv_X6_readLedger : Cond.selects RX6 yX6_readLedger yX6_readLedger ∈ TT := TT_sel (q := (yX6_readLedger, 6)) (show _ ∈ lw_privs from (List.mem_append_right _ (List.mem_of_getElem? (i := 11) rfl)))
theorem qv_X6_prepareTrial : Cond.selects RX6 yX6_prepareTrial yX6_prepareTrial ∈ TT := TT_sel (q := (yX6_prepareTrial, 6)) (show _ ∈ lw_privs from (List.mem_append_right _ (List.mem_of_getElem? (i := 12) rfl)))
theorem qv_X6_bootAfterCut : Cond.selects RX6 yX6_bootAfterCut yX6_bootAfterCut ∈ TT := TT_sel (q := (yX6_bootAfterCut, 6)) (show _ ∈ lw_privs from (List.mem_append_right _ (List.mem_of_getElem? (i := 13) rfl)))
theorem qv_X6_unsafeCut : Cond.selects RX6 yX6_unsafeCut yX6_unsafeCut ∈ TT := TT_sel (q := (yX6_unsafeCut, 6)) (show _ ∈ lw_privs from (List.mem_append_right _ (List.mem_of_getElem? (i := 14) rfl)))
theorem qm_L_207 : Cond.methodLink RL 207 yX6_init ∈ TT := TT_of (tb1 (List.mem_of_getElem? (i := 27) rfl)) rfl
theorem cw_L_207 : cw RL 207 yX6_init cX6_init 3 none 0 := ⟨qc_X6_init, qm_L_207, qn_TwinBoot, by decide +kernel⟩
theorem qm_X6_1 : Cond.methodLink RX6 1 ⟨"java/lang/Object", "<init>", "()V"⟩ ∈ TT := TT_of (tb1 (List.mem_of_getElem? (i := 30) rfl)) rfl
theorem qm_X5_3 : Cond.methodLink RX5 3 ⟨"java/lang/Object", "<init>", "()V"⟩ ∈ TT := TT_of (tb1 (List.mem_of_getElem? (i := 38) rfl)) rfl
theorem qm_X5_17 : Cond.methodLink RX5 17 yX4_init ∈ TT := TT_of (tb1 (List.mem_of_getElem? (i := 41) rfl)) rfl
theorem cw_X5_17 : cw RX5 17 yX4_init cX4_init 1 none 0 := ⟨qc_X4_init, qm_X5_17, qn_TwinBoot_Plan, by decide +kernel⟩
theorem qm_X4_3 : Cond.methodLink RX4 3 ⟨"java/lang/Object", "<init>", "()V"⟩ ∈ TT := TT_of (tb1 (List.mem_of_getElem? (i := 44) rfl)) rfl
theorem qm_X4_16 : Cond.methodLink RX4 16 yX4_clear ∈ TT := TT_of (tb1 (List.mem_of_getElem? (i := 47) rfl)) rfl
theorem cw_X4_16 : cw RX4 16 yX4_clear cX4_clear 1 none 0 := ⟨qc_X4_clear, qm_X4_16, qn_TwinBoot_Plan, by decide +kernel⟩
theorem qm_X4_45 : Cond.methodLink RX4 45 yJ7_fill_53178 ∈ TT := TT_of (tb1 (List.mem_of_getElem? (i := 52) rfl)) rfl
theorem cw_X4_45 : cw RX4 45 yJ7_fill_53178 cJ7_fill_53178 4 none 2 := ⟨qc_J7_fill_53178, qm_X4_45, qn_java_util_Arrays, by decide +kernel⟩
theorem qm_X0_3 : Cond.methodLink RX0 3 ⟨"java/lang/Object", "<init>", "()V"⟩ ∈ TT := TT_of (tb1 (List.mem_of_getElem? (i := 134) rfl)) rfl
theorem qm_X1_3 : Cond.methodLink RX1 3 ⟨"java/lang/Object", "<init>", "()V"⟩ ∈ TT := TT_of (tb1 (List.mem_of_getElem? (i := 140) rfl)) rfl
theorem qm_X3_3 : Cond.methodLink RX3 3 ⟨"java/lang/Object", "<init>", "()V"⟩ ∈ TT := TT_of (tb1 (List.mem_of_getElem? (i := 189) rfl)) rfl
theorem qm_X2_3 : Cond.methodLink RX2 3 ⟨"java/lang/Object", "<init>", "()V"⟩ ∈ TT := TT_of (tb1 (List.mem_of_getElem? (i := 212) rfl)) rfl
theorem qm_X6_17 : Cond.methodLink RX6 17 yX0_begin ∈ TT := TT_of (tb2 (List.mem_of_getElem? (i := 52) rfl)) rfl
theorem cw_X6_17 : cw RX6 17 yX0_begin cX0_begin 2 none 1 := ⟨qc_X0_begin, qm_X6_17, qn_TwinBoot_Device, by decide +kernel⟩
theorem qm_X0_39 : Cond.methodLink RX0 39 yX1_begin ∈ TT := TT_of (tb2 (List.mem_of_getElem? (i := 56) rfl)) rfl
theorem cw_X0_39 : cw RX0 39 yX1_begin cX1_begin 4 none 1 := ⟨qc_X1_begin, qm_X0_39, qn_TwinBoot_Flash, by decide +kernel⟩
theorem qm_X1_47 : Cond.methodLink RX1 47 yJ7_fill_53178 ∈ TT := TT_of (tb2 (List.mem_of_getElem? (i := 60) rfl)) rfl
theorem cw_X1_47 : cw RX1 47 yJ7_fill_53178 cJ7_fill_53178 4 none 2 := ⟨qc_J7_fill_53178, qm_X1_47, qn_java_util_Arrays, by decide +kernel⟩
theorem qm_X1_56 : Cond.methodLink RX1 56 ⟨"java/lang/System", "arraycopy", "(Ljava/lang/Object;ILjava/lang/Object;II)V"⟩ ∈ TT := TT_of (tb2 (List.mem_of_getElem? (i := 61) rfl)) rfl
theorem qm_X1_63 : Cond.methodLink RX1 63 yX2_wordOf ∈ TT := TT_of (tb2 (List.mem_of_getElem? (i := 65) rfl)) rfl
theorem cw_X1_63 : cw RX1 63 yX2_wordOf cX2_wordOf 2 (some FieldType.int) 2 := ⟨qc_X2_wordOf, qm_X1_63, qn_TwinBoot_Ledger, by decide +kernel⟩
theorem qm_X0_43 : Cond.methodLink RX0 43 yX3_clear ∈ TT := TT_of (tb2 (List.mem_of_getElem? (i := 68) rfl)) rfl
theorem cw_X0_43 : cw RX0 43 yX3_clear cX3_clear 1 none 0 := ⟨qc_X3_clear, qm_X0_43, qn_TwinBoot_Log, by decide +kernel⟩
theorem qm_X3_28 : Cond.methodLink RX3 28 yJ7_fill_53178 ∈ TT := TT_of (tb2 (List.mem_of_getElem? (i := 72) rfl)) rfl
theorem cw_X3_28 : cw RX3 28 yJ7_fill_53178 cJ7_fill_53178 4 none 2 := ⟨qc_J7_fill_53178, qm_X3_28, qn_java_util_Arrays, by decide +kernel⟩
theorem qm_X0_58 : Cond.methodLink RX0 58 yX0_switchOff ∈ TT := TT_of (tb2 (List.mem_of_getElem? (i := 73) rfl)) rfl
theorem cw_X0_58 : cw RX0 58 yX0_switchOff cX0_switchOff 1 none 0 := ⟨qc_X0_switchOff, qm_X0_58, qn_TwinBoot_Device, by decide +kernel⟩
theorem qm_L_76 : Cond.methodLink RL 76 yX6_stage ∈ TT := TT_of (tb2 (List.mem_of_getElem? (i := 98) rfl)) rfl
theorem cw_L_76 : cw RL 76 yX6_stage cX6_stage 2 (some FieldType.int) 1 := ⟨qc_X6_stage, qm_L_76, qn_TwinBoot, by decide +kernel⟩
theorem qm_X6_71 : Cond.methodLink RX6 71 yX6_requireRange ∈ TT := TT_of (tb2 (List.mem_of_getElem? (i := 103) rfl)) rfl
theorem cw_X6_71 : cw RX6 71 yX6_requireRange cX6_requireRange 3 none 3 := ⟨qc_X6_requireRange, qm_X6_71, qn_TwinBoot, by decide +kernel⟩
theorem qm_X6_268 : Cond.methodLink RX6 268 ⟨"java/lang/IllegalArgumentException", "<init>", "(Ljava/lang/String;)V"⟩ ∈ TT := TT_of (tb2 (List.mem_of_getElem? (i := 147) rfl)) rfl
theorem qm_X6_78 : Cond.methodLink RX6 78 yX1_room ∈ TT := TT_of (tb2 (List.mem_of_getElem? (i := 172) rfl)) rfl
theorem cw_X6_78 : cw RX6 78 yX1_room cX1_room 1 (some FieldType.int) 0 := ⟨qc_X1_room, qm_X6_78, qn_TwinBoot_Flash, by decide +kernel⟩
theorem qm_L_33 : Cond.methodLink RL 33 yL_cell ∈ TT := TT_of (tb2 (List.mem_of_getElem? (i := 176) rfl)) rfl
theorem qm_L_8 : Cond.methodLink RL 8 yJ9_abs_0f7a4 ∈ TT := TT_of (tb2 (List.mem_of_getElem? (i := 180) rfl)) rfl
theorem cw_L_8 : cw RL 8 yJ9_abs_0f7a4 cJ9_abs_0f7a4 1 (some FieldType.int) 1 := ⟨qc_J9_abs_0f7a4, qm_L_8, qn_java_lang_Math, by decide +kernel⟩
theorem qm_L_229 : Cond.methodLink RL 229 yL_load ∈ TT := TT_of (tb2 (List.mem_of_getElem? (i := 183) rfl)) rfl
theorem qm_L_14 : Cond.methodLink RL 14 yJ0_length_8abf5 ∈ TT := TT_of (tb2 (List.mem_of_getElem? (i := 186) rfl)) rfl
theorem cw_L_14 : cw RL 14 yJ0_length_8abf5 cJ0_length_8abf5 1 (some FieldType.int) 0 := ⟨qc_J0_length_8abf5, qm_L_14, qn_java_lang_String, by decide +kernel⟩
theorem qm_J0_335 : Cond.methodLink RJ0 335 yJ0_coder_7d493 ∈ TT := TT_of (tb2 (List.mem_of_getElem? (i := 190) rfl)) rfl
theorem cw_J0_335 : cw RJ0 335 yJ0_coder_7d493 cJ0_coder_7d493 1 (some FieldType.byte) 0 := ⟨qc_J0_coder_7d493, qm_J0_335, qn_java_lang_String, by decide +kernel⟩
theorem qm_L_20 : Cond.methodLink RL 20 yJ0_charAt_5068e ∈ TT := TT_of (tb2 (List.mem_of_getElem? (i := 196) rfl)) rfl
theorem cw_L_20 : cw RL 20 yJ0_charAt_5068e cJ0_charAt_5068e 2 (some FieldType.char) 1 := ⟨qc_J0_charAt_5068e, qm_L_20, qn_java_lang_String, by decide +kernel⟩
theorem qm_J0_492 : Cond.methodLink RJ0 492 yJ0_isLatin1_aae02 ∈ TT := TT_of (tb2 (List.mem_of_getElem? (i := 200) rfl)) rfl
theorem cw_J0_492 : cw RJ0 492 yJ0_isLatin1_aae02 cJ0_isLatin1_aae02 1 (some FieldType.boolean) 0 := ⟨qc_J0_isLatin1_aae02, qm_J0_492, qn_java_lang_String, by decide +kernel⟩
theorem qm_J0_495 : Cond.methodLink RJ0 495 yJ1_charAt_3b067 ∈ TT := TT_of (tb2 (List.mem_of_getElem? (i := 204) rfl)) rfl
theorem cw_J0_495 : cw RJ0 495 yJ1_charAt_3b067 cJ1_charAt_3b067 2 (some FieldType.char) 2 := ⟨qc_J1_charAt_3b067, qm_J0_495, qn_java_lang_StringLatin1, by decide +kernel⟩
theorem qm_J1_9 : Cond.methodLink RJ1 9 yJ0_checkIndex_df160 ∈ TT := TT_of (tb2 (List.mem_of_getElem? (i := 207) rfl)) rfl
theorem cw_J1_9 : cw RJ1 9 yJ0_checkIndex_df160 cJ0_checkIndex_df160 2 none 2 := ⟨qc_J0_checkIndex_df160, qm_J1_9, qn_java_lang_String, by decide +kernel⟩
theorem qm_J0_1059 : Cond.methodLink RJ0 1059 yJ3_checkIndex_8e157 ∈ TT := TT_of (tb2 (List.mem_of_getElem? (i := 212) rfl)) rfl
theorem cw_J0_1059 : cw RJ0 1059 yJ3_checkIndex_8e157 cJ3_checkIndex_8e157 3 (some FieldType.int) 3 := ⟨qc_J3_checkIndex_8e157, qm_J0_1059, qn_jdk_internal_util_Preconditions, by decide +kernel⟩
theorem qm_J0_498 : Cond.methodLink RJ0 498 yJ2_charAt_3b067 ∈ TT := TT_of (tb2 (List.mem_of_getElem? (i := 215) rfl)) rfl
theorem cw_J0_498 : cw RJ0 498 yJ2_charAt_3b067 cJ2_charAt_3b067 2 (some FieldType.char) 2 := ⟨qc_J2_charAt_3b067, qm_J0_498, qn_java_lang_StringUTF16, by decide +kernel⟩
theorem qm_J2_67 : Cond.methodLink RJ2 67 yJ2_checkIndex_2214a ∈ TT := TT_of (tb2 (List.mem_of_getElem? (i := 218) rfl)) rfl
theorem cw_J2_67 : cw RJ2 67 yJ2_checkIndex_2214a cJ2_checkIndex_2214a 2 none 2 := ⟨qc_J2_checkIndex_2214a, qm_J2_67, qn_java_lang_StringUTF16, by decide +kernel⟩
theorem qm_J2_48 : Cond.methodLink RJ2 48 yJ2_length_9d52b ∈ TT := TT_of (tb2 (List.mem_of_getElem? (i := 221) rfl)) rfl
theorem cw_J2_48 : cw RJ2 48 yJ2_length_9d52b cJ2_length_9d52b 1 (some FieldType.int) 1 := ⟨qc_J2_length_9d52b, qm_J2_48, qn_java_lang_StringUTF16, by decide +kernel⟩
theorem qm_J2_414 : Cond.methodLink RJ2 414 yJ0_checkIndex_df160 ∈ TT := TT_of (tb2 (List.mem_of_getElem? (i := 224) rfl)) rfl
theorem cw_J2_414 : cw RJ2 414 yJ0_checkIndex_df160 cJ0_checkIndex_df160 2 none 2 := ⟨qc_J0_checkIndex_df160, qm_J2_414, qn_java_lang_String, by decide +kernel⟩
theorem qm_J2_71 : Cond.methodLink RJ2 71 yJ2_getChar_3b067 ∈ TT := TT_of (tb2 (List.mem_of_getElem? (i := 225) rfl)) rfl
theorem cw_J2_71 : cw RJ2 71 yJ2_getChar_3b067 cJ2_getChar_3b067 2 (some FieldType.char) 2 := ⟨qc_J2_getChar_3b067, qm_J2_71, qn_java_lang_StringUTF16, by decide +kernel⟩
theorem qm_L_24 : Cond.methodLink RL 24 yX6_append ∈ TT := TT_of (tb2 (List.mem_of_getElem? (i := 234) rfl)) rfl
theorem cw_L_24 : cw RL 24 yX6_append cX6_append 3 (some FieldType.int) 1 := ⟨qc_X6_append, qm_L_24, qn_TwinBoot, by decide +kernel⟩
theorem qm_X6_45 : Cond.methodLink RX6 45 yX5_add ∈ TT := TT_of (tb2 (List.mem_of_getElem? (i := 238) rfl)) rfl
theorem cw_X6_45 : cw RX6 45 yX5_add cX5_add 5 (some FieldType.int) 1 := ⟨qc_X5_add, qm_X6_45, qn_TwinBoot_Text, by decide +kernel⟩
theorem qm_L_30 : Cond.methodLink RL 30 yX6_load ∈ TT := TT_of (tb3 (List.mem_of_getElem? (i := 3) rfl)) rfl
theorem cw_L_30 : cw RL 30 yX6_load cX6_load 1 (some FieldType.int) 0 := ⟨qc_X6_load, qm_L_30, qn_TwinBoot, by decide +kernel⟩
theorem qm_X6_49 : Cond.methodLink RX6 49 yX5_read ∈ TT := TT_of (tb3 (List.mem_of_getElem? (i := 7) rfl)) rfl
theorem cw_X6_49 : cw RX6 49 yX5_read cX5_read 3 (some FieldType.boolean) 0 := ⟨qc_X5_read, qm_X6_49, qn_TwinBoot_Text, by decide +kernel⟩
theorem qm_X5_28 : Cond.methodLink RX5 28 yX4_clear ∈ TT := TT_of (tb3 (List.mem_of_getElem? (i := 11) rfl)) rfl
theorem cw_X5_28 : cw RX5 28 yX4_clear cX4_clear 1 none 0 := ⟨qc_X4_clear, qm_X5_28, qn_TwinBoot_Plan, by decide +kernel⟩
theorem qm_X5_40 : Cond.methodLink RX5 40 yX5_readFlash ∈ TT := TT_of (tb3 (List.mem_of_getElem? (i := 12) rfl)) rfl
theorem cw_X5_40 : cw RX5 40 yX5_readFlash cX5_readFlash 2 (some FieldType.boolean) 0 := ⟨qc_X5_readFlash, qm_X5_40, qn_TwinBoot_Text, by decide +kernel⟩
theorem qm_X5_85 : Cond.methodLink RX5 85 yX5_passWord ∈ TT := TT_of (tb3 (List.mem_of_getElem? (i := 16) rfl)) rfl
theorem cw_X5_85 : cw RX5 85 yX5_passWord cX5_passWord 2 (some FieldType.int) 0 := ⟨qc_X5_passWord, qm_X5_85, qn_TwinBoot_Text, by decide +kernel⟩
theorem qm_X5_53 : Cond.methodLink RX5 53 yX5_skipSpaces ∈ TT := TT_of (tb3 (List.mem_of_getElem? (i := 20) rfl)) rfl
theorem cw_X5_53 : cw RX5 53 yX5_skipSpaces cX5_skipSpaces 1 none 0 := ⟨qc_X5_skipSpaces, qm_X5_53, qn_TwinBoot_Text, by decide +kernel⟩
theorem qm_X5_90 : Cond.methodLink RX5 90 yX5_isWord ∈ TT := TT_of (tb3 (List.mem_of_getElem? (i := 25) rfl)) rfl
theorem cw_X5_90 : cw RX5 90 yX5_isWord cX5_isWord 4 (some FieldType.boolean) 2 := ⟨qc_X5_isWord, qm_X5_90, qn_TwinBoot_Text, by decide +kernel⟩
theorem qm_X5_60 : Cond.methodLink RX5 60 yJ0_length_8abf5 ∈ TT := TT_of (tb3 (List.mem_of_getElem? (i := 29) rfl)) rfl
theorem cw_X5_60 : cw RX5 60 yJ0_length_8abf5 cJ0_length_8abf5 1 (some FieldType.int) 0 := ⟨qc_J0_length_8abf5, qm_X5_60, qn_java_lang_String, by decide +kernel⟩
theorem qm_X5_65 : Cond.methodLink RX5 65 yJ0_charAt_5068e ∈ TT := TT_of (tb3 (List.mem_of_getElem? (i := 30) rfl)) rfl
theorem cw_X5_65 : cw RX5 65 yJ0_charAt_5068e cJ0_charAt_5068e 2 (some FieldType.char) 1 := ⟨qc_J0_charAt_5068e, qm_X5_65, qn_java_lang_String, by decide +kernel⟩
theorem qm_X5_56 : Cond.methodLink RX5 56 yX5_fail ∈ TT := TT_of (tb3 (List.mem_of_getElem? (i := 31) rfl)) rfl
theorem cw_X5_56 : cw RX5 56 yX5_fail cX5_fail 3 (some FieldType.boolean) 2 := ⟨qc_X5_fail, qm_X5_56, qn_TwinBoot_Text, by decide +kernel⟩
theorem qm_X5_94 : Cond.methodLink RX5 94 yX5_readNumber ∈ TT := TT_of (tb3 (List.mem_of_getElem? (i := 35) rfl)) rfl
theorem cw_X5_94 : cw RX5 94 yX5_readNumber cX5_readNumber 3 (some FieldType.boolean) 2 := ⟨qc_X5_readNumber, qm_X5_94, qn_TwinBoot_Text, by decide +kernel⟩
theorem qm_X5_69 : Cond.methodLink RX5 69 yX5_isAtDigit ∈ TT := TT_of (tb3 (List.mem_of_getElem? (i := 39) rfl)) rfl
theorem cw_X5_69 : cw RX5 69 yX5_isAtDigit cX5_isAtDigit 1 (some FieldType.boolean) 0 := ⟨qc_X5_isAtDigit, qm_X5_69, qn_TwinBoot_Text, by decide +kernel⟩
theorem qm_X5_79 : Cond.methodLink RX5 79 yJ9_min_7cf53 ∈ TT := TT_of (tb3 (List.mem_of_getElem? (i := 44) rfl)) rfl
theorem cw_X5_79 : cw RX5 79 yJ9_min_7cf53 cJ9_min_7cf53 2 (some FieldType.int) 2 := ⟨qc_J9_min_7cf53, qm_X5_79, qn_java_lang_Math, by decide +kernel⟩
theorem qm_X5_44 : Cond.methodLink RX5 44 yX5_isAtEnd ∈ TT := TT_of (tb3 (List.mem_of_getElem? (i := 47) rfl)) rfl
theorem cw_X5_44 : cw RX5 44 yX5_isAtEnd cX5_isAtEnd 1 (some FieldType.boolean) 0 := ⟨qc_X5_isAtEnd, qm_X5_44, qn_TwinBoot_Text, by decide +kernel⟩
theorem qm_X5_47 : Cond.methodLink RX5 47 yX5_readSemicolon ∈ TT := TT_of (tb3 (List.mem_of_getElem? (i := 51) rfl)) rfl
theorem cw_X5_47 : cw RX5 47 yX5_readSemicolon cX5_readSemicolon 1 (some FieldType.boolean) 0 := ⟨qc_X5_readSemicolon, qm_X5_47, qn_TwinBoot_Text, by decide +kernel⟩
theorem qm_X5_50 : Cond.methodLink RX5 50 yX5_readStatement ∈ TT := TT_of (tb3 (List.mem_of_getElem? (i := 55) rfl)) rfl
theorem cw_X5_50 : cw RX5 50 yX5_readStatement cX5_readStatement 3 (some FieldType.boolean) 0 := ⟨qc_X5_readStatement, qm_X5_50, qn_TwinBoot_Text, by decide +kernel⟩
theorem qm_X5_108 : Cond.methodLink RX5 108 yX5_readImage ∈ TT := TT_of (tb3 (List.mem_of_getElem? (i := 60) rfl)) rfl
theorem cw_X5_108 : cw RX5 108 yX5_readImage cX5_readImage 3 (some FieldType.boolean) 0 := ⟨qc_X5_readImage, qm_X5_108, qn_TwinBoot_Text, by decide +kernel⟩
theorem qm_X5_131 : Cond.methodLink RX5 131 yX5_claim ∈ TT := TT_of (tb3 (List.mem_of_getElem? (i := 64) rfl)) rfl
theorem cw_X5_131 : cw RX5 131 yX5_claim cX5_claim 3 (some FieldType.boolean) 2 := ⟨qc_X5_claim, qm_X5_131, qn_TwinBoot_Text, by decide +kernel⟩
theorem qm_X5_142 : Cond.methodLink RX5 142 yX1_sum ∈ TT := TT_of (tb3 (List.mem_of_getElem? (i := 69) rfl)) rfl
theorem cw_X5_142 : cw RX5 142 yX1_sum cX1_sum 5 (some FieldType.int) 3 := ⟨qc_X1_sum, qm_X5_142, qn_TwinBoot_Flash, by decide +kernel⟩
theorem qm_X5_113 : Cond.methodLink RX5 113 yX5_readOnce ∈ TT := TT_of (tb3 (List.mem_of_getElem? (i := 73) rfl)) rfl
theorem cw_X5_113 : cw RX5 113 yX5_readOnce cX5_readOnce 5 (some FieldType.boolean) 4 := ⟨qc_X5_readOnce, qm_X5_113, qn_TwinBoot_Text, by decide +kernel⟩
theorem qm_X6_61 : Cond.methodLink RX6 61 yX1_holdsImage ∈ TT := TT_of (tb3 (List.mem_of_getElem? (i := 80) rfl)) rfl
theorem cw_X6_61 : cw RX6 61 yX1_holdsImage cX1_holdsImage 2 (some FieldType.boolean) 1 := ⟨qc_X1_holdsImage, qm_X6_61, qn_TwinBoot_Flash, by decide +kernel⟩
theorem qm_X1_98 : Cond.methodLink RX1 98 yX1_sumOf ∈ TT := TT_of (tb3 (List.mem_of_getElem? (i := 84) rfl)) rfl
theorem cw_X1_98 : cw RX1 98 yX1_sumOf cX1_sumOf 4 (some FieldType.int) 1 := ⟨qc_X1_sumOf, qm_X1_98, qn_TwinBoot_Flash, by decide +kernel⟩
theorem qm_X1_90 : Cond.methodLink RX1 90 yX1_room ∈ TT := TT_of (tb3 (List.mem_of_getElem? (i := 88) rfl)) rfl
theorem cw_X1_90 : cw RX1 90 yX1_room cX1_room 1 (some FieldType.int) 0 := ⟨qc_X1_room, qm_X1_90, qn_TwinBoot_Flash, by decide +kernel⟩
theorem qm_X1_94 : Cond.methodLink RX1 94 yX1_sum ∈ TT := TT_of (tb3 (List.mem_of_getElem? (i := 89) rfl)) rfl
theorem cw_X1_94 : cw RX1 94 yX1_sum cX1_sum 5 (some FieldType.int) 3 := ⟨qc_X1_sum, qm_X1_94, qn_TwinBoot_Flash, by decide +kernel⟩
theorem qm_L_232 : Cond.methodLink RL 232 yL_step ∈ TT := TT_of (tb3 (List.mem_of_getElem? (i := 90) rfl)) rfl
theorem qm_L_39 : Cond.methodLink RL 39 yX6_boot ∈ TT := TT_of (tb3 (List.mem_of_getElem? (i := 93) rfl)) rfl
theorem cw_L_39 : cw RL 39 yX6_boot cX6_boot 1 (some FieldType.int) 0 := ⟨qc_X6_boot, qm_L_39, qn_TwinBoot, by decide +kernel⟩
theorem qm_X6_105 : Cond.methodLink RX6 105 yX0_startUp ∈ TT := TT_of (tb3 (List.mem_of_getElem? (i := 97) rfl)) rfl
theorem cw_X6_105 : cw RX6 105 yX0_startUp cX0_startUp 3 (some FieldType.int) 0 := ⟨qc_X0_startUp, qm_X6_105, qn_TwinBoot_Device, by decide +kernel⟩
theorem qm_X0_145 : Cond.methodLink RX0 145 yX2_readFrom ∈ TT := TT_of (tb3 (List.mem_of_getElem? (i := 101) rfl)) rfl
theorem cw_X0_145 : cw RX0 145 yX2_readFrom cX2_readFrom 5 none 1 := ⟨qc_X2_readFrom, qm_X0_145, qn_TwinBoot_Ledger, by decide +kernel⟩
theorem qm_X2_24 : Cond.methodLink RX2 24 yX2_activePageOf ∈ TT := TT_of (tb3 (List.mem_of_getElem? (i := 105) rfl)) rfl
theorem cw_X2_24 : cw RX2 24 yX2_activePageOf cX2_activePageOf 3 (some FieldType.int) 2 := ⟨qc_X2_activePageOf, qm_X2_24, qn_TwinBoot_Ledger, by decide +kernel⟩
theorem qm_X2_9 : Cond.methodLink RX2 9 yX2_rightKind ∈ TT := TT_of (tb3 (List.mem_of_getElem? (i := 108) rfl)) rfl
theorem cw_X2_9 : cw RX2 9 yX2_rightKind cX2_rightKind 5 (some FieldType.int) 1 := ⟨qc_X2_rightKind, qm_X2_9, qn_TwinBoot_Ledger, by decide +kernel⟩
theorem qm_X2_15 : Cond.methodLink RX2 15 yX2_valueOf ∈ TT := TT_of (tb3 (List.mem_of_getElem? (i := 111) rfl)) rfl
theorem cw_X2_15 : cw RX2 15 yX2_valueOf cX2_valueOf 1 (some FieldType.int) 1 := ⟨qc_X2_valueOf, qm_X2_15, qn_TwinBoot_Ledger, by decide +kernel⟩
theorem qm_X2_63 : Cond.methodLink RX2 63 yX2_isEntry ∈ TT := TT_of (tb3 (List.mem_of_getElem? (i := 115) rfl)) rfl
theorem cw_X2_63 : cw RX2 63 yX2_isEntry cX2_isEntry 2 (some FieldType.boolean) 1 := ⟨qc_X2_isEntry, qm_X2_63, qn_TwinBoot_Ledger, by decide +kernel⟩
theorem qm_X2_67 : Cond.methodLink RX2 67 yX2_kindOf ∈ TT := TT_of (tb3 (List.mem_of_getElem? (i := 118) rfl)) rfl
theorem cw_X2_67 : cw RX2 67 yX2_kindOf cX2_kindOf 1 (some FieldType.int) 1 := ⟨qc_X2_kindOf, qm_X2_67, qn_TwinBoot_Ledger, by decide +kernel⟩
theorem qm_X2_70 : Cond.methodLink RX2 70 yX2_take ∈ TT := TT_of (tb3 (List.mem_of_getElem? (i := 121) rfl)) rfl
theorem cw_X2_70 : cw RX2 70 yX2_take cX2_take 3 none 2 := ⟨qc_X2_take, qm_X2_70, qn_TwinBoot_Ledger, by decide +kernel⟩
theorem qm_X2_74 : Cond.methodLink RX2 74 yJ9_max_7cf53 ∈ TT := TT_of (tb3 (List.mem_of_getElem? (i := 125) rfl)) rfl
theorem cw_X2_74 : cw RX2 74 yJ9_max_7cf53 cJ9_max_7cf53 2 (some FieldType.int) 2 := ⟨qc_J9_max_7cf53, qm_X2_74, qn_java_lang_Math, by decide +kernel⟩
theorem qm_X2_79 : Cond.methodLink RX2 79 yX2_forgetFresh ∈ TT := TT_of (tb3 (List.mem_of_getElem? (i := 128) rfl)) rfl
theorem cw_X2_79 : cw RX2 79 yX2_forgetFresh cX2_forgetFresh 2 none 1 := ⟨qc_X2_forgetFresh, qm_X2_79, qn_TwinBoot_Ledger, by decide +kernel⟩
theorem qm_X0_142 : Cond.methodLink RX0 142 yX0_formatJournal ∈ TT := TT_of (tb3 (List.mem_of_getElem? (i := 132) rfl)) rfl
theorem cw_X0_142 : cw RX0 142 yX0_formatJournal cX0_formatJournal 1 (some FieldType.boolean) 0 := ⟨qc_X0_formatJournal, qm_X0_142, qn_TwinBoot_Device, by decide +kernel⟩
theorem qm_X0_104 : Cond.methodLink RX0 104 yX1_eraseJournalPage ∈ TT := TT_of (tb3 (List.mem_of_getElem? (i := 136) rfl)) rfl
theorem cw_X0_104 : cw RX0 104 yX1_eraseJournalPage cX1_eraseJournalPage 3 (some FieldType.boolean) 1 := ⟨qc_X1_eraseJournalPage, qm_X0_104, qn_TwinBoot_Flash, by decide +kernel⟩
theorem qm_X1_75 : Cond.methodLink RX1 75 yX1_takePower ∈ TT := TT_of (tb3 (List.mem_of_getElem? (i := 140) rfl)) rfl
theorem cw_X1_75 : cw RX1 75 yX1_takePower cX1_takePower 1 (some FieldType.boolean) 0 := ⟨qc_X1_takePower, qm_X1_75, qn_TwinBoot_Flash, by decide +kernel⟩
theorem qm_X1_81 : Cond.methodLink RX1 81 yJ7_fill_fda19 ∈ TT := TT_of (tb3 (List.mem_of_getElem? (i := 144) rfl)) rfl
theorem cw_X1_81 : cw RX1 81 yJ7_fill_fda19 cJ7_fill_fda19 5 none 4 := ⟨qc_J7_fill_fda19, qm_X1_81, qn_java_util_Arrays, by decide +kernel⟩
theorem qm_J7_13 : Cond.methodLink RJ7 13 yJ7_rangeCheck_23922 ∈ TT := TT_of (tb3 (List.mem_of_getElem? (i := 147) rfl)) rfl
theorem cw_J7_13 : cw RJ7 13 yJ7_rangeCheck_23922 cJ7_rangeCheck_23922 3 none 3 := ⟨qc_J7_rangeCheck_23922, qm_J7_13, qn_java_util_Arrays, by decide +kernel⟩
theorem qm_X0_107 : Cond.methodLink RX0 107 yX2_wordOf ∈ TT := TT_of (tb3 (List.mem_of_getElem? (i := 150) rfl)) rfl
theorem cw_X0_107 : cw RX0 107 yX2_wordOf cX2_wordOf 2 (some FieldType.int) 2 := ⟨qc_X2_wordOf, qm_X0_107, qn_TwinBoot_Ledger, by decide +kernel⟩
theorem qm_X0_111 : Cond.methodLink RX0 111 yX1_write ∈ TT := TT_of (tb3 (List.mem_of_getElem? (i := 151) rfl)) rfl
theorem cw_X0_111 : cw RX0 111 yX1_write cX1_write 5 (some FieldType.boolean) 3 := ⟨qc_X1_write, qm_X0_111, qn_TwinBoot_Flash, by decide +kernel⟩
theorem qm_X0_87 : Cond.methodLink RX0 87 yX0_note ∈ TT := TT_of (tb3 (List.mem_of_getElem? (i := 156) rfl)) rfl
theorem cw_X0_87 : cw RX0 87 yX0_note cX0_note 3 none 2 := ⟨qc_X0_note, qm_X0_87, qn_TwinBoot_Device, by decide +kernel⟩
theorem qm_X0_83 : Cond.methodLink RX0 83 yX3_note ∈ TT := TT_of (tb3 (List.mem_of_getElem? (i := 160) rfl)) rfl
theorem cw_X0_83 : cw RX0 83 yX3_note cX3_note 5 none 3 := ⟨qc_X3_note, qm_X0_83, qn_TwinBoot_Log, by decide +kernel⟩
theorem qm_X0_151 : Cond.methodLink RX0 151 yX0_losePower ∈ TT := TT_of (tb3 (List.mem_of_getElem? (i := 164) rfl)) rfl
theorem cw_X0_151 : cw RX0 151 yX0_losePower cX0_losePower 1 (some FieldType.int) 0 := ⟨qc_X0_losePower, qm_X0_151, qn_TwinBoot_Device, by decide +kernel⟩
theorem qm_X0_154 : Cond.methodLink RX0 154 yX0_canStart ∈ TT := TT_of (tb3 (List.mem_of_getElem? (i := 168) rfl)) rfl
theorem cw_X0_154 : cw RX0 154 yX0_canStart cX0_canStart 2 (some FieldType.boolean) 1 := ⟨qc_X0_canStart, qm_X0_154, qn_TwinBoot_Device, by decide +kernel⟩
theorem qm_X0_90 : Cond.methodLink RX0 90 yX1_holdsImage ∈ TT := TT_of (tb3 (List.mem_of_getElem? (i := 172) rfl)) rfl
theorem cw_X0_90 : cw RX0 90 yX1_holdsImage cX1_holdsImage 2 (some FieldType.boolean) 1 := ⟨qc_X1_holdsImage, qm_X0_90, qn_TwinBoot_Flash, by decide +kernel⟩
theorem qm_X0_101 : Cond.methodLink RX0 101 yX2_isBad ∈ TT := TT_of (tb3 (List.mem_of_getElem? (i := 173) rfl)) rfl
theorem cw_X0_101 : cw RX0 101 yX2_isBad cX2_isBad 2 (some FieldType.boolean) 1 := ⟨qc_X2_isBad, qm_X0_101, qn_TwinBoot_Ledger, by decide +kernel⟩
theorem qm_X0_157 : Cond.methodLink RX0 157 yX0_appendRecord ∈ TT := TT_of (tb3 (List.mem_of_getElem? (i := 177) rfl)) rfl
theorem cw_X0_157 : cw RX0 157 yX0_appendRecord cX0_appendRecord 5 (some FieldType.boolean) 2 := ⟨qc_X0_appendRecord, qm_X0_157, qn_TwinBoot_Device, by decide +kernel⟩
theorem qm_X0_138 : Cond.methodLink RX0 138 yX0_moveRecords ∈ TT := TT_of (tb3 (List.mem_of_getElem? (i := 181) rfl)) rfl
theorem cw_X0_138 : cw RX0 138 yX0_moveRecords cX0_moveRecords 5 (some FieldType.boolean) 0 := ⟨qc_X0_moveRecords, qm_X0_138, qn_TwinBoot_Device, by decide +kernel⟩
theorem qm_X0_118 : Cond.methodLink RX0 118 yX0_gatherRecords ∈ TT := TT_of (tb3 (List.mem_of_getElem? (i := 185) rfl)) rfl
theorem cw_X0_118 : cw RX0 118 yX0_gatherRecords cX0_gatherRecords 3 (some FieldType.int) 0 := ⟨qc_X0_gatherRecords, qm_X0_118, qn_TwinBoot_Device, by decide +kernel⟩
theorem qm_X0_148 : Cond.methodLink RX0 148 yX0_noteRecord ∈ TT := TT_of (tb3 (List.mem_of_getElem? (i := 189) rfl)) rfl
theorem cw_X0_148 : cw RX0 148 yX0_noteRecord cX0_noteRecord 3 none 2 := ⟨qc_X0_noteRecord, qm_X0_148, qn_TwinBoot_Device, by decide +kernel⟩
theorem qm_X0_161 : Cond.methodLink RX0 161 yX0_run ∈ TT := TT_of (tb3 (List.mem_of_getElem? (i := 193) rfl)) rfl
theorem cw_X0_161 : cw RX0 161 yX0_run cX0_run 2 (some FieldType.int) 1 := ⟨qc_X0_run, qm_X0_161, qn_TwinBoot_Device, by decide +kernel⟩
theorem qm_X0_165 : Cond.methodLink RX0 165 yX0_waitForRecovery ∈ TT := TT_of (tb3 (List.mem_of_getElem? (i := 197) rfl)) rfl
theorem cw_X0_165 : cw RX0 165 yX0_waitForRecovery cX0_waitForRecovery 1 (some FieldType.int) 0 := ⟨qc_X0_waitForRecovery, qm_X0_165, qn_TwinBoot_Device, by decide +kernel⟩
theorem qm_L_42 : Cond.methodLink RL 42 yX6_confirm ∈ TT := TT_of (tb3 (List.mem_of_getElem? (i := 201) rfl)) rfl
theorem cw_L_42 : cw RL 42 yX6_confirm cX6_confirm 1 (some FieldType.int) 0 := ⟨qc_X6_confirm, qm_L_42, qn_TwinBoot, by decide +kernel⟩
theorem qm_X6_131 : Cond.methodLink RX6 131 yX0_confirmRunning ∈ TT := TT_of (tb3 (List.mem_of_getElem? (i := 205) rfl)) rfl
theorem cw_X6_131 : cw RX6 131 yX0_confirmRunning cX0_confirmRunning 2 (some FieldType.int) 0 := ⟨qc_X0_confirmRunning, qm_X6_131, qn_TwinBoot_Device, by decide +kernel⟩
theorem qm_L_45 : Cond.methodLink RL 45 yX6_update ∈ TT := TT_of (tb3 (List.mem_of_getElem? (i := 209) rfl)) rfl
theorem cw_L_45 : cw RL 45 yX6_update cX6_update 2 (some FieldType.int) 1 := ⟨qc_X6_update, qm_L_45, qn_TwinBoot, by decide +kernel⟩
theorem qm_X6_117 : Cond.methodLink RX6 117 yX6_requireVersion ∈ TT := TT_of (tb3 (List.mem_of_getElem? (i := 213) rfl)) rfl
theorem cw_X6_117 : cw RX6 117 yX6_requireVersion cX6_requireVersion 1 none 1 := ⟨qc_X6_requireVersion, qm_X6_117, qn_TwinBoot, by decide +kernel⟩
theorem qm_X6_121 : Cond.methodLink RX6 121 yX0_updateOther ∈ TT := TT_of (tb3 (List.mem_of_getElem? (i := 216) rfl)) rfl
theorem cw_X6_121 : cw RX6 121 yX0_updateOther cX0_updateOther 5 (some FieldType.int) 2 := ⟨qc_X0_updateOther, qm_X6_121, qn_TwinBoot_Device, by decide +kernel⟩
theorem qm_X0_168 : Cond.methodLink RX0 168 yX0_runsGoodSlot ∈ TT := TT_of (tb3 (List.mem_of_getElem? (i := 220) rfl)) rfl
theorem cw_X0_168 : cw RX0 168 yX0_runsGoodSlot cX0_runsGoodSlot 1 (some FieldType.boolean) 0 := ⟨qc_X0_runsGoodSlot, qm_X0_168, qn_TwinBoot_Device, by decide +kernel⟩
theorem qm_X0_171 : Cond.methodLink RX0 171 yX1_writeImage ∈ TT := TT_of (tb3 (List.mem_of_getElem? (i := 224) rfl)) rfl
theorem cw_X0_171 : cw RX0 171 yX1_writeImage cX1_writeImage 8 (some FieldType.boolean) 5 := ⟨qc_X1_writeImage, qm_X0_171, qn_TwinBoot_Flash, by decide +kernel⟩
theorem qm_X1_109 : Cond.methodLink RX1 109 yX1_mustErase ∈ TT := TT_of (tb3 (List.mem_of_getElem? (i := 228) rfl)) rfl
theorem cw_X1_109 : cw RX1 109 yX1_mustErase cX1_mustErase 8 (some FieldType.boolean) 4 := ⟨qc_X1_mustErase, qm_X1_109, qn_TwinBoot_Flash, by decide +kernel⟩
theorem qm_X1_101 : Cond.methodLink RX1 101 yJ9_max_7cf53 ∈ TT := TT_of (tb3 (List.mem_of_getElem? (i := 232) rfl)) rfl
theorem cw_X1_101 : cw RX1 101 yJ9_max_7cf53 cJ9_max_7cf53 2 (some FieldType.int) 2 := ⟨qc_J9_max_7cf53, qm_X1_101, qn_java_lang_Math, by decide +kernel⟩
theorem qm_X1_106 : Cond.methodLink RX1 106 yJ9_min_7cf53 ∈ TT := TT_of (tb3 (List.mem_of_getElem? (i := 233) rfl)) rfl
theorem cw_X1_106 : cw RX1 106 yJ9_min_7cf53 cJ9_min_7cf53 2 (some FieldType.int) 2 := ⟨qc_J9_min_7cf53, qm_X1_106, qn_java_lang_Math, by decide +kernel⟩
theorem qm_X1_113 : Cond.methodLink RX1 113 yX1_eraseSlotPage ∈ TT := TT_of (tb3 (List.mem_of_getElem? (i := 234) rfl)) rfl
theorem cw_X1_113 : cw RX1 113 yX1_eraseSlotPage cX1_eraseSlotPage 7 (some FieldType.boolean) 2 := ⟨qc_X1_eraseSlotPage, qm_X1_113, qn_TwinBoot_Flash, by decide +kernel⟩
theorem qm_X1_117 : Cond.methodLink RX1 117 yX1_write ∈ TT := TT_of (tb3 (List.mem_of_getElem? (i := 239) rfl)) rfl
theorem cw_X1_117 : cw RX1 117 yX1_write cX1_write 5 (some FieldType.boolean) 3 := ⟨qc_X1_write, qm_X1_117, qn_TwinBoot_Flash, by decide +kernel⟩
theorem qm_L_48 : Cond.methodLink RL 48 yX6_thriftyUpdate ∈ TT := TT_of (tb4 (List.mem_of_getElem? (i := 0) rfl)) rfl
theorem cw_L_48 : cw RL 48 yX6_thriftyUpdate cX6_thriftyUpdate 2 (some FieldType.int) 1 := ⟨qc_X6_thriftyUpdate, qm_L_48, qn_TwinBoot, by decide +kernel⟩
theorem qm_L_51 : Cond.methodLink RL 51 yX6_mirror ∈ TT := TT_of (tb4 (List.mem_of_getElem? (i := 4) rfl)) rfl
theorem cw_L_51 : cw RL 51 yX6_mirror cX6_mirror 1 (some FieldType.int) 0 := ⟨qc_X6_mirror, qm_L_51, qn_TwinBoot, by decide +kernel⟩
theorem qm_X6_125 : Cond.methodLink RX6 125 yX0_mirrorRunning ∈ TT := TT_of (tb4 (List.mem_of_getElem? (i := 8) rfl)) rfl
theorem cw_X6_125 : cw RX6 125 yX0_mirrorRunning cX0_mirrorRunning 3 (some FieldType.int) 0 := ⟨qc_X0_mirrorRunning, qm_X6_125, qn_TwinBoot_Device, by decide +kernel⟩
theorem qm_L_54 : Cond.methodLink RL 54 yX6_moveJournal ∈ TT := TT_of (tb4 (List.mem_of_getElem? (i := 12) rfl)) rfl
theorem cw_L_54 : cw RL 54 yX6_moveJournal cX6_moveJournal 1 (some FieldType.int) 0 := ⟨qc_X6_moveJournal, qm_L_54, qn_TwinBoot, by decide +kernel⟩
theorem qm_X6_128 : Cond.methodLink RX6 128 yX0_moveByHand ∈ TT := TT_of (tb4 (List.mem_of_getElem? (i := 16) rfl)) rfl
theorem cw_X6_128 : cw RX6 128 yX0_moveByHand cX0_moveByHand 1 (some FieldType.int) 0 := ⟨qc_X0_moveByHand, qm_X6_128, qn_TwinBoot_Device, by decide +kernel⟩
theorem qm_L_57 : Cond.methodLink RL 57 yX6_recover ∈ TT := TT_of (tb4 (List.mem_of_getElem? (i := 20) rfl)) rfl
theorem cw_L_57 : cw RL 57 yX6_recover cX6_recover 3 (some FieldType.int) 2 := ⟨qc_X6_recover, qm_L_57, qn_TwinBoot, by decide +kernel⟩
theorem qm_X6_134 : Cond.methodLink RX6 134 yX6_requireSlot ∈ TT := TT_of (tb4 (List.mem_of_getElem? (i := 24) rfl)) rfl
theorem cw_X6_134 : cw RX6 134 yX6_requireSlot cX6_requireSlot 1 none 1 := ⟨qc_X6_requireSlot, qm_X6_134, qn_TwinBoot, by decide +kernel⟩
theorem qm_X6_137 : Cond.methodLink RX6 137 yX0_recoverSlot ∈ TT := TT_of (tb4 (List.mem_of_getElem? (i := 27) rfl)) rfl
theorem cw_X6_137 : cw RX6 137 yX0_recoverSlot cX0_recoverSlot 4 (some FieldType.int) 2 := ⟨qc_X0_recoverSlot, qm_X6_137, qn_TwinBoot_Device, by decide +kernel⟩
theorem qm_L_61 : Cond.methodLink RL 61 yX6_setPower ∈ TT := TT_of (tb4 (List.mem_of_getElem? (i := 31) rfl)) rfl
theorem cw_L_61 : cw RL 61 yX6_setPower cX6_setPower 3 (some FieldType.int) 1 := ⟨qc_X6_setPower, qm_L_61, qn_TwinBoot, by decide +kernel⟩
theorem qm_L_64 : Cond.methodLink RL 64 yX6_off ∈ TT := TT_of (tb4 (List.mem_of_getElem? (i := 36) rfl)) rfl
theorem cw_L_64 : cw RL 64 yX6_off cX6_off 2 (some FieldType.boolean) 0 := ⟨qc_X6_off, qm_L_64, qn_TwinBoot, by decide +kernel⟩
theorem qm_X6_114 : Cond.methodLink RX6 114 yX0_switchOff ∈ TT := TT_of (tb4 (List.mem_of_getElem? (i := 40) rfl)) rfl
theorem cw_X6_114 : cw RX6 114 yX0_switchOff cX0_switchOff 1 none 0 := ⟨qc_X0_switchOff, qm_X6_114, qn_TwinBoot_Device, by decide +kernel⟩
theorem qm_L_68 : Cond.methodLink RL 68 yX6_damage ∈ TT := TT_of (tb4 (List.mem_of_getElem? (i := 41) rfl)) rfl
theorem cw_L_68 : cw RL 68 yX6_damage cX6_damage 4 (some FieldType.int) 3 := ⟨qc_X6_damage, qm_L_68, qn_TwinBoot, by decide +kernel⟩
theorem qm_X6_149 : Cond.methodLink RX6 149 yX6_requireIndex ∈ TT := TT_of (tb4 (List.mem_of_getElem? (i := 45) rfl)) rfl
theorem cw_X6_149 : cw RX6 149 yX6_requireIndex cX6_requireIndex 2 none 2 := ⟨qc_X6_requireIndex, qm_X6_149, qn_TwinBoot, by decide +kernel⟩
theorem qm_X6_275 : Cond.methodLink RX6 275 ⟨"java/lang/IndexOutOfBoundsException", "<init>", "(Ljava/lang/String;)V"⟩ ∈ TT := TT_of (tb4 (List.mem_of_getElem? (i := 58) rfl)) rfl
theorem qm_X6_181 : Cond.methodLink RX6 181 yX1_loseBits ∈ TT := TT_of (tb4 (List.mem_of_getElem? (i := 64) rfl)) rfl
theorem cw_X6_181 : cw RX6 181 yX1_loseBits cX1_loseBits 5 (some FieldType.int) 3 := ⟨qc_X1_loseBits, qm_X6_181, qn_TwinBoot_Flash, by decide +kernel⟩
theorem qm_X1_84 : Cond.methodLink RX1 84 yJ6_bitCount_0f7a4 ∈ TT := TT_of (tb4 (List.mem_of_getElem? (i := 68) rfl)) rfl
theorem cw_X1_84 : cw RX1 84 yJ6_bitCount_0f7a4 cJ6_bitCount_0f7a4 1 (some FieldType.int) 1 := ⟨qc_J6_bitCount_0f7a4, qm_X1_84, qn_java_lang_Integer, by decide +kernel⟩
theorem qm_L_72 : Cond.methodLink RL 72 yX6_damageJournal ∈ TT := TT_of (tb4 (List.mem_of_getElem? (i := 74) rfl)) rfl
theorem cw_L_72 : cw RL 72 yX6_damageJournal cX6_damageJournal 4 (some FieldType.int) 3 := ⟨qc_X6_damageJournal, qm_L_72, qn_TwinBoot, by decide +kernel⟩
theorem qm_L_236 : Cond.methodLink RL 236 yL_isTold ∈ TT := TT_of (tb4 (List.mem_of_getElem? (i := 79) rfl)) rfl
theorem qm_L_115 : Cond.methodLink RL 115 yX6_recordCount ∈ TT := TT_of (tb4 (List.mem_of_getElem? (i := 82) rfl)) rfl
theorem cw_L_115 : cw RL 115 yX6_recordCount cX6_recordCount 1 (some FieldType.int) 0 := ⟨qc_X6_recordCount, qm_L_115, qn_TwinBoot, by decide +kernel⟩
theorem qm_X6_162 : Cond.methodLink RX6 162 yX6_readLedger ∈ TT := TT_of (tb4 (List.mem_of_getElem? (i := 86) rfl)) rfl
theorem cw_X6_162 : cw RX6 162 yX6_readLedger cX6_readLedger 1 (some (FieldType.object "TwinBoot$Ledger")) 0 := ⟨qc_X6_readLedger, qm_X6_162, qn_TwinBoot, by decide +kernel⟩
theorem qm_X6_246 : Cond.methodLink RX6 246 yX2_readFrom ∈ TT := TT_of (tb4 (List.mem_of_getElem? (i := 90) rfl)) rfl
theorem cw_X6_246 : cw RX6 246 yX2_readFrom cX2_readFrom 5 none 1 := ⟨qc_X2_readFrom, qm_X6_246, qn_TwinBoot_Ledger, by decide +kernel⟩
theorem qm_L_118 : Cond.methodLink RL 118 yX6_record ∈ TT := TT_of (tb4 (List.mem_of_getElem? (i := 91) rfl)) rfl
theorem cw_L_118 : cw RL 118 yX6_record cX6_record 6 (some FieldType.int) 2 := ⟨qc_X6_record, qm_L_118, qn_TwinBoot, by decide +kernel⟩
theorem qm_X6_197 : Cond.methodLink RX6 197 yX2_placeOf ∈ TT := TT_of (tb4 (List.mem_of_getElem? (i := 95) rfl)) rfl
theorem cw_X6_197 : cw RX6 197 yX2_placeOf cX2_placeOf 6 (some FieldType.int) 2 := ⟨qc_X2_placeOf, qm_X6_197, qn_TwinBoot_Ledger, by decide +kernel⟩
theorem qm_X6_201 : Cond.methodLink RX6 201 yX2_kindOf ∈ TT := TT_of (tb4 (List.mem_of_getElem? (i := 99) rfl)) rfl
theorem cw_X6_201 : cw RX6 201 yX2_kindOf cX2_kindOf 1 (some FieldType.int) 1 := ⟨qc_X2_kindOf, qm_X6_201, qn_TwinBoot_Ledger, by decide +kernel⟩
theorem qm_X6_204 : Cond.methodLink RX6 204 yX2_valueOf ∈ TT := TT_of (tb4 (List.mem_of_getElem? (i := 100) rfl)) rfl
theorem cw_X6_204 : cw RX6 204 yX2_valueOf cX2_valueOf 1 (some FieldType.int) 1 := ⟨qc_X2_valueOf, qm_X6_204, qn_TwinBoot_Ledger, by decide +kernel⟩
theorem qm_L_121 : Cond.methodLink RL 121 yX6_activePage ∈ TT := TT_of (tb4 (List.mem_of_getElem? (i := 101) rfl)) rfl
theorem cw_L_121 : cw RL 121 yX6_activePage cX6_activePage 1 (some FieldType.int) 0 := ⟨qc_X6_activePage, qm_L_121, qn_TwinBoot, by decide +kernel⟩
theorem qm_L_124 : Cond.methodLink RL 124 yX6_freeWords ∈ TT := TT_of (tb4 (List.mem_of_getElem? (i := 105) rfl)) rfl
theorem cw_L_124 : cw RL 124 yX6_freeWords cX6_freeWords 2 (some FieldType.int) 0 := ⟨qc_X6_freeWords, qm_L_124, qn_TwinBoot, by decide +kernel⟩
theorem qm_L_127 : Cond.methodLink RL 127 yX6_recordsLeft ∈ TT := TT_of (tb4 (List.mem_of_getElem? (i := 109) rfl)) rfl
theorem cw_L_127 : cw RL 127 yX6_recordsLeft cX6_recordsLeft 2 (some FieldType.int) 0 := ⟨qc_X6_recordsLeft, qm_L_127, qn_TwinBoot, by decide +kernel⟩
theorem qm_L_130 : Cond.methodLink RL 130 yX6_generation ∈ TT := TT_of (tb4 (List.mem_of_getElem? (i := 113) rfl)) rfl
theorem cw_L_130 : cw RL 130 yX6_generation cX6_generation 1 (some FieldType.int) 0 := ⟨qc_X6_generation, qm_L_130, qn_TwinBoot, by decide +kernel⟩
theorem qm_L_133 : Cond.methodLink RL 133 yX6_spoiled ∈ TT := TT_of (tb4 (List.mem_of_getElem? (i := 117) rfl)) rfl
theorem cw_L_133 : cw RL 133 yX6_spoiled cX6_spoiled 1 (some FieldType.int) 0 := ⟨qc_X6_spoiled, qm_L_133, qn_TwinBoot, by decide +kernel⟩
theorem qm_L_109 : Cond.methodLink RL 109 yX6_eventCount ∈ TT := TT_of (tb4 (List.mem_of_getElem? (i := 121) rfl)) rfl
theorem cw_L_109 : cw RL 109 yX6_eventCount cX6_eventCount 2 (some FieldType.int) 1 := ⟨qc_X6_eventCount, qm_L_109, qn_TwinBoot, by decide +kernel⟩
theorem qm_L_136 : Cond.methodLink RL 136 yX6_mostWorn ∈ TT := TT_of (tb4 (List.mem_of_getElem? (i := 125) rfl)) rfl
theorem cw_L_136 : cw RL 136 yX6_mostWorn cX6_mostWorn 6 (some FieldType.int) 0 := ⟨qc_X6_mostWorn, qm_L_136, qn_TwinBoot, by decide +kernel⟩
theorem qm_X6_145 : Cond.methodLink RX6 145 yX1_pagesOf ∈ TT := TT_of (tb4 (List.mem_of_getElem? (i := 129) rfl)) rfl
theorem cw_X6_145 : cw RX6 145 yX1_pagesOf cX1_pagesOf 2 (some FieldType.int) 1 := ⟨qc_X1_pagesOf, qm_X6_145, qn_TwinBoot_Flash, by decide +kernel⟩
theorem qm_L_106 : Cond.methodLink RL 106 yX6_wear ∈ TT := TT_of (tb4 (List.mem_of_getElem? (i := 133) rfl)) rfl
theorem cw_L_106 : cw RL 106 yX6_wear cX6_wear 3 (some FieldType.int) 2 := ⟨qc_X6_wear, qm_L_106, qn_TwinBoot, by decide +kernel⟩
theorem qm_L_139 : Cond.methodLink RL 139 yX6_isBootable ∈ TT := TT_of (tb4 (List.mem_of_getElem? (i := 137) rfl)) rfl
theorem cw_L_139 : cw RL 139 yX6_isBootable cX6_isBootable 2 (some FieldType.boolean) 1 := ⟨qc_X6_isBootable, qm_L_139, qn_TwinBoot, by decide +kernel⟩
theorem qm_X6_166 : Cond.methodLink RX6 166 yX0_canStart ∈ TT := TT_of (tb4 (List.mem_of_getElem? (i := 141) rfl)) rfl
theorem cw_X6_166 : cw RX6 166 yX0_canStart cX0_canStart 2 (some FieldType.boolean) 1 := ⟨qc_X0_canStart, qm_X6_166, qn_TwinBoot_Device, by decide +kernel⟩
theorem qm_L_143 : Cond.methodLink RL 143 yX6_isWhole ∈ TT := TT_of (tb4 (List.mem_of_getElem? (i := 142) rfl)) rfl
theorem cw_L_143 : cw RL 143 yX6_isWhole cX6_isWhole 2 (some FieldType.boolean) 1 := ⟨qc_X6_isWhole, qm_L_143, qn_TwinBoot, by decide +kernel⟩
theorem qm_L_146 : Cond.methodLink RL 146 yX6_checksum ∈ TT := TT_of (tb4 (List.mem_of_getElem? (i := 146) rfl)) rfl
theorem cw_L_146 : cw RL 146 yX6_checksum cX6_checksum 2 (some FieldType.int) 1 := ⟨qc_X6_checksum, qm_L_146, qn_TwinBoot, by decide +kernel⟩
theorem qm_X6_169 : Cond.methodLink RX6 169 yX1_sumOf ∈ TT := TT_of (tb4 (List.mem_of_getElem? (i := 150) rfl)) rfl
theorem cw_X6_169 : cw RX6 169 yX1_sumOf cX1_sumOf 4 (some FieldType.int) 1 := ⟨qc_X1_sumOf, qm_X6_169, qn_TwinBoot_Flash, by decide +kernel⟩
theorem qm_L_100 : Cond.methodLink RL 100 yX6_word ∈ TT := TT_of (tb4 (List.mem_of_getElem? (i := 151) rfl)) rfl
theorem cw_L_100 : cw RL 100 yX6_word cX6_word 3 (some FieldType.int) 2 := ⟨qc_X6_word, qm_L_100, qn_TwinBoot, by decide +kernel⟩
theorem qm_L_149 : Cond.methodLink RL 149 yX6_differentWords ∈ TT := TT_of (tb4 (List.mem_of_getElem? (i := 155) rfl)) rfl
theorem cw_L_149 : cw RL 149 yX6_differentWords cX6_differentWords 5 (some FieldType.int) 1 := ⟨qc_X6_differentWords, qm_L_149, qn_TwinBoot, by decide +kernel⟩
theorem qm_X6_172 : Cond.methodLink RX6 172 yX6_standsBefore ∈ TT := TT_of (tb4 (List.mem_of_getElem? (i := 159) rfl)) rfl
theorem cw_X6_172 : cw RX6 172 yX6_standsBefore cX6_standsBefore 3 (some FieldType.boolean) 2 := ⟨qc_X6_standsBefore, qm_X6_172, qn_TwinBoot, by decide +kernel⟩
theorem qm_L_112 : Cond.methodLink RL 112 yX6_logSize ∈ TT := TT_of (tb4 (List.mem_of_getElem? (i := 162) rfl)) rfl
theorem cw_L_112 : cw RL 112 yX6_logSize cX6_logSize 1 (some FieldType.int) 0 := ⟨qc_X6_logSize, qm_L_112, qn_TwinBoot, by decide +kernel⟩
theorem qm_X6_254 : Cond.methodLink RX6 254 yX3_size ∈ TT := TT_of (tb4 (List.mem_of_getElem? (i := 166) rfl)) rfl
theorem cw_X6_254 : cw RX6 254 yX3_size cX3_size 1 (some FieldType.int) 0 := ⟨qc_X3_size, qm_X6_254, qn_TwinBoot_Log, by decide +kernel⟩
theorem qm_X3_40 : Cond.methodLink RX3 40 yJ9_min_7cf53 ∈ TT := TT_of (tb4 (List.mem_of_getElem? (i := 170) rfl)) rfl
theorem cw_X3_40 : cw RX3 40 yJ9_min_7cf53 cJ9_min_7cf53 2 (some FieldType.int) 2 := ⟨qc_J9_min_7cf53, qm_X3_40, qn_java_lang_Math, by decide +kernel⟩
theorem qm_L_152 : Cond.methodLink RL 152 yJ9_min_7cf53 ∈ TT := TT_of (tb4 (List.mem_of_getElem? (i := 171) rfl)) rfl
theorem cw_L_152 : cw RL 152 yJ9_min_7cf53 cJ9_min_7cf53 2 (some FieldType.int) 2 := ⟨qc_J9_min_7cf53, qm_L_152, qn_java_lang_Math, by decide +kernel⟩
theorem qm_L_89 : Cond.methodLink RL 89 yX6_running ∈ TT := TT_of (tb4 (List.mem_of_getElem? (i := 172) rfl)) rfl
theorem cw_L_89 : cw RL 89 yX6_running cX6_running 1 (some FieldType.int) 0 := ⟨qc_X6_running, qm_L_89, qn_TwinBoot, by decide +kernel⟩
theorem qm_L_84 : Cond.methodLink RL 84 yX6_state ∈ TT := TT_of (tb4 (List.mem_of_getElem? (i := 176) rfl)) rfl
theorem cw_L_84 : cw RL 84 yX6_state cX6_state 1 (some FieldType.int) 0 := ⟨qc_X6_state, qm_L_84, qn_TwinBoot, by decide +kernel⟩
theorem qm_L_240 : Cond.methodLink RL 240 yL_boots ∈ TT := TT_of (tb4 (List.mem_of_getElem? (i := 180) rfl)) rfl
theorem qm_L_155 : Cond.methodLink RL 155 yL_whole ∈ TT := TT_of (tb4 (List.mem_of_getElem? (i := 183) rfl)) rfl
theorem qm_L_79 : Cond.methodLink RL 79 yX6_operations ∈ TT := TT_of (tb4 (List.mem_of_getElem? (i := 186) rfl)) rfl
theorem cw_L_79 : cw RL 79 yX6_operations cX6_operations 1 (some FieldType.int) 0 := ⟨qc_X6_operations, qm_L_79, qn_TwinBoot, by decide +kernel⟩
theorem qm_L_94 : Cond.methodLink RL 94 yX6_power ∈ TT := TT_of (tb4 (List.mem_of_getElem? (i := 193) rfl)) rfl
theorem cw_L_94 : cw RL 94 yX6_power cX6_power 1 (some FieldType.int) 0 := ⟨qc_X6_power, qm_L_94, qn_TwinBoot, by decide +kernel⟩
theorem qm_L_97 : Cond.methodLink RL 97 yX6_setting ∈ TT := TT_of (tb4 (List.mem_of_getElem? (i := 197) rfl)) rfl
theorem cw_L_97 : cw RL 97 yX6_setting cX6_setting 2 (some FieldType.int) 1 := ⟨qc_X6_setting, qm_L_97, qn_TwinBoot, by decide +kernel⟩
theorem qm_L_103 : Cond.methodLink RL 103 yX6_journalWord ∈ TT := TT_of (tb4 (List.mem_of_getElem? (i := 201) rfl)) rfl
theorem cw_L_103 : cw RL 103 yX6_journalWord cX6_journalWord 3 (some FieldType.int) 2 := ⟨qc_X6_journalWord, qm_L_103, qn_TwinBoot, by decide +kernel⟩
theorem qm_L_159 : Cond.methodLink RL 159 yX6_bootWould ∈ TT := TT_of (tb4 (List.mem_of_getElem? (i := 205) rfl)) rfl
theorem cw_L_159 : cw RL 159 yX6_bootWould cX6_bootWould 1 (some FieldType.int) 0 := ⟨qc_X6_bootWould, qm_L_159, qn_TwinBoot, by decide +kernel⟩
theorem qm_X6_213 : Cond.methodLink RX6 213 yX6_prepareTrial ∈ TT := TT_of (tb4 (List.mem_of_getElem? (i := 209) rfl)) rfl
theorem cw_X6_213 : cw RX6 213 yX6_prepareTrial cX6_prepareTrial 2 none 1 := ⟨qc_X6_prepareTrial, qm_X6_213, qn_TwinBoot, by decide +kernel⟩
theorem qm_X6_238 : Cond.methodLink RX6 238 yX0_copyFrom ∈ TT := TT_of (tb4 (List.mem_of_getElem? (i := 213) rfl)) rfl
theorem cw_X6_238 : cw RX6 238 yX0_copyFrom cX0_copyFrom 2 none 1 := ⟨qc_X0_copyFrom, qm_X6_238, qn_TwinBoot_Device, by decide +kernel⟩
theorem qm_X0_61 : Cond.methodLink RX0 61 yX1_copyFrom ∈ TT := TT_of (tb4 (List.mem_of_getElem? (i := 217) rfl)) rfl
theorem cw_X0_61 : cw RX0 61 yX1_copyFrom cX1_copyFrom 3 none 1 := ⟨qc_X1_copyFrom, qm_X0_61, qn_TwinBoot_Flash, by decide +kernel⟩
theorem qm_X0_65 : Cond.methodLink RX0 65 yX3_copyFrom ∈ TT := TT_of (tb4 (List.mem_of_getElem? (i := 221) rfl)) rfl
theorem cw_X0_65 : cw RX0 65 yX3_copyFrom cX3_copyFrom 2 none 1 := ⟨qc_X3_copyFrom, qm_X0_65, qn_TwinBoot_Log, by decide +kernel⟩
theorem qm_X3_34 : Cond.methodLink RX3 34 ⟨"java/lang/System", "arraycopy", "(Ljava/lang/Object;ILjava/lang/Object;II)V"⟩ ∈ TT := TT_of (tb4 (List.mem_of_getElem? (i := 225) rfl)) rfl
theorem qm_X0_68 : Cond.methodLink RX0 68 ⟨"java/lang/System", "arraycopy", "(Ljava/lang/Object;ILjava/lang/Object;II)V"⟩ ∈ TT := TT_of (tb4 (List.mem_of_getElem? (i := 226) rfl)) rfl
theorem qm_L_162 : Cond.methodLink RL 162 yX6_bootOperations ∈ TT := TT_of (tb4 (List.mem_of_getElem? (i := 227) rfl)) rfl
theorem cw_L_162 : cw RL 162 yX6_bootOperations cX6_bootOperations 1 (some FieldType.int) 0 := ⟨qc_X6_bootOperations, qm_L_162, qn_TwinBoot, by decide +kernel⟩
theorem qm_L_165 : Cond.methodLink RL 165 yX6_firstBootCut ∈ TT := TT_of (tb4 (List.mem_of_getElem? (i := 231) rfl)) rfl
theorem cw_L_165 : cw RL 165 yX6_firstBootCut cX6_firstBootCut 3 (some FieldType.int) 0 := ⟨qc_X6_firstBootCut, qm_L_165, qn_TwinBoot, by decide +kernel⟩
theorem qm_L_168 : Cond.methodLink RL 168 yX6_bootsToRollback ∈ TT := TT_of (tb4 (List.mem_of_getElem? (i := 235) rfl)) rfl
theorem cw_L_168 : cw RL 168 yX6_bootsToRollback cX6_bootsToRollback 4 (some FieldType.int) 0 := ⟨qc_X6_bootsToRollback, qm_L_168, qn_TwinBoot, by decide +kernel⟩
theorem qm_L_171 : Cond.methodLink RL 171 yX6_saveSnapshot ∈ TT := TT_of (tb4 (List.mem_of_getElem? (i := 239) rfl)) rfl
theorem cw_L_171 : cw RL 171 yX6_saveSnapshot cX6_saveSnapshot 2 (some FieldType.int) 1 := ⟨qc_X6_saveSnapshot, qm_L_171, qn_TwinBoot, by decide +kernel⟩
theorem qm_L_174 : Cond.methodLink RL 174 yX6_restoreSnapshot ∈ TT := TT_of (tb5 (List.mem_of_getElem? (i := 3) rfl)) rfl
theorem cw_L_174 : cw RL 174 yX6_restoreSnapshot cX6_restoreSnapshot 2 (some FieldType.int) 1 := ⟨qc_X6_restoreSnapshot, qm_L_174, qn_TwinBoot, by decide +kernel⟩
theorem qm_L_177 : Cond.methodLink RL 177 yJ9_max_7cf53 ∈ TT := TT_of (tb5 (List.mem_of_getElem? (i := 7) rfl)) rfl
theorem cw_L_177 : cw RL 177 yJ9_max_7cf53 cJ9_max_7cf53 2 (some FieldType.int) 2 := ⟨qc_J9_max_7cf53, qm_L_177, qn_java_lang_Math, by decide +kernel⟩
theorem qm_L_243 : Cond.methodLink RL 243 yL_updates ∈ TT := TT_of (tb5 (List.mem_of_getElem? (i := 8) rfl)) rfl
theorem qm_L_180 : Cond.methodLink RL 180 yX6_updateOperations ∈ TT := TT_of (tb5 (List.mem_of_getElem? (i := 11) rfl)) rfl
theorem cw_L_180 : cw RL 180 yX6_updateOperations cX6_updateOperations 2 (some FieldType.int) 1 := ⟨qc_X6_updateOperations, qm_L_180, qn_TwinBoot, by decide +kernel⟩
theorem qm_L_183 : Cond.methodLink RL 183 yX6_slotAfterCut ∈ TT := TT_of (tb5 (List.mem_of_getElem? (i := 15) rfl)) rfl
theorem cw_L_183 : cw RL 183 yX6_slotAfterCut cX6_slotAfterCut 3 (some FieldType.int) 2 := ⟨qc_X6_slotAfterCut, qm_L_183, qn_TwinBoot, by decide +kernel⟩
theorem qm_X6_216 : Cond.methodLink RX6 216 yX6_requireCut ∈ TT := TT_of (tb5 (List.mem_of_getElem? (i := 19) rfl)) rfl
theorem cw_X6_216 : cw RX6 216 yX6_requireCut cX6_requireCut 1 none 1 := ⟨qc_X6_requireCut, qm_X6_216, qn_TwinBoot, by decide +kernel⟩
theorem qm_X6_219 : Cond.methodLink RX6 219 yX6_bootAfterCut ∈ TT := TT_of (tb5 (List.mem_of_getElem? (i := 22) rfl)) rfl
theorem cw_X6_219 : cw RX6 219 yX6_bootAfterCut cX6_bootAfterCut 5 (some FieldType.int) 3 := ⟨qc_X6_bootAfterCut, qm_X6_219, qn_TwinBoot, by decide +kernel⟩
theorem qm_L_186 : Cond.methodLink RL 186 yX6_thriftyOperations ∈ TT := TT_of (tb5 (List.mem_of_getElem? (i := 26) rfl)) rfl
theorem cw_L_186 : cw RL 186 yX6_thriftyOperations cX6_thriftyOperations 2 (some FieldType.int) 1 := ⟨qc_X6_thriftyOperations, qm_L_186, qn_TwinBoot, by decide +kernel⟩
theorem qm_L_189 : Cond.methodLink RL 189 yX6_firstUnsafeCut ∈ TT := TT_of (tb5 (List.mem_of_getElem? (i := 30) rfl)) rfl
theorem cw_L_189 : cw RL 189 yX6_firstUnsafeCut cX6_firstUnsafeCut 2 (some FieldType.int) 1 := ⟨qc_X6_firstUnsafeCut, qm_L_189, qn_TwinBoot, by decide +kernel⟩
theorem qm_X6_223 : Cond.methodLink RX6 223 yX6_unsafeCut ∈ TT := TT_of (tb5 (List.mem_of_getElem? (i := 34) rfl)) rfl
theorem cw_X6_223 : cw RX6 223 yX6_unsafeCut cX6_unsafeCut 5 (some FieldType.int) 2 := ⟨qc_X6_unsafeCut, qm_X6_223, qn_TwinBoot, by decide +kernel⟩
theorem qm_L_192 : Cond.methodLink RL 192 yX6_told ∈ TT := TT_of (tb5 (List.mem_of_getElem? (i := 38) rfl)) rfl
theorem cw_L_192 : cw RL 192 yX6_told cX6_told 2 (some FieldType.int) 1 := ⟨qc_X6_told, qm_L_192, qn_TwinBoot, by decide +kernel⟩
theorem qm_X6_210 : Cond.methodLink RX6 210 yX2_part ∈ TT := TT_of (tb5 (List.mem_of_getElem? (i := 42) rfl)) rfl
theorem cw_X6_210 : cw RX6 210 yX2_part cX2_part 2 (some FieldType.int) 1 := ⟨qc_X2_part, qm_X6_210, qn_TwinBoot_Ledger, by decide +kernel⟩
theorem qm_L_195 : Cond.methodLink RL 195 yX6_cutsToNew ∈ TT := TT_of (tb5 (List.mem_of_getElem? (i := 46) rfl)) rfl
theorem cw_L_195 : cw RL 195 yX6_cutsToNew cX6_cutsToNew 5 (some FieldType.int) 1 := ⟨qc_X6_cutsToNew, qm_L_195, qn_TwinBoot, by decide +kernel⟩
theorem qm_L_198 : Cond.methodLink RL 198 yX6_longestOldRun ∈ TT := TT_of (tb5 (List.mem_of_getElem? (i := 50) rfl)) rfl
theorem cw_L_198 : cw RL 198 yX6_longestOldRun cX6_longestOldRun 6 (some FieldType.int) 1 := ⟨qc_X6_longestOldRun, qm_L_198, qn_TwinBoot, by decide +kernel⟩
theorem qm_X6_226 : Cond.methodLink RX6 226 yJ9_max_7cf53 ∈ TT := TT_of (tb5 (List.mem_of_getElem? (i := 54) rfl)) rfl
theorem cw_X6_226 : cw RX6 226 yJ9_max_7cf53 cJ9_max_7cf53 2 (some FieldType.int) 2 := ⟨qc_J9_max_7cf53, qm_X6_226, qn_java_lang_Math, by decide +kernel⟩
theorem qm_L_201 : Cond.methodLink RL 201 yX6_firstUnsafeThriftyCut ∈ TT := TT_of (tb5 (List.mem_of_getElem? (i := 55) rfl)) rfl
theorem cw_L_201 : cw RL 201 yX6_firstUnsafeThriftyCut cX6_firstUnsafeThriftyCut 2 (some FieldType.int) 1 := ⟨qc_X6_firstUnsafeThriftyCut, qm_L_201, qn_TwinBoot, by decide +kernel⟩
theorem qm_L_204 : Cond.methodLink RL 204 yX6_thriftyPages ∈ TT := TT_of (tb5 (List.mem_of_getElem? (i := 59) rfl)) rfl
theorem cw_L_204 : cw RL 204 yX6_thriftyPages cX6_thriftyPages 3 (some FieldType.int) 0 := ⟨qc_X6_thriftyPages, qm_L_204, qn_TwinBoot, by decide +kernel⟩
theorem qm_X6_231 : Cond.methodLink RX6 231 yX1_mustErase ∈ TT := TT_of (tb5 (List.mem_of_getElem? (i := 63) rfl)) rfl
theorem cw_X6_231 : cw RX6 231 yX1_mustErase cX1_mustErase 8 (some FieldType.boolean) 4 := ⟨qc_X1_mustErase, qm_X6_231, qn_TwinBoot_Flash, by decide +kernel⟩
theorem qm_L_210 : Cond.methodLink RL 210 yJ4_init_da8c8 ∈ TT := TT_of (tb5 (List.mem_of_getElem? (i := 66) rfl)) rfl
theorem cw_L_210 : cw RL 210 yJ4_init_da8c8 cJ4_init_da8c8 1 none 0 := ⟨qc_J4_init_da8c8, qm_L_210, qn_java_lang_StringBuilder, by decide +kernel⟩
theorem qm_J4_1 : Cond.methodLink RJ4 1 yJ5_init_d00df ∈ TT := TT_of (tb5 (List.mem_of_getElem? (i := 69) rfl)) rfl
theorem cw_J4_1 : cw RJ4 1 yJ5_init_d00df cJ5_init_d00df 2 none 1 := ⟨qc_J5_init_d00df, qm_J4_1, qn_java_lang_AbstractStringBuilder, by decide +kernel⟩
theorem qm_J5_3 : Cond.methodLink RJ5 3 ⟨"java/lang/Object", "<init>", "()V"⟩ ∈ TT := TT_of (tb5 (List.mem_of_getElem? (i := 72) rfl)) rfl
theorem qm_J5_26 : Cond.methodLink RJ5 26 yJ2_newBytesFor_77867 ∈ TT := TT_of (tb5 (List.mem_of_getElem? (i := 74) rfl)) rfl
theorem cw_J5_26 : cw RJ5 26 yJ2_newBytesFor_77867 cJ2_newBytesFor_77867 1 (some (FieldType.array FieldType.byte)) 1 := ⟨qc_J2_newBytesFor_77867, qm_J5_26, qn_java_lang_StringUTF16, by decide +kernel⟩
theorem qm_J2_11 : Cond.methodLink RJ2 11 yJ2_newBytesLength_0f7a4 ∈ TT := TT_of (tb5 (List.mem_of_getElem? (i := 77) rfl)) rfl
theorem cw_J2_11 : cw RJ2 11 yJ2_newBytesLength_0f7a4 cJ2_newBytesLength_0f7a4 1 (some FieldType.int) 1 := ⟨qc_J2_newBytesLength_0f7a4, qm_J2_11, qn_java_lang_StringUTF16, by decide +kernel⟩
theorem qm_L_213 : Cond.methodLink RL 213 yJ4_append_15ec4 ∈ TT := TT_of (tb5 (List.mem_of_getElem? (i := 94) rfl)) rfl
theorem cw_L_213 : cw RL 213 yJ4_append_15ec4 cJ4_append_15ec4 2 (some (FieldType.object "java/lang/StringBuilder")) 1 := ⟨qc_J4_append_15ec4, qm_L_213, qn_java_lang_StringBuilder, by decide +kernel⟩
theorem qm_J4_29 : Cond.methodLink RJ4 29 yJ5_append_cf1ce ∈ TT := TT_of (tb5 (List.mem_of_getElem? (i := 98) rfl)) rfl
theorem cw_J4_29 : cw RJ4 29 yJ5_append_cf1ce cJ5_append_cf1ce 3 (some (FieldType.object "java/lang/AbstractStringBuilder")) 1 := ⟨qc_J5_append_cf1ce, qm_J4_29, qn_java_lang_AbstractStringBuilder, by decide +kernel⟩
theorem qm_J5_204 : Cond.methodLink RJ5 204 yJ5_appendNull_278bc ∈ TT := TT_of (tb5 (List.mem_of_getElem? (i := 101) rfl)) rfl
theorem cw_J5_204 : cw RJ5 204 yJ5_appendNull_278bc cJ5_appendNull_278bc 3 (some (FieldType.object "java/lang/AbstractStringBuilder")) 0 := ⟨qc_J5_appendNull_278bc, qm_J5_204, qn_java_lang_AbstractStringBuilder, by decide +kernel⟩
theorem qm_J5_100 : Cond.methodLink RJ5 100 yJ5_ensureCapacityInternal_d00df ∈ TT := TT_of (tb5 (List.mem_of_getElem? (i := 105) rfl)) rfl
theorem cw_J5_100 : cw RJ5 100 yJ5_ensureCapacityInternal_d00df cJ5_ensureCapacityInternal_d00df 3 none 1 := ⟨qc_J5_ensureCapacityInternal_d00df, qm_J5_100, qn_java_lang_AbstractStringBuilder, by decide +kernel⟩
theorem qm_J5_104 : Cond.methodLink RJ5 104 yJ5_newCapacity_0f7a4 ∈ TT := TT_of (tb5 (List.mem_of_getElem? (i := 109) rfl)) rfl
theorem cw_J5_104 : cw RJ5 104 yJ5_newCapacity_0f7a4 cJ5_newCapacity_0f7a4 6 (some FieldType.int) 1 := ⟨qc_J5_newCapacity_0f7a4, qm_J5_104, qn_java_lang_AbstractStringBuilder, by decide +kernel⟩
theorem qm_J5_114 : Cond.methodLink RJ5 114 yJ8_newLength_cabcc ∈ TT := TT_of (tb5 (List.mem_of_getElem? (i := 113) rfl)) rfl
theorem cw_J5_114 : cw RJ5 114 yJ8_newLength_cabcc cJ8_newLength_cabcc 4 (some FieldType.int) 3 := ⟨qc_J8_newLength_cabcc, qm_J5_114, qn_jdk_internal_util_ArraysSupport, by decide +kernel⟩
theorem qm_J8_194 : Cond.methodLink RJ8 194 yJ9_max_7cf53 ∈ TT := TT_of (tb5 (List.mem_of_getElem? (i := 116) rfl)) rfl
theorem cw_J8_194 : cw RJ8 194 yJ9_max_7cf53 cJ9_max_7cf53 2 (some FieldType.int) 2 := ⟨qc_J9_max_7cf53, qm_J8_194, qn_java_lang_Math, by decide +kernel⟩
theorem qm_J8_201 : Cond.methodLink RJ8 201 yJ8_hugeLength_7cf53 ∈ TT := TT_of (tb5 (List.mem_of_getElem? (i := 118) rfl)) rfl
theorem cw_J8_201 : cw RJ8 201 yJ8_hugeLength_7cf53 cJ8_hugeLength_7cf53 3 (some FieldType.int) 2 := ⟨qc_J8_hugeLength_7cf53, qm_J8_201, qn_jdk_internal_util_ArraysSupport, by decide +kernel⟩
theorem qm_J5_108 : Cond.methodLink RJ5 108 yJ7_copyOf_9075b ∈ TT := TT_of (tb5 (List.mem_of_getElem? (i := 122) rfl)) rfl
theorem cw_J5_108 : cw RJ5 108 yJ7_copyOf_9075b cJ7_copyOf_9075b 3 (some (FieldType.array FieldType.byte)) 2 := ⟨qc_J7_copyOf_9075b, qm_J5_108, qn_java_util_Arrays, by decide +kernel⟩
theorem qm_J7_310 : Cond.methodLink RJ7 310 ⟨"[B", "clone", "()Ljava/lang/Object;"⟩ ∈ TT := TT_of (tb5 (List.mem_of_getElem? (i := 125) rfl)) rfl
theorem qm_J7_304 : Cond.methodLink RJ7 304 yJ9_min_7cf53 ∈ TT := TT_of (tb5 (List.mem_of_getElem? (i := 132) rfl)) rfl
theorem cw_J7_304 : cw RJ7 304 yJ9_min_7cf53 cJ9_min_7cf53 2 (some FieldType.int) 2 := ⟨qc_J9_min_7cf53, qm_J7_304, qn_java_lang_Math, by decide +kernel⟩
theorem qm_J7_150 : Cond.methodLink RJ7 150 ⟨"java/lang/System", "arraycopy", "(Ljava/lang/Object;ILjava/lang/Object;II)V"⟩ ∈ TT := TT_of (tb5 (List.mem_of_getElem? (i := 133) rfl)) rfl
theorem qm_J5_83 : Cond.methodLink RJ5 83 yJ5_isLatin1_aae02 ∈ TT := TT_of (tb5 (List.mem_of_getElem? (i := 134) rfl)) rfl
theorem cw_J5_83 : cw RJ5 83 yJ5_isLatin1_aae02 cJ5_isLatin1_aae02 1 (some FieldType.boolean) 0 := ⟨qc_J5_isLatin1_aae02, qm_J5_83, qn_java_lang_AbstractStringBuilder, by decide +kernel⟩
theorem qm_J5_226 : Cond.methodLink RJ5 226 yJ2_putCharsAt_cd4e5 ∈ TT := TT_of (tb5 (List.mem_of_getElem? (i := 139) rfl)) rfl
theorem cw_J5_226 : cw RJ5 226 yJ2_putCharsAt_cd4e5 cJ2_putCharsAt_cd4e5 7 (some FieldType.int) 6 := ⟨qc_J2_putCharsAt_cd4e5, qm_J5_226, qn_java_lang_StringUTF16, by decide +kernel⟩
theorem qm_J2_96 : Cond.methodLink RJ2 96 yJ2_checkBoundsBeginEnd_d044e ∈ TT := TT_of (tb5 (List.mem_of_getElem? (i := 142) rfl)) rfl
theorem cw_J2_96 : cw RJ2 96 yJ2_checkBoundsBeginEnd_d044e cJ2_checkBoundsBeginEnd_d044e 3 none 3 := ⟨qc_J2_checkBoundsBeginEnd_d044e, qm_J2_96, qn_java_lang_StringUTF16, by decide +kernel⟩
theorem qm_J2_241 : Cond.methodLink RJ2 241 yJ0_checkBoundsBeginEnd_23922 ∈ TT := TT_of (tb5 (List.mem_of_getElem? (i := 145) rfl)) rfl
theorem cw_J2_241 : cw RJ2 241 yJ0_checkBoundsBeginEnd_23922 cJ0_checkBoundsBeginEnd_23922 3 none 3 := ⟨qc_J0_checkBoundsBeginEnd_23922, qm_J2_241, qn_java_lang_String, by decide +kernel⟩
theorem qm_J0_1062 : Cond.methodLink RJ0 1062 yJ3_checkFromToIndex_8c36e ∈ TT := TT_of (tb5 (List.mem_of_getElem? (i := 148) rfl)) rfl
theorem cw_J0_1062 : cw RJ0 1062 yJ3_checkFromToIndex_8c36e cJ3_checkFromToIndex_8c36e 4 (some FieldType.int) 4 := ⟨qc_J3_checkFromToIndex_8c36e, qm_J0_1062, qn_jdk_internal_util_Preconditions, by decide +kernel⟩
theorem qm_J2_111 : Cond.methodLink RJ2 111 yJ2_putChar_b72d1 ∈ TT := TT_of (tb5 (List.mem_of_getElem? (i := 151) rfl)) rfl
theorem cw_J2_111 : cw RJ2 111 yJ2_putChar_b72d1 cJ2_putChar_b72d1 3 none 3 := ⟨qc_J2_putChar_b72d1, qm_J2_111, qn_java_lang_StringUTF16, by decide +kernel⟩
theorem qm_J5_32 : Cond.methodLink RJ5 32 yJ0_length_8abf5 ∈ TT := TT_of (tb5 (List.mem_of_getElem? (i := 154) rfl)) rfl
theorem cw_J5_32 : cw RJ5 32 yJ0_length_8abf5 cJ0_length_8abf5 1 (some FieldType.int) 0 := ⟨qc_J0_length_8abf5, qm_J5_32, qn_java_lang_String, by decide +kernel⟩
theorem qm_J5_208 : Cond.methodLink RJ5 208 yJ5_putStringAt_47b60 ∈ TT := TT_of (tb5 (List.mem_of_getElem? (i := 155) rfl)) rfl
theorem cw_J5_208 : cw RJ5 208 yJ5_putStringAt_47b60 cJ5_putStringAt_47b60 3 none 2 := ⟨qc_J5_putStringAt_47b60, qm_J5_208, qn_java_lang_AbstractStringBuilder, by decide +kernel⟩
theorem qm_J5_397 : Cond.methodLink RJ5 397 yJ5_inflateIfNeededFor_a7421 ∈ TT := TT_of (tb5 (List.mem_of_getElem? (i := 159) rfl)) rfl
theorem cw_J5_397 : cw RJ5 397 yJ5_inflateIfNeededFor_a7421 cJ5_inflateIfNeededFor_a7421 2 none 1 := ⟨qc_J5_inflateIfNeededFor_a7421, qm_J5_397, qn_java_lang_AbstractStringBuilder, by decide +kernel⟩
theorem qm_J5_40 : Cond.methodLink RJ5 40 yJ0_coder_7d493 ∈ TT := TT_of (tb5 (List.mem_of_getElem? (i := 163) rfl)) rfl
theorem cw_J5_40 : cw RJ5 40 yJ0_coder_7d493 cJ0_coder_7d493 1 (some FieldType.byte) 0 := ⟨qc_J0_coder_7d493, qm_J5_40, qn_java_lang_String, by decide +kernel⟩
theorem qm_J5_195 : Cond.methodLink RJ5 195 yJ5_inflate_da8c8 ∈ TT := TT_of (tb5 (List.mem_of_getElem? (i := 164) rfl)) rfl
theorem cw_J5_195 : cw RJ5 195 yJ5_inflate_da8c8 cJ5_inflate_da8c8 2 none 0 := ⟨qc_J5_inflate_da8c8, qm_J5_195, qn_java_lang_AbstractStringBuilder, by decide +kernel⟩
theorem qm_J5_125 : Cond.methodLink RJ5 125 yJ1_inflate_0e8fd ∈ TT := TT_of (tb5 (List.mem_of_getElem? (i := 168) rfl)) rfl
theorem cw_J5_125 : cw RJ5 125 yJ1_inflate_0e8fd cJ1_inflate_0e8fd 5 none 5 := ⟨qc_J1_inflate_0e8fd, qm_J5_125, qn_java_lang_StringLatin1, by decide +kernel⟩
theorem qm_J1_240 : Cond.methodLink RJ1 240 yJ2_inflate_0e8fd ∈ TT := TT_of (tb5 (List.mem_of_getElem? (i := 171) rfl)) rfl
theorem cw_J1_240 : cw RJ1 240 yJ2_inflate_0e8fd cJ2_inflate_0e8fd 6 none 5 := ⟨qc_J2_inflate_0e8fd, qm_J1_240, qn_java_lang_StringUTF16, by decide +kernel⟩
theorem qm_J2_173 : Cond.methodLink RJ2 173 yJ2_checkBoundsOffCount_d044e ∈ TT := TT_of (tb5 (List.mem_of_getElem? (i := 174) rfl)) rfl
theorem cw_J2_173 : cw RJ2 173 yJ2_checkBoundsOffCount_d044e cJ2_checkBoundsOffCount_d044e 3 none 3 := ⟨qc_J2_checkBoundsOffCount_d044e, qm_J2_173, qn_java_lang_StringUTF16, by decide +kernel⟩
theorem qm_J2_419 : Cond.methodLink RJ2 419 yJ0_checkBoundsOffCount_cabcc ∈ TT := TT_of (tb5 (List.mem_of_getElem? (i := 177) rfl)) rfl
theorem cw_J2_419 : cw RJ2 419 yJ0_checkBoundsOffCount_cabcc cJ0_checkBoundsOffCount_cabcc 3 (some FieldType.int) 3 := ⟨qc_J0_checkBoundsOffCount_cabcc, qm_J2_419, qn_java_lang_String, by decide +kernel⟩
theorem qm_J0_1065 : Cond.methodLink RJ0 1065 yJ3_checkFromIndexSize_8c36e ∈ TT := TT_of (tb5 (List.mem_of_getElem? (i := 180) rfl)) rfl
theorem cw_J0_1065 : cw RJ0 1065 yJ3_checkFromIndexSize_8c36e cJ3_checkFromIndexSize_8c36e 4 (some FieldType.int) 4 := ⟨qc_J3_checkFromIndexSize_8c36e, qm_J0_1065, qn_jdk_internal_util_Preconditions, by decide +kernel⟩
theorem qm_J5_399 : Cond.methodLink RJ5 399 yJ0_getBytes_840e7 ∈ TT := TT_of (tb5 (List.mem_of_getElem? (i := 183) rfl)) rfl
theorem cw_J5_399 : cw RJ5 399 yJ0_getBytes_840e7 cJ0_getBytes_840e7 4 none 3 := ⟨qc_J0_getBytes_840e7, qm_J5_399, qn_java_lang_String, by decide +kernel⟩
theorem qm_J0_212 : Cond.methodLink RJ0 212 ⟨"java/lang/System", "arraycopy", "(Ljava/lang/Object;ILjava/lang/Object;II)V"⟩ ∈ TT := TT_of (tb5 (List.mem_of_getElem? (i := 187) rfl)) rfl
theorem qm_J0_106 : Cond.methodLink RJ0 106 yJ1_inflate_0e8fd ∈ TT := TT_of (tb5 (List.mem_of_getElem? (i := 188) rfl)) rfl
theorem cw_J0_106 : cw RJ0 106 yJ1_inflate_0e8fd cJ1_inflate_0e8fd 5 none 5 := ⟨qc_J1_inflate_0e8fd, qm_J0_106, qn_java_lang_StringLatin1, by decide +kernel⟩
theorem qm_L_216 : Cond.methodLink RL 216 yJ4_append_bf812 ∈ TT := TT_of (tb5 (List.mem_of_getElem? (i := 189) rfl)) rfl
theorem cw_L_216 : cw RL 216 yJ4_append_bf812 cJ4_append_bf812 2 (some (FieldType.object "java/lang/StringBuilder")) 1 := ⟨qc_J4_append_bf812, qm_L_216, qn_java_lang_StringBuilder, by decide +kernel⟩
theorem qm_J4_53 : Cond.methodLink RJ4 53 yJ5_append_c97b9 ∈ TT := TT_of (tb5 (List.mem_of_getElem? (i := 193) rfl)) rfl
theorem cw_J4_53 : cw RJ4 53 yJ5_append_c97b9 cJ5_append_c97b9 4 (some (FieldType.object "java/lang/AbstractStringBuilder")) 1 := ⟨qc_J5_append_c97b9, qm_J4_53, qn_java_lang_AbstractStringBuilder, by decide +kernel⟩
theorem qm_J5_245 : Cond.methodLink RJ5 245 yJ6_stringSize_0f7a4 ∈ TT := TT_of (tb5 (List.mem_of_getElem? (i := 196) rfl)) rfl
theorem cw_J5_245 : cw RJ5 245 yJ6_stringSize_0f7a4 cJ6_stringSize_0f7a4 4 (some FieldType.int) 1 := ⟨qc_J6_stringSize_0f7a4, qm_J5_245, qn_java_lang_Integer, by decide +kernel⟩
theorem qm_J5_248 : Cond.methodLink RJ5 248 yJ6_getChars_ba4f3 ∈ TT := TT_of (tb5 (List.mem_of_getElem? (i := 199) rfl)) rfl
theorem cw_J5_248 : cw RJ5 248 yJ6_getChars_ba4f3 cJ6_getChars_ba4f3 7 (some FieldType.int) 3 := ⟨qc_J6_getChars_ba4f3, qm_J5_248, qn_java_lang_Integer, by decide +kernel⟩
theorem qm_J5_251 : Cond.methodLink RJ5 251 yJ2_getChars_46870 ∈ TT := TT_of (tb5 (List.mem_of_getElem? (i := 206) rfl)) rfl
theorem cw_J5_251 : cw RJ5 251 yJ2_getChars_46870 cJ2_getChars_46870 5 (some FieldType.int) 4 := ⟨qc_J2_getChars_46870, qm_J5_251, qn_java_lang_StringUTF16, by decide +kernel⟩
theorem qm_J2_393 : Cond.methodLink RJ2 393 yJ2_getChars_ba4f3 ∈ TT := TT_of (tb5 (List.mem_of_getElem? (i := 209) rfl)) rfl
theorem cw_J2_393 : cw RJ2 393 yJ2_getChars_ba4f3 cJ2_getChars_ba4f3 7 (some FieldType.int) 3 := ⟨qc_J2_getChars_ba4f3, qm_J2_393, qn_java_lang_StringUTF16, by decide +kernel⟩
theorem qm_L_225 : Cond.methodLink RL 225 yJ4_toString_0e30d ∈ TT := TT_of (tb5 (List.mem_of_getElem? (i := 214) rfl)) rfl
theorem cw_L_225 : cw RL 225 yJ4_toString_0e30d cJ4_toString_0e30d 1 (some (FieldType.object "java/lang/String")) 0 := ⟨qc_J4_toString_0e30d, qm_L_225, qn_java_lang_StringBuilder, by decide +kernel⟩
theorem qm_J4_137 : Cond.methodLink RJ4 137 yJ0_init_81219 ∈ TT := TT_of (tb5 (List.mem_of_getElem? (i := 220) rfl)) rfl
theorem cw_J4_137 : cw RJ4 137 yJ0_init_81219 cJ0_init_81219 2 none 1 := ⟨qc_J0_init_81219, qm_J4_137, qn_java_lang_String, by decide +kernel⟩
theorem qm_J0_489 : Cond.methodLink RJ0 489 yJ0_init_db425 ∈ TT := TT_of (tb5 (List.mem_of_getElem? (i := 223) rfl)) rfl
theorem cw_J0_489 : cw RJ0 489 yJ0_init_db425 cJ0_init_db425 5 none 2 := ⟨qc_J0_init_db425, qm_J0_489, qn_java_lang_String, by decide +kernel⟩
theorem qm_J0_1 : Cond.methodLink RJ0 1 ⟨"java/lang/Object", "<init>", "()V"⟩ ∈ TT := TT_of (tb5 (List.mem_of_getElem? (i := 226) rfl)) rfl
theorem qm_J0_552 : Cond.methodLink RJ0 552 yJ5_getValue_6d5f1 ∈ TT := TT_of (tb5 (List.mem_of_getElem? (i := 227) rfl)) rfl
theorem cw_J0_552 : cw RJ0 552 yJ5_getValue_6d5f1 cJ5_getValue_6d5f1 1 (some (FieldType.array FieldType.byte)) 0 := ⟨qc_J5_getValue_6d5f1, qm_J0_552, qn_java_lang_AbstractStringBuilder, by decide +kernel⟩
theorem qm_J0_549 : Cond.methodLink RJ0 549 yJ5_length_8abf5 ∈ TT := TT_of (tb5 (List.mem_of_getElem? (i := 232) rfl)) rfl
theorem cw_J0_549 : cw RJ0 549 yJ5_length_8abf5 cJ5_length_8abf5 1 (some FieldType.int) 0 := ⟨qc_J5_length_8abf5, qm_J0_549, qn_java_lang_AbstractStringBuilder, by decide +kernel⟩
theorem qm_J4_343 : Cond.methodLink RJ4 343 yJ5_length_8abf5 ∈ TT := TT_of (tb5 (List.mem_of_getElem? (i := 238) rfl)) rfl
theorem cw_J4_343 : cw RJ4 343 yJ5_length_8abf5 cJ5_length_8abf5 1 (some FieldType.int) 0 := ⟨qc_J5_length_8abf5, qm_J4_343, qn_java_lang_AbstractStringBuilder, by decide +kernel⟩
theorem qm_J0_1047 : Cond.methodLink RJ0 1047 yJ5_isLatin1_aae02 ∈ TT := TT_of (tb6 (List.mem_of_getElem? (i := 0) rfl)) rfl
theorem cw_J0_1047 : cw RJ0 1047 yJ5_isLatin1_aae02 cJ5_isLatin1_aae02 1 (some FieldType.boolean) 0 := ⟨qc_J5_isLatin1_aae02, qm_J0_1047, qn_java_lang_AbstractStringBuilder, by decide +kernel⟩
theorem qm_J0_54 : Cond.methodLink RJ0 54 yJ7_copyOfRange_39247 ∈ TT := TT_of (tb6 (List.mem_of_getElem? (i := 1) rfl)) rfl
theorem cw_J0_54 : cw RJ0 54 yJ7_copyOfRange_39247 cJ7_copyOfRange_39247 3 (some (FieldType.array FieldType.byte)) 3 := ⟨qc_J7_copyOfRange_39247, qm_J0_54, qn_java_util_Arrays, by decide +kernel⟩
theorem qm_J7_339 : Cond.methodLink RJ7 339 yJ7_copyOfRangeByte_39247 ∈ TT := TT_of (tb6 (List.mem_of_getElem? (i := 4) rfl)) rfl
theorem cw_J7_339 : cw RJ7 339 yJ7_copyOfRangeByte_39247 cJ7_copyOfRangeByte_39247 5 (some (FieldType.array FieldType.byte)) 3 := ⟨qc_J7_copyOfRangeByte_39247, qm_J7_339, qn_java_util_Arrays, by decide +kernel⟩
theorem qm_J7_343 : Cond.methodLink RJ7 343 yJ7_checkLength_df160 ∈ TT := TT_of (tb6 (List.mem_of_getElem? (i := 7) rfl)) rfl
theorem cw_J7_343 : cw RJ7 343 yJ7_checkLength_df160 cJ7_checkLength_df160 2 none 2 := ⟨qc_J7_checkLength_df160, qm_J7_343, qn_java_util_Arrays, by decide +kernel⟩
theorem qm_J0_1051 : Cond.methodLink RJ0 1051 yJ2_compress_39247 ∈ TT := TT_of (tb6 (List.mem_of_getElem? (i := 10) rfl)) rfl
theorem cw_J0_1051 : cw RJ0 1051 yJ2_compress_39247 cJ2_compress_39247 6 (some (FieldType.array FieldType.byte)) 3 := ⟨qc_J2_compress_39247, qm_J0_1051, qn_java_lang_StringUTF16, by decide +kernel⟩
theorem qm_J2_123 : Cond.methodLink RJ2 123 yJ2_compress_5af95 ∈ TT := TT_of (tb6 (List.mem_of_getElem? (i := 13) rfl)) rfl
theorem cw_J2_123 : cw RJ2 123 yJ2_compress_5af95 cJ2_compress_5af95 7 (some FieldType.int) 5 := ⟨qc_J2_compress_5af95, qm_J2_123, qn_java_lang_StringUTF16, by decide +kernel⟩
theorem qm_J2_126 : Cond.methodLink RJ2 126 yJ7_copyOfRange_39247 ∈ TT := TT_of (tb6 (List.mem_of_getElem? (i := 16) rfl)) rfl
theorem cw_J2_126 : cw RJ2 126 yJ7_copyOfRange_39247 cJ7_copyOfRange_39247 3 (some (FieldType.array FieldType.byte)) 3 := ⟨qc_J7_copyOfRange_39247, qm_J2_126, qn_java_util_Arrays, by decide +kernel⟩
theorem qm_J0_47 : Cond.methodLink RJ0 47 yJ2_coderFromArrayLen_85cad ∈ TT := TT_of (tb6 (List.mem_of_getElem? (i := 17) rfl)) rfl
theorem cw_J0_47 : cw RJ0 47 yJ2_coderFromArrayLen_85cad cJ2_coderFromArrayLen_85cad 2 (some FieldType.byte) 2 := ⟨qc_J2_coderFromArrayLen_85cad, qm_J0_47, qn_java_lang_StringUTF16, by decide +kernel⟩
theorem lay_X0_0 : u_lay RX0 TX0 0 ∈ TT := TT_of (tb2 (List.mem_of_getElem? (i := 33) rfl)) rfl
theorem lay_X0_1 : u_lay RX0 TX0 1 ∈ TT := TT_of (tb2 (List.mem_of_getElem? (i := 35) rfl)) rfl
theorem lay_X0_2 : u_lay RX0 TX0 2 ∈ TT := TT_of (tb2 (List.mem_of_getElem? (i := 37) rfl)) rfl
theorem lay_X0_3 : u_lay RX0 TX0 3 ∈ TT := TT_of (tb2 (List.mem_of_getElem? (i := 39) rfl)) rfl
theorem lay_X0_4 : u_lay RX0 TX0 4 ∈ TT := TT_of (tb2 (List.mem_of_getElem? (i := 41) rfl)) rfl
theorem lay_X0_5 : u_lay RX0 TX0 5 ∈ TT := TT_of (tb2 (List.mem_of_getElem? (i := 43) rfl)) rfl
theorem lay_X0_6 : u_lay RX0 TX0 6 ∈ TT := TT_of (tb2 (List.mem_of_getElem? (i := 45) rfl)) rfl
theorem lay_X0_7 : u_lay RX0 TX0 7 ∈ TT := TT_of (tb2 (List.mem_of_getElem? (i := 47) rfl)) rfl
theorem lay_X0_8 : u_lay RX0 TX0 8 ∈ TT := TT_of (tb2 (List.mem_of_getElem? (i := 49) rfl)) rfl
theorem lay_X0 : ∀ w ∈ u_ws RX0 TX0 9, w ∈ TT := by
  intro w hw
  obtain ⟨k, hk, rfl⟩ := List.mem_map.mp hw
  have hk := List.mem_range.mp hk
  match k, hk with
  | 0, _ => exact lay_X0_0
  | 1, _ => exact lay_X0_1
  | 2, _ => exact lay_X0_2
  | 3, _ => exact lay_X0_3
  | 4, _ => exact lay_X0_4
  | 5, _ => exact lay_X0_5
  | 6, _ => exact lay_X0_6
  | 7, _ => exact lay_X0_7
  | 8, _ => exact lay_X0_8
  | k + 9, hk => exact absurd hk (by omega)
theorem fw_X0_5 : fw 3 5 TX0 9 := ⟨tyX0_ok, nmX0, rfl⟩
theorem fw_X0_6 : fw 3 6 TX0 9 := ⟨tyX0_ok, nmX0, rfl⟩
theorem fw_X0_7 : fw 3 7 TX0 9 := ⟨tyX0_ok, nmX0, rfl⟩
theorem fw_X0_8 : fw 3 8 TX0 9 := ⟨tyX0_ok, nmX0, rfl⟩
theorem lay_X1_0 : u_lay RX1 TX1 0 ∈ TT := TT_of (tb1 (List.mem_of_getElem? (i := 165) rfl)) rfl
theorem lay_X1_1 : u_lay RX1 TX1 1 ∈ TT := TT_of (tb1 (List.mem_of_getElem? (i := 167) rfl)) rfl
theorem lay_X1_2 : u_lay RX1 TX1 2 ∈ TT := TT_of (tb1 (List.mem_of_getElem? (i := 169) rfl)) rfl
theorem lay_X1_3 : u_lay RX1 TX1 3 ∈ TT := TT_of (tb1 (List.mem_of_getElem? (i := 171) rfl)) rfl
theorem lay_X1_4 : u_lay RX1 TX1 4 ∈ TT := TT_of (tb1 (List.mem_of_getElem? (i := 173) rfl)) rfl
theorem lay_X1_5 : u_lay RX1 TX1 5 ∈ TT := TT_of (tb1 (List.mem_of_getElem? (i := 175) rfl)) rfl
theorem lay_X1_6 : u_lay RX1 TX1 6 ∈ TT := TT_of (tb1 (List.mem_of_getElem? (i := 177) rfl)) rfl
theorem lay_X1_7 : u_lay RX1 TX1 7 ∈ TT := TT_of (tb1 (List.mem_of_getElem? (i := 179) rfl)) rfl
theorem lay_X1_8 : u_lay RX1 TX1 8 ∈ TT := TT_of (tb1 (List.mem_of_getElem? (i := 181) rfl)) rfl
theorem lay_X1 : ∀ w ∈ u_ws RX1 TX1 9, w ∈ TT := by
  intro w hw
  obtain ⟨k, hk, rfl⟩ := List.mem_map.mp hw
  have hk := List.mem_range.mp hk
  match k, hk with
  | 0, _ => exact lay_X1_0
  | 1, _ => exact lay_X1_1
  | 2, _ => exact lay_X1_2
  | 3, _ => exact lay_X1_3
  | 4, _ => exact lay_X1_4
  | 5, _ => exact lay_X1_5
  | 6, _ => exact lay_X1_6
  | 7, _ => exact lay_X1_7
  | 8, _ => exact lay_X1_8
  | k + 9, hk => exact absurd hk (by omega)
theorem fw_X1_2 : fw 4 2 TX1 9 := ⟨tyX1_ok, nmX1, rfl⟩
theorem fw_X1_3 : fw 4 3 TX1 9 := ⟨tyX1_ok, nmX1, rfl⟩
theorem fw_X1_4 : fw 4 4 TX1 9 := ⟨tyX1_ok, nmX1, rfl⟩
theorem fw_X1_5 : fw 4 5 TX1 9 := ⟨tyX1_ok, nmX1, rfl⟩
theorem fw_X1_6 : fw 4 6 TX1 9 := ⟨tyX1_ok, nmX1, rfl⟩
theorem fw_X1_7 : fw 4 7 TX1 9 := ⟨tyX1_ok, nmX1, rfl⟩
theorem fw_X1_8 : fw 4 8 TX1 9 := ⟨tyX1_ok, nmX1, rfl⟩
theorem lay_X2_0 : u_lay RX2 TX2 0 ∈ TT := TT_of (tb1 (List.mem_of_getElem? (i := 235) rfl)) rfl
theorem lay_X2_1 : u_lay RX2 TX2 1 ∈ TT := TT_of (tb1 (List.mem_of_getElem? (i := 237) rfl)) rfl
theorem lay_X2_2 : u_lay RX2 TX2 2 ∈ TT := TT_of (tb1 (List.mem_of_getElem? (i := 239) rfl)) rfl
theorem lay_X2_3 : u_lay RX2 TX2 3 ∈ TT := TT_of (tb2 (List.mem_of_getElem? (i := 1) rfl)) rfl
theorem lay_X2_4 : u_lay RX2 TX2 4 ∈ TT := TT_of (tb2 (List.mem_of_getElem? (i := 3) rfl)) rfl
theorem lay_X2_5 : u_lay RX2 TX2 5 ∈ TT := TT_of (tb2 (List.mem_of_getElem? (i := 5) rfl)) rfl
theorem lay_X2_6 : u_lay RX2 TX2 6 ∈ TT := TT_of (tb2 (List.mem_of_getElem? (i := 7) rfl)) rfl
theorem lay_X2_7 : u_lay RX2 TX2 7 ∈ TT := TT_of (tb2 (List.mem_of_getElem? (i := 9) rfl)) rfl
theorem lay_X2_8 : u_lay RX2 TX2 8 ∈ TT := TT_of (tb2 (List.mem_of_getElem? (i := 11) rfl)) rfl
theorem lay_X2_9 : u_lay RX2 TX2 9 ∈ TT := TT_of (tb2 (List.mem_of_getElem? (i := 13) rfl)) rfl
theorem lay_X2 : ∀ w ∈ u_ws RX2 TX2 10, w ∈ TT := by
  intro w hw
  obtain ⟨k, hk, rfl⟩ := List.mem_map.mp hw
  have hk := List.mem_range.mp hk
  match k, hk with
  | 0, _ => exact lay_X2_0
  | 1, _ => exact lay_X2_1
  | 2, _ => exact lay_X2_2
  | 3, _ => exact lay_X2_3
  | 4, _ => exact lay_X2_4
  | 5, _ => exact lay_X2_5
  | 6, _ => exact lay_X2_6
  | 7, _ => exact lay_X2_7
  | 8, _ => exact lay_X2_8
  | 9, _ => exact lay_X2_9
  | k + 10, hk => exact absurd hk (by omega)
theorem fw_X2_0 : fw 5 0 TX2 10 := ⟨tyX2_ok, nmX2, rfl⟩
theorem fw_X2_1 : fw 5 1 TX2 10 := ⟨tyX2_ok, nmX2, rfl⟩
theorem fw_X2_2 : fw 5 2 TX2 10 := ⟨tyX2_ok, nmX2, rfl⟩
theorem fw_X2_3 : fw 5 3 TX2 10 := ⟨tyX2_ok, nmX2, rfl⟩
theorem fw_X2_4 : fw 5 4 TX2 10 := ⟨tyX2_ok, nmX2, rfl⟩
theorem fw_X2_5 : fw 5 5 TX2 10 := ⟨tyX2_ok, nmX2, rfl⟩
theorem fw_X2_6 : fw 5 6 TX2 10 := ⟨tyX2_ok, nmX2, rfl⟩
theorem fw_X2_7 : fw 5 7 TX2 10 := ⟨tyX2_ok, nmX2, rfl⟩
theorem fw_X2_8 : fw 5 8 TX2 10 := ⟨tyX2_ok, nmX2, rfl⟩
theorem fw_X2_9 : fw 5 9 TX2 10 := ⟨tyX2_ok, nmX2, rfl⟩
theorem lay_X3_0 : u_lay RX3 TX3 0 ∈ TT := TT_of (tb1 (List.mem_of_getElem? (i := 196) rfl)) rfl
theorem lay_X3_1 : u_lay RX3 TX3 1 ∈ TT := TT_of (tb1 (List.mem_of_getElem? (i := 198) rfl)) rfl
theorem lay_X3_2 : u_lay RX3 TX3 2 ∈ TT := TT_of (tb1 (List.mem_of_getElem? (i := 200) rfl)) rfl
theorem lay_X3_3 : u_lay RX3 TX3 3 ∈ TT := TT_of (tb1 (List.mem_of_getElem? (i := 202) rfl)) rfl
theorem lay_X3_4 : u_lay RX3 TX3 4 ∈ TT := TT_of (tb1 (List.mem_of_getElem? (i := 204) rfl)) rfl
theorem lay_X3 : ∀ w ∈ u_ws RX3 TX3 5, w ∈ TT := by
  intro w hw
  obtain ⟨k, hk, rfl⟩ := List.mem_map.mp hw
  have hk := List.mem_range.mp hk
  match k, hk with
  | 0, _ => exact lay_X3_0
  | 1, _ => exact lay_X3_1
  | 2, _ => exact lay_X3_2
  | 3, _ => exact lay_X3_3
  | 4, _ => exact lay_X3_4
  | k + 5, hk => exact absurd hk (by omega)
theorem fw_X3_4 : fw 6 4 TX3 5 := ⟨tyX3_ok, nmX3, rfl⟩
theorem lay_X4_0 : u_lay RX4 TX4 0 ∈ TT := TT_of (tb1 (List.mem_of_getElem? (i := 81) rfl)) rfl
theorem lay_X4_1 : u_lay RX4 TX4 1 ∈ TT := TT_of (tb1 (List.mem_of_getElem? (i := 83) rfl)) rfl
theorem lay_X4_2 : u_lay RX4 TX4 2 ∈ TT := TT_of (tb1 (List.mem_of_getElem? (i := 85) rfl)) rfl
theorem lay_X4_3 : u_lay RX4 TX4 3 ∈ TT := TT_of (tb1 (List.mem_of_getElem? (i := 87) rfl)) rfl
theorem lay_X4_4 : u_lay RX4 TX4 4 ∈ TT := TT_of (tb1 (List.mem_of_getElem? (i := 89) rfl)) rfl
theorem lay_X4_5 : u_lay RX4 TX4 5 ∈ TT := TT_of (tb1 (List.mem_of_getElem? (i := 91) rfl)) rfl
theorem lay_X4_6 : u_lay RX4 TX4 6 ∈ TT := TT_of (tb1 (List.mem_of_getElem? (i := 93) rfl)) rfl
theorem lay_X4_7 : u_lay RX4 TX4 7 ∈ TT := TT_of (tb1 (List.mem_of_getElem? (i := 95) rfl)) rfl
theorem lay_X4_8 : u_lay RX4 TX4 8 ∈ TT := TT_of (tb1 (List.mem_of_getElem? (i := 97) rfl)) rfl
theorem lay_X4 : ∀ w ∈ u_ws RX4 TX4 9, w ∈ TT := by
  intro w hw
  obtain ⟨k, hk, rfl⟩ := List.mem_map.mp hw
  have hk := List.mem_range.mp hk
  match k, hk with
  | 0, _ => exact lay_X4_0
  | 1, _ => exact lay_X4_1
  | 2, _ => exact lay_X4_2
  | 3, _ => exact lay_X4_3
  | 4, _ => exact lay_X4_4
  | 5, _ => exact lay_X4_5
  | 6, _ => exact lay_X4_6
  | 7, _ => exact lay_X4_7
  | 8, _ => exact lay_X4_8
  | k + 9, hk => exact absurd hk (by omega)
theorem fw_X4_1 : fw 7 1 TX4 9 := ⟨tyX4_ok, nmX4, rfl⟩
theorem fw_X4_2 : fw 7 2 TX4 9 := ⟨tyX4_ok, nmX4, rfl⟩
theorem fw_X4_3 : fw 7 3 TX4 9 := ⟨tyX4_ok, nmX4, rfl⟩
theorem fw_X4_4 : fw 7 4 TX4 9 := ⟨tyX4_ok, nmX4, rfl⟩
theorem fw_X4_5 : fw 7 5 TX4 9 := ⟨tyX4_ok, nmX4, rfl⟩
theorem fw_X4_6 : fw 7 6 TX4 9 := ⟨tyX4_ok, nmX4, rfl⟩
theorem fw_X4_7 : fw 7 7 TX4 9 := ⟨tyX4_ok, nmX4, rfl⟩
theorem fw_X4_8 : fw 7 8 TX4 9 := ⟨tyX4_ok, nmX4, rfl⟩
theorem lay_X5_0 : u_lay RX5 TX5 0 ∈ TT := TT_of (tb1 (List.mem_of_getElem? (i := 112) rfl)) rfl
theorem lay_X5_1 : u_lay RX5 TX5 1 ∈ TT := TT_of (tb1 (List.mem_of_getElem? (i := 114) rfl)) rfl
theorem lay_X5_2 : u_lay RX5 TX5 2 ∈ TT := TT_of (tb1 (List.mem_of_getElem? (i := 116) rfl)) rfl
theorem lay_X5_3 : u_lay RX5 TX5 3 ∈ TT := TT_of (tb1 (List.mem_of_getElem? (i := 118) rfl)) rfl
theorem lay_X5_4 : u_lay RX5 TX5 4 ∈ TT := TT_of (tb1 (List.mem_of_getElem? (i := 120) rfl)) rfl
theorem lay_X5_5 : u_lay RX5 TX5 5 ∈ TT := TT_of (tb1 (List.mem_of_getElem? (i := 122) rfl)) rfl
theorem lay_X5_6 : u_lay RX5 TX5 6 ∈ TT := TT_of (tb1 (List.mem_of_getElem? (i := 124) rfl)) rfl
theorem lay_X5_7 : u_lay RX5 TX5 7 ∈ TT := TT_of (tb1 (List.mem_of_getElem? (i := 126) rfl)) rfl
theorem lay_X5 : ∀ w ∈ u_ws RX5 TX5 8, w ∈ TT := by
  intro w hw
  obtain ⟨k, hk, rfl⟩ := List.mem_map.mp hw
  have hk := List.mem_range.mp hk
  match k, hk with
  | 0, _ => exact lay_X5_0
  | 1, _ => exact lay_X5_1
  | 2, _ => exact lay_X5_2
  | 3, _ => exact lay_X5_3
  | 4, _ => exact lay_X5_4
  | 5, _ => exact lay_X5_5
  | 6, _ => exact lay_X5_6
  | 7, _ => exact lay_X5_7
  | k + 8, hk => exact absurd hk (by omega)
theorem fw_X5_2 : fw 8 2 TX5 8 := ⟨tyX5_ok, nmX5, rfl⟩
theorem fw_X5_3 : fw 8 3 TX5 8 := ⟨tyX5_ok, nmX5, rfl⟩
theorem fw_X5_4 : fw 8 4 TX5 8 := ⟨tyX5_ok, nmX5, rfl⟩
theorem fw_X5_5 : fw 8 5 TX5 8 := ⟨tyX5_ok, nmX5, rfl⟩
theorem fw_X5_6 : fw 8 6 TX5 8 := ⟨tyX5_ok, nmX5, rfl⟩
theorem fw_X5_7 : fw 8 7 TX5 8 := ⟨tyX5_ok, nmX5, rfl⟩
theorem lay_X6_0 : u_lay RX6 TX6 0 ∈ TT := TT_of (tb2 (List.mem_of_getElem? (i := 84) rfl)) rfl
theorem lay_X6_1 : u_lay RX6 TX6 1 ∈ TT := TT_of (tb2 (List.mem_of_getElem? (i := 86) rfl)) rfl
theorem lay_X6_2 : u_lay RX6 TX6 2 ∈ TT := TT_of (tb2 (List.mem_of_getElem? (i := 88) rfl)) rfl
theorem lay_X6_3 : u_lay RX6 TX6 3 ∈ TT := TT_of (tb2 (List.mem_of_getElem? (i := 90) rfl)) rfl
theorem lay_X6_4 : u_lay RX6 TX6 4 ∈ TT := TT_of (tb2 (List.mem_of_getElem? (i := 92) rfl)) rfl
theorem lay_X6_5 : u_lay RX6 TX6 5 ∈ TT := TT_of (tb2 (List.mem_of_getElem? (i := 94) rfl)) rfl
theorem lay_X6 : ∀ w ∈ u_ws RX6 TX6 6, w ∈ TT := by
  intro w hw
  obtain ⟨k, hk, rfl⟩ := List.mem_map.mp hw
  have hk := List.mem_range.mp hk
  match k, hk with
  | 0, _ => exact lay_X6_0
  | 1, _ => exact lay_X6_1
  | 2, _ => exact lay_X6_2
  | 3, _ => exact lay_X6_3
  | 4, _ => exact lay_X6_4
  | 5, _ => exact lay_X6_5
  | k + 6, hk => exact absurd hk (by omega)
theorem qf_X4_11 : Cond.fieldLink RX4 11 RX4 (TX4 0).2.1 (TX4 0).2.2.1 ∈ TT := TT_of (tb1 (List.mem_of_getElem? (i := 55) rfl)) rfl
theorem fl_X4_11 : fl RX4 11 7 0 RX4 TX4 9 := ⟨rfl, by decide, qf_X4_11, lay_X4, rfl⟩
theorem qf_X1_53 : Cond.fieldLink RX1 53 RX4 (TX4 0).2.1 (TX4 0).2.2.1 ∈ TT := TT_of (tb1 (List.mem_of_getElem? (i := 56) rfl)) rfl
theorem fl_X1_53 : fl RX1 53 7 0 RX4 TX4 9 := ⟨rfl, by decide, qf_X1_53, lay_X4, rfl⟩
theorem qf_X5_137 : Cond.fieldLink RX5 137 RX4 (TX4 0).2.1 (TX4 0).2.2.1 ∈ TT := TT_of (tb1 (List.mem_of_getElem? (i := 57) rfl)) rfl
theorem fl_X5_137 : fl RX5 137 7 0 RX4 TX4 9 := ⟨rfl, by decide, qf_X5_137, lay_X4, rfl⟩
theorem qf_X1_19 : Cond.fieldLink RX1 19 RX4 (TX4 1).2.1 (TX4 1).2.2.1 ∈ TT := TT_of (tb1 (List.mem_of_getElem? (i := 58) rfl)) rfl
theorem fl_X1_19 : fl RX1 19 7 1 RX4 TX4 9 := ⟨rfl, by decide, qf_X1_19, lay_X4, rfl⟩
theorem qf_X4_19 : Cond.fieldLink RX4 19 RX4 (TX4 1).2.1 (TX4 1).2.2.1 ∈ TT := TT_of (tb1 (List.mem_of_getElem? (i := 59) rfl)) rfl
theorem fl_X4_19 : fl RX4 19 7 1 RX4 TX4 9 := ⟨rfl, by decide, qf_X4_19, lay_X4, rfl⟩
theorem qf_X5_97 : Cond.fieldLink RX5 97 RX4 (TX4 1).2.1 (TX4 1).2.2.1 ∈ TT := TT_of (tb1 (List.mem_of_getElem? (i := 60) rfl)) rfl
theorem fl_X5_97 : fl RX5 97 7 1 RX4 TX4 9 := ⟨rfl, by decide, qf_X5_97, lay_X4, rfl⟩
theorem qf_X4_23 : Cond.fieldLink RX4 23 RX4 (TX4 2).2.1 (TX4 2).2.2.1 ∈ TT := TT_of (tb1 (List.mem_of_getElem? (i := 61) rfl)) rfl
theorem fl_X4_23 : fl RX4 23 7 2 RX4 TX4 9 := ⟨rfl, by decide, qf_X4_23, lay_X4, rfl⟩
theorem qf_X1_26 : Cond.fieldLink RX1 26 RX4 (TX4 2).2.1 (TX4 2).2.2.1 ∈ TT := TT_of (tb1 (List.mem_of_getElem? (i := 62) rfl)) rfl
theorem fl_X1_26 : fl RX1 26 7 2 RX4 TX4 9 := ⟨rfl, by decide, qf_X1_26, lay_X4, rfl⟩
theorem qf_X5_100 : Cond.fieldLink RX5 100 RX4 (TX4 2).2.1 (TX4 2).2.2.1 ∈ TT := TT_of (tb1 (List.mem_of_getElem? (i := 63) rfl)) rfl
theorem fl_X5_100 : fl RX5 100 7 2 RX4 TX4 9 := ⟨rfl, by decide, qf_X5_100, lay_X4, rfl⟩
theorem qf_X4_26 : Cond.fieldLink RX4 26 RX4 (TX4 3).2.1 (TX4 3).2.2.1 ∈ TT := TT_of (tb1 (List.mem_of_getElem? (i := 64) rfl)) rfl
theorem fl_X4_26 : fl RX4 26 7 3 RX4 TX4 9 := ⟨rfl, by decide, qf_X4_26, lay_X4, rfl⟩
theorem qf_X1_33 : Cond.fieldLink RX1 33 RX4 (TX4 3).2.1 (TX4 3).2.2.1 ∈ TT := TT_of (tb1 (List.mem_of_getElem? (i := 65) rfl)) rfl
theorem fl_X1_33 : fl RX1 33 7 3 RX4 TX4 9 := ⟨rfl, by decide, qf_X1_33, lay_X4, rfl⟩
theorem qf_X5_103 : Cond.fieldLink RX5 103 RX4 (TX4 3).2.1 (TX4 3).2.2.1 ∈ TT := TT_of (tb1 (List.mem_of_getElem? (i := 66) rfl)) rfl
theorem fl_X5_103 : fl RX5 103 7 3 RX4 TX4 9 := ⟨rfl, by decide, qf_X5_103, lay_X4, rfl⟩
theorem qf_X4_29 : Cond.fieldLink RX4 29 RX4 (TX4 4).2.1 (TX4 4).2.2.1 ∈ TT := TT_of (tb1 (List.mem_of_getElem? (i := 67) rfl)) rfl
theorem fl_X4_29 : fl RX4 29 7 4 RX4 TX4 9 := ⟨rfl, by decide, qf_X4_29, lay_X4, rfl⟩
theorem qf_X0_50 : Cond.fieldLink RX0 50 RX4 (TX4 4).2.1 (TX4 4).2.2.1 ∈ TT := TT_of (tb1 (List.mem_of_getElem? (i := 68) rfl)) rfl
theorem fl_X0_50 : fl RX0 50 7 4 RX4 TX4 9 := ⟨rfl, by decide, qf_X0_50, lay_X4, rfl⟩
theorem qf_X5_117 : Cond.fieldLink RX5 117 RX4 (TX4 4).2.1 (TX4 4).2.2.1 ∈ TT := TT_of (tb1 (List.mem_of_getElem? (i := 69) rfl)) rfl
theorem fl_X5_117 : fl RX5 117 7 4 RX4 TX4 9 := ⟨rfl, by decide, qf_X5_117, lay_X4, rfl⟩
theorem qf_X4_32 : Cond.fieldLink RX4 32 RX4 (TX4 5).2.1 (TX4 5).2.2.1 ∈ TT := TT_of (tb1 (List.mem_of_getElem? (i := 70) rfl)) rfl
theorem fl_X4_32 : fl RX4 32 7 5 RX4 TX4 9 := ⟨rfl, by decide, qf_X4_32, lay_X4, rfl⟩
theorem qf_X1_37 : Cond.fieldLink RX1 37 RX4 (TX4 5).2.1 (TX4 5).2.2.1 ∈ TT := TT_of (tb1 (List.mem_of_getElem? (i := 71) rfl)) rfl
theorem fl_X1_37 : fl RX1 37 7 5 RX4 TX4 9 := ⟨rfl, by decide, qf_X1_37, lay_X4, rfl⟩
theorem qf_X5_121 : Cond.fieldLink RX5 121 RX4 (TX4 5).2.1 (TX4 5).2.2.1 ∈ TT := TT_of (tb1 (List.mem_of_getElem? (i := 72) rfl)) rfl
theorem fl_X5_121 : fl RX5 121 7 5 RX4 TX4 9 := ⟨rfl, by decide, qf_X5_121, lay_X4, rfl⟩
theorem qf_X4_35 : Cond.fieldLink RX4 35 RX4 (TX4 6).2.1 (TX4 6).2.2.1 ∈ TT := TT_of (tb1 (List.mem_of_getElem? (i := 73) rfl)) rfl
theorem fl_X4_35 : fl RX4 35 7 6 RX4 TX4 9 := ⟨rfl, by decide, qf_X4_35, lay_X4, rfl⟩
theorem qf_X1_69 : Cond.fieldLink RX1 69 RX4 (TX4 6).2.1 (TX4 6).2.2.1 ∈ TT := TT_of (tb1 (List.mem_of_getElem? (i := 74) rfl)) rfl
theorem fl_X1_69 : fl RX1 69 7 6 RX4 TX4 9 := ⟨rfl, by decide, qf_X1_69, lay_X4, rfl⟩
theorem qf_X5_125 : Cond.fieldLink RX5 125 RX4 (TX4 6).2.1 (TX4 6).2.2.1 ∈ TT := TT_of (tb1 (List.mem_of_getElem? (i := 75) rfl)) rfl
theorem fl_X5_125 : fl RX5 125 7 6 RX4 TX4 9 := ⟨rfl, by decide, qf_X5_125, lay_X4, rfl⟩
theorem qf_X4_38 : Cond.fieldLink RX4 38 RX4 (TX4 7).2.1 (TX4 7).2.2.1 ∈ TT := TT_of (tb1 (List.mem_of_getElem? (i := 76) rfl)) rfl
theorem fl_X4_38 : fl RX4 38 7 7 RX4 TX4 9 := ⟨rfl, by decide, qf_X4_38, lay_X4, rfl⟩
theorem qf_X1_72 : Cond.fieldLink RX1 72 RX4 (TX4 7).2.1 (TX4 7).2.2.1 ∈ TT := TT_of (tb1 (List.mem_of_getElem? (i := 77) rfl)) rfl
theorem fl_X1_72 : fl RX1 72 7 7 RX4 TX4 9 := ⟨rfl, by decide, qf_X1_72, lay_X4, rfl⟩
theorem qf_X5_129 : Cond.fieldLink RX5 129 RX4 (TX4 7).2.1 (TX4 7).2.2.1 ∈ TT := TT_of (tb1 (List.mem_of_getElem? (i := 78) rfl)) rfl
theorem fl_X5_129 : fl RX5 129 7 7 RX4 TX4 9 := ⟨rfl, by decide, qf_X5_129, lay_X4, rfl⟩
theorem qf_X4_41 : Cond.fieldLink RX4 41 RX4 (TX4 8).2.1 (TX4 8).2.2.1 ∈ TT := TT_of (tb1 (List.mem_of_getElem? (i := 79) rfl)) rfl
theorem fl_X4_41 : fl RX4 41 7 8 RX4 TX4 9 := ⟨rfl, by decide, qf_X4_41, lay_X4, rfl⟩
theorem qf_X5_134 : Cond.fieldLink RX5 134 RX4 (TX4 8).2.1 (TX4 8).2.2.1 ∈ TT := TT_of (tb1 (List.mem_of_getElem? (i := 80) rfl)) rfl
theorem fl_X5_134 : fl RX5 134 7 8 RX4 TX4 9 := ⟨rfl, by decide, qf_X5_134, lay_X4, rfl⟩
theorem qf_X5_11 : Cond.fieldLink RX5 11 RX5 (TX5 0).2.1 (TX5 0).2.2.1 ∈ TT := TT_of (tb1 (List.mem_of_getElem? (i := 102) rfl)) rfl
theorem fl_X5_11 : fl RX5 11 8 0 RX5 TX5 8 := ⟨rfl, by decide, qf_X5_11, lay_X5, rfl⟩
theorem qf_X5_18 : Cond.fieldLink RX5 18 RX5 (TX5 1).2.1 (TX5 1).2.2.1 ∈ TT := TT_of (tb1 (List.mem_of_getElem? (i := 103) rfl)) rfl
theorem fl_X5_18 : fl RX5 18 8 1 RX5 TX5 8 := ⟨rfl, by decide, qf_X5_18, lay_X5, rfl⟩
theorem qf_X6_13 : Cond.fieldLink RX6 13 RX5 (TX5 1).2.1 (TX5 1).2.2.1 ∈ TT := TT_of (tb1 (List.mem_of_getElem? (i := 104) rfl)) rfl
theorem fl_X6_13 : fl RX6 13 8 1 RX5 TX5 8 := ⟨rfl, by decide, qf_X6_13, lay_X5, rfl⟩
theorem qf_X5_24 : Cond.fieldLink RX5 24 RX5 (TX5 2).2.1 (TX5 2).2.2.1 ∈ TT := TT_of (tb1 (List.mem_of_getElem? (i := 105) rfl)) rfl
theorem fl_X5_24 : fl RX5 24 8 2 RX5 TX5 8 := ⟨rfl, by decide, qf_X5_24, lay_X5, rfl⟩
theorem qf_X5_31 : Cond.fieldLink RX5 31 RX5 (TX5 3).2.1 (TX5 3).2.2.1 ∈ TT := TT_of (tb1 (List.mem_of_getElem? (i := 106) rfl)) rfl
theorem fl_X5_31 : fl RX5 31 8 3 RX5 TX5 8 := ⟨rfl, by decide, qf_X5_31, lay_X5, rfl⟩
theorem qf_X5_75 : Cond.fieldLink RX5 75 RX5 (TX5 4).2.1 (TX5 4).2.2.1 ∈ TT := TT_of (tb1 (List.mem_of_getElem? (i := 107) rfl)) rfl
theorem fl_X5_75 : fl RX5 75 8 4 RX5 TX5 8 := ⟨rfl, by decide, qf_X5_75, lay_X5, rfl⟩
theorem qf_X5_72 : Cond.fieldLink RX5 72 RX5 (TX5 5).2.1 (TX5 5).2.2.1 ∈ TT := TT_of (tb1 (List.mem_of_getElem? (i := 108) rfl)) rfl
theorem fl_X5_72 : fl RX5 72 8 5 RX5 TX5 8 := ⟨rfl, by decide, qf_X5_72, lay_X5, rfl⟩
theorem qf_X5_34 : Cond.fieldLink RX5 34 RX5 (TX5 6).2.1 (TX5 6).2.2.1 ∈ TT := TT_of (tb1 (List.mem_of_getElem? (i := 109) rfl)) rfl
theorem fl_X5_34 : fl RX5 34 8 6 RX5 TX5 8 := ⟨rfl, by decide, qf_X5_34, lay_X5, rfl⟩
theorem qf_X6_53 : Cond.fieldLink RX6 53 RX5 (TX5 7).2.1 (TX5 7).2.2.1 ∈ TT := TT_of (tb1 (List.mem_of_getElem? (i := 110) rfl)) rfl
theorem fl_X6_53 : fl RX6 53 8 7 RX5 TX5 8 := ⟨rfl, by decide, qf_X6_53, lay_X5, rfl⟩
theorem qf_X5_37 : Cond.fieldLink RX5 37 RX5 (TX5 7).2.1 (TX5 7).2.2.1 ∈ TT := TT_of (tb1 (List.mem_of_getElem? (i := 111) rfl)) rfl
theorem fl_X5_37 : fl RX5 37 8 7 RX5 TX5 8 := ⟨rfl, by decide, qf_X5_37, lay_X5, rfl⟩
theorem qf_X1_11 : Cond.fieldLink RX1 11 RX1 (TX1 0).2.1 (TX1 0).2.2.1 ∈ TT := TT_of (tb1 (List.mem_of_getElem? (i := 142) rfl)) rfl
theorem fl_X1_11 : fl RX1 11 4 0 RX1 TX1 9 := ⟨rfl, by decide, qf_X1_11, lay_X1, rfl⟩
theorem qf_X0_94 : Cond.fieldLink RX0 94 RX1 (TX1 0).2.1 (TX1 0).2.2.1 ∈ TT := TT_of (tb1 (List.mem_of_getElem? (i := 143) rfl)) rfl
theorem fl_X0_94 : fl RX0 94 4 0 RX1 TX1 9 := ⟨rfl, by decide, qf_X0_94, lay_X1, rfl⟩
theorem qf_X2_18 : Cond.fieldLink RX2 18 RX1 (TX1 0).2.1 (TX1 0).2.2.1 ∈ TT := TT_of (tb1 (List.mem_of_getElem? (i := 144) rfl)) rfl
theorem fl_X2_18 : fl RX2 18 4 0 RX1 TX1 9 := ⟨rfl, by decide, qf_X2_18, lay_X1, rfl⟩
theorem qf_X6_141 : Cond.fieldLink RX6 141 RX1 (TX1 0).2.1 (TX1 0).2.2.1 ∈ TT := TT_of (tb1 (List.mem_of_getElem? (i := 145) rfl)) rfl
theorem fl_X6_141 : fl RX6 141 4 0 RX1 TX1 9 := ⟨rfl, by decide, qf_X6_141, lay_X1, rfl⟩
theorem qf_X1_16 : Cond.fieldLink RX1 16 RX1 (TX1 1).2.1 (TX1 1).2.2.1 ∈ TT := TT_of (tb1 (List.mem_of_getElem? (i := 146) rfl)) rfl
theorem fl_X1_16 : fl RX1 16 4 1 RX1 TX1 9 := ⟨rfl, by decide, qf_X1_16, lay_X1, rfl⟩
theorem qf_X6_153 : Cond.fieldLink RX6 153 RX1 (TX1 1).2.1 (TX1 1).2.2.1 ∈ TT := TT_of (tb1 (List.mem_of_getElem? (i := 147) rfl)) rfl
theorem fl_X6_153 : fl RX6 153 4 1 RX1 TX1 9 := ⟨rfl, by decide, qf_X6_153, lay_X1, rfl⟩
theorem qf_X1_25 : Cond.fieldLink RX1 25 RX1 (TX1 2).2.1 (TX1 2).2.2.1 ∈ TT := TT_of (tb1 (List.mem_of_getElem? (i := 148) rfl)) rfl
theorem fl_X1_25 : fl RX1 25 4 2 RX1 TX1 9 := ⟨rfl, by decide, qf_X1_25, lay_X1, rfl⟩
theorem qf_X6_86 : Cond.fieldLink RX6 86 RX1 (TX1 2).2.1 (TX1 2).2.2.1 ∈ TT := TT_of (tb1 (List.mem_of_getElem? (i := 149) rfl)) rfl
theorem fl_X6_86 : fl RX6 86 4 2 RX1 TX1 9 := ⟨rfl, by decide, qf_X6_86, lay_X1, rfl⟩
theorem qf_X1_29 : Cond.fieldLink RX1 29 RX1 (TX1 3).2.1 (TX1 3).2.2.1 ∈ TT := TT_of (tb1 (List.mem_of_getElem? (i := 150) rfl)) rfl
theorem fl_X1_29 : fl RX1 29 4 3 RX1 TX1 9 := ⟨rfl, by decide, qf_X1_29, lay_X1, rfl⟩
theorem qf_X6_89 : Cond.fieldLink RX6 89 RX1 (TX1 3).2.1 (TX1 3).2.2.1 ∈ TT := TT_of (tb1 (List.mem_of_getElem? (i := 151) rfl)) rfl
theorem fl_X6_89 : fl RX6 89 4 3 RX1 TX1 9 := ⟨rfl, by decide, qf_X6_89, lay_X1, rfl⟩
theorem qf_X1_30 : Cond.fieldLink RX1 30 RX1 (TX1 4).2.1 (TX1 4).2.2.1 ∈ TT := TT_of (tb1 (List.mem_of_getElem? (i := 152) rfl)) rfl
theorem fl_X1_30 : fl RX1 30 4 4 RX1 TX1 9 := ⟨rfl, by decide, qf_X1_30, lay_X1, rfl⟩
theorem qf_X6_156 : Cond.fieldLink RX6 156 RX1 (TX1 4).2.1 (TX1 4).2.2.1 ∈ TT := TT_of (tb1 (List.mem_of_getElem? (i := 153) rfl)) rfl
theorem fl_X6_156 : fl RX6 156 4 4 RX1 TX1 9 := ⟨rfl, by decide, qf_X6_156, lay_X1, rfl⟩
theorem qf_X1_36 : Cond.fieldLink RX1 36 RX1 (TX1 5).2.1 (TX1 5).2.2.1 ∈ TT := TT_of (tb1 (List.mem_of_getElem? (i := 154) rfl)) rfl
theorem fl_X1_36 : fl RX1 36 4 5 RX1 TX1 9 := ⟨rfl, by decide, qf_X1_36, lay_X1, rfl⟩
theorem qf_X6_92 : Cond.fieldLink RX6 92 RX1 (TX1 5).2.1 (TX1 5).2.2.1 ∈ TT := TT_of (tb1 (List.mem_of_getElem? (i := 155) rfl)) rfl
theorem fl_X6_92 : fl RX6 92 4 5 RX1 TX1 9 := ⟨rfl, by decide, qf_X6_92, lay_X1, rfl⟩
theorem qf_X2_59 : Cond.fieldLink RX2 59 RX1 (TX1 5).2.1 (TX1 5).2.2.1 ∈ TT := TT_of (tb1 (List.mem_of_getElem? (i := 156) rfl)) rfl
theorem fl_X2_59 : fl RX2 59 4 5 RX1 TX1 9 := ⟨rfl, by decide, qf_X2_59, lay_X1, rfl⟩
theorem qf_X0_135 : Cond.fieldLink RX0 135 RX1 (TX1 5).2.1 (TX1 5).2.2.1 ∈ TT := TT_of (tb1 (List.mem_of_getElem? (i := 157) rfl)) rfl
theorem fl_X0_135 : fl RX0 135 4 5 RX1 TX1 9 := ⟨rfl, by decide, qf_X0_135, lay_X1, rfl⟩
theorem qf_X1_40 : Cond.fieldLink RX1 40 RX1 (TX1 6).2.1 (TX1 6).2.2.1 ∈ TT := TT_of (tb1 (List.mem_of_getElem? (i := 158) rfl)) rfl
theorem fl_X1_40 : fl RX1 40 4 6 RX1 TX1 9 := ⟨rfl, by decide, qf_X1_40, lay_X1, rfl⟩
theorem qf_X6_98 : Cond.fieldLink RX6 98 RX1 (TX1 6).2.1 (TX1 6).2.2.1 ∈ TT := TT_of (tb1 (List.mem_of_getElem? (i := 159) rfl)) rfl
theorem fl_X6_98 : fl RX6 98 4 6 RX1 TX1 9 := ⟨rfl, by decide, qf_X6_98, lay_X1, rfl⟩
theorem qf_X1_41 : Cond.fieldLink RX1 41 RX1 (TX1 7).2.1 (TX1 7).2.2.1 ∈ TT := TT_of (tb1 (List.mem_of_getElem? (i := 160) rfl)) rfl
theorem fl_X1_41 : fl RX1 41 4 7 RX1 TX1 9 := ⟨rfl, by decide, qf_X1_41, lay_X1, rfl⟩
theorem qf_X6_102 : Cond.fieldLink RX6 102 RX1 (TX1 7).2.1 (TX1 7).2.2.1 ∈ TT := TT_of (tb1 (List.mem_of_getElem? (i := 161) rfl)) rfl
theorem fl_X6_102 : fl RX6 102 4 7 RX1 TX1 9 := ⟨rfl, by decide, qf_X6_102, lay_X1, rfl⟩
theorem qf_X1_44 : Cond.fieldLink RX1 44 RX1 (TX1 8).2.1 (TX1 8).2.2.1 ∈ TT := TT_of (tb1 (List.mem_of_getElem? (i := 162) rfl)) rfl
theorem fl_X1_44 : fl RX1 44 4 8 RX1 TX1 9 := ⟨rfl, by decide, qf_X1_44, lay_X1, rfl⟩
theorem qf_X0_80 : Cond.fieldLink RX0 80 RX1 (TX1 8).2.1 (TX1 8).2.2.1 ∈ TT := TT_of (tb1 (List.mem_of_getElem? (i := 163) rfl)) rfl
theorem fl_X0_80 : fl RX0 80 4 8 RX1 TX1 9 := ⟨rfl, by decide, qf_X0_80, lay_X1, rfl⟩
theorem qf_X6_159 : Cond.fieldLink RX6 159 RX1 (TX1 8).2.1 (TX1 8).2.2.1 ∈ TT := TT_of (tb1 (List.mem_of_getElem? (i := 164) rfl)) rfl
theorem fl_X6_159 : fl RX6 159 4 8 RX1 TX1 9 := ⟨rfl, by decide, qf_X6_159, lay_X1, rfl⟩
theorem qf_X3_11 : Cond.fieldLink RX3 11 RX3 (TX3 0).2.1 (TX3 0).2.2.1 ∈ TT := TT_of (tb1 (List.mem_of_getElem? (i := 190) rfl)) rfl
theorem fl_X3_11 : fl RX3 11 6 0 RX3 TX3 5 := ⟨rfl, by decide, qf_X3_11, lay_X3, rfl⟩
theorem qf_X3_15 : Cond.fieldLink RX3 15 RX3 (TX3 1).2.1 (TX3 1).2.2.1 ∈ TT := TT_of (tb1 (List.mem_of_getElem? (i := 191) rfl)) rfl
theorem fl_X3_15 : fl RX3 15 6 1 RX3 TX3 5 := ⟨rfl, by decide, qf_X3_15, lay_X3, rfl⟩
theorem qf_X3_18 : Cond.fieldLink RX3 18 RX3 (TX3 2).2.1 (TX3 2).2.2.1 ∈ TT := TT_of (tb1 (List.mem_of_getElem? (i := 192) rfl)) rfl
theorem fl_X3_18 : fl RX3 18 6 2 RX3 TX3 5 := ⟨rfl, by decide, qf_X3_18, lay_X3, rfl⟩
theorem qf_X3_21 : Cond.fieldLink RX3 21 RX3 (TX3 3).2.1 (TX3 3).2.2.1 ∈ TT := TT_of (tb1 (List.mem_of_getElem? (i := 193) rfl)) rfl
theorem fl_X3_21 : fl RX3 21 6 3 RX3 TX3 5 := ⟨rfl, by decide, qf_X3_21, lay_X3, rfl⟩
theorem qf_X6_261 : Cond.fieldLink RX6 261 RX3 (TX3 3).2.1 (TX3 3).2.2.1 ∈ TT := TT_of (tb1 (List.mem_of_getElem? (i := 194) rfl)) rfl
theorem fl_X6_261 : fl RX6 261 6 3 RX3 TX3 5 := ⟨rfl, by decide, qf_X6_261, lay_X3, rfl⟩
theorem qf_X3_24 : Cond.fieldLink RX3 24 RX3 (TX3 4).2.1 (TX3 4).2.2.1 ∈ TT := TT_of (tb1 (List.mem_of_getElem? (i := 195) rfl)) rfl
theorem fl_X3_24 : fl RX3 24 6 4 RX3 TX3 5 := ⟨rfl, by decide, qf_X3_24, lay_X3, rfl⟩
theorem qf_X2_28 : Cond.fieldLink RX2 28 RX2 (TX2 0).2.1 (TX2 0).2.2.1 ∈ TT := TT_of (tb1 (List.mem_of_getElem? (i := 213) rfl)) rfl
theorem fl_X2_28 : fl RX2 28 5 0 RX2 TX2 10 := ⟨rfl, by decide, qf_X2_28, lay_X2, rfl⟩
theorem qf_X0_115 : Cond.fieldLink RX0 115 RX2 (TX2 0).2.1 (TX2 0).2.2.1 ∈ TT := TT_of (tb1 (List.mem_of_getElem? (i := 214) rfl)) rfl
theorem fl_X0_115 : fl RX0 115 5 0 RX2 TX2 10 := ⟨rfl, by decide, qf_X0_115, lay_X2, rfl⟩
theorem qf_X6_185 : Cond.fieldLink RX6 185 RX2 (TX2 0).2.1 (TX2 0).2.2.1 ∈ TT := TT_of (tb1 (List.mem_of_getElem? (i := 215) rfl)) rfl
theorem fl_X6_185 : fl RX6 185 5 0 RX2 TX2 10 := ⟨rfl, by decide, qf_X6_185, lay_X2, rfl⟩
theorem qf_X2_32 : Cond.fieldLink RX2 32 RX2 (TX2 1).2.1 (TX2 1).2.2.1 ∈ TT := TT_of (tb1 (List.mem_of_getElem? (i := 216) rfl)) rfl
theorem fl_X2_32 : fl RX2 32 5 1 RX2 TX2 10 := ⟨rfl, by decide, qf_X2_32, lay_X2, rfl⟩
theorem qf_X0_122 : Cond.fieldLink RX0 122 RX2 (TX2 1).2.1 (TX2 1).2.2.1 ∈ TT := TT_of (tb1 (List.mem_of_getElem? (i := 217) rfl)) rfl
theorem fl_X0_122 : fl RX0 122 5 1 RX2 TX2 10 := ⟨rfl, by decide, qf_X0_122, lay_X2, rfl⟩
theorem qf_X6_188 : Cond.fieldLink RX6 188 RX2 (TX2 1).2.1 (TX2 1).2.2.1 ∈ TT := TT_of (tb1 (List.mem_of_getElem? (i := 218) rfl)) rfl
theorem fl_X6_188 : fl RX6 188 5 1 RX2 TX2 10 := ⟨rfl, by decide, qf_X6_188, lay_X2, rfl⟩
theorem qf_X2_35 : Cond.fieldLink RX2 35 RX2 (TX2 2).2.1 (TX2 2).2.2.1 ∈ TT := TT_of (tb1 (List.mem_of_getElem? (i := 219) rfl)) rfl
theorem fl_X2_35 : fl RX2 35 5 2 RX2 TX2 10 := ⟨rfl, by decide, qf_X2_35, lay_X2, rfl⟩
theorem qf_X0_132 : Cond.fieldLink RX0 132 RX2 (TX2 2).2.1 (TX2 2).2.2.1 ∈ TT := TT_of (tb1 (List.mem_of_getElem? (i := 220) rfl)) rfl
theorem fl_X0_132 : fl RX0 132 5 2 RX2 TX2 10 := ⟨rfl, by decide, qf_X0_132, lay_X2, rfl⟩
theorem qf_X6_191 : Cond.fieldLink RX6 191 RX2 (TX2 2).2.1 (TX2 2).2.2.1 ∈ TT := TT_of (tb1 (List.mem_of_getElem? (i := 221) rfl)) rfl
theorem fl_X6_191 : fl RX6 191 5 2 RX2 TX2 10 := ⟨rfl, by decide, qf_X6_191, lay_X2, rfl⟩
theorem qf_X2_38 : Cond.fieldLink RX2 38 RX2 (TX2 3).2.1 (TX2 3).2.2.1 ∈ TT := TT_of (tb1 (List.mem_of_getElem? (i := 222) rfl)) rfl
theorem fl_X2_38 : fl RX2 38 5 3 RX2 TX2 10 := ⟨rfl, by decide, qf_X2_38, lay_X2, rfl⟩
theorem qf_X6_194 : Cond.fieldLink RX6 194 RX2 (TX2 3).2.1 (TX2 3).2.2.1 ∈ TT := TT_of (tb1 (List.mem_of_getElem? (i := 223) rfl)) rfl
theorem fl_X6_194 : fl RX6 194 5 3 RX2 TX2 10 := ⟨rfl, by decide, qf_X6_194, lay_X2, rfl⟩
theorem qf_X2_41 : Cond.fieldLink RX2 41 RX2 (TX2 4).2.1 (TX2 4).2.2.1 ∈ TT := TT_of (tb1 (List.mem_of_getElem? (i := 224) rfl)) rfl
theorem fl_X2_41 : fl RX2 41 5 4 RX2 TX2 10 := ⟨rfl, by decide, qf_X2_41, lay_X2, rfl⟩
theorem qf_X6_207 : Cond.fieldLink RX6 207 RX2 (TX2 4).2.1 (TX2 4).2.2.1 ∈ TT := TT_of (tb1 (List.mem_of_getElem? (i := 225) rfl)) rfl
theorem fl_X6_207 : fl RX6 207 5 4 RX2 TX2 10 := ⟨rfl, by decide, qf_X6_207, lay_X2, rfl⟩
theorem qf_X0_98 : Cond.fieldLink RX0 98 RX2 (TX2 5).2.1 (TX2 5).2.2.1 ∈ TT := TT_of (tb1 (List.mem_of_getElem? (i := 226) rfl)) rfl
theorem fl_X0_98 : fl RX0 98 5 5 RX2 TX2 10 := ⟨rfl, by decide, qf_X0_98, lay_X2, rfl⟩
theorem qf_X2_44 : Cond.fieldLink RX2 44 RX2 (TX2 5).2.1 (TX2 5).2.2.1 ∈ TT := TT_of (tb1 (List.mem_of_getElem? (i := 227) rfl)) rfl
theorem fl_X2_44 : fl RX2 44 5 5 RX2 TX2 10 := ⟨rfl, by decide, qf_X2_44, lay_X2, rfl⟩
theorem qf_X2_47 : Cond.fieldLink RX2 47 RX2 (TX2 6).2.1 (TX2 6).2.2.1 ∈ TT := TT_of (tb1 (List.mem_of_getElem? (i := 228) rfl)) rfl
theorem fl_X2_47 : fl RX2 47 5 6 RX2 TX2 10 := ⟨rfl, by decide, qf_X2_47, lay_X2, rfl⟩
theorem qf_X0_125 : Cond.fieldLink RX0 125 RX2 (TX2 6).2.1 (TX2 6).2.2.1 ∈ TT := TT_of (tb1 (List.mem_of_getElem? (i := 229) rfl)) rfl
theorem fl_X0_125 : fl RX0 125 5 6 RX2 TX2 10 := ⟨rfl, by decide, qf_X0_125, lay_X2, rfl⟩
theorem qf_X2_50 : Cond.fieldLink RX2 50 RX2 (TX2 7).2.1 (TX2 7).2.2.1 ∈ TT := TT_of (tb1 (List.mem_of_getElem? (i := 230) rfl)) rfl
theorem fl_X2_50 : fl RX2 50 5 7 RX2 TX2 10 := ⟨rfl, by decide, qf_X2_50, lay_X2, rfl⟩
theorem qf_X0_128 : Cond.fieldLink RX0 128 RX2 (TX2 7).2.1 (TX2 7).2.2.1 ∈ TT := TT_of (tb1 (List.mem_of_getElem? (i := 231) rfl)) rfl
theorem fl_X0_128 : fl RX0 128 5 7 RX2 TX2 10 := ⟨rfl, by decide, qf_X0_128, lay_X2, rfl⟩
theorem qf_X2_53 : Cond.fieldLink RX2 53 RX2 (TX2 8).2.1 (TX2 8).2.2.1 ∈ TT := TT_of (tb1 (List.mem_of_getElem? (i := 232) rfl)) rfl
theorem fl_X2_53 : fl RX2 53 5 8 RX2 TX2 10 := ⟨rfl, by decide, qf_X2_53, lay_X2, rfl⟩
theorem qf_X0_131 : Cond.fieldLink RX0 131 RX2 (TX2 8).2.1 (TX2 8).2.2.1 ∈ TT := TT_of (tb1 (List.mem_of_getElem? (i := 233) rfl)) rfl
theorem fl_X0_131 : fl RX0 131 5 8 RX2 TX2 10 := ⟨rfl, by decide, qf_X0_131, lay_X2, rfl⟩
theorem qf_X2_56 : Cond.fieldLink RX2 56 RX2 (TX2 9).2.1 (TX2 9).2.2.1 ∈ TT := TT_of (tb1 (List.mem_of_getElem? (i := 234) rfl)) rfl
theorem fl_X2_56 : fl RX2 56 5 9 RX2 TX2 10 := ⟨rfl, by decide, qf_X2_56, lay_X2, rfl⟩
theorem qf_X0_12 : Cond.fieldLink RX0 12 RX0 (TX0 0).2.1 (TX0 0).2.2.1 ∈ TT := TT_of (tb2 (List.mem_of_getElem? (i := 16) rfl)) rfl
theorem fl_X0_12 : fl RX0 12 3 0 RX0 TX0 9 := ⟨rfl, by decide, qf_X0_12, lay_X0, rfl⟩
theorem qf_X6_57 : Cond.fieldLink RX6 57 RX0 (TX0 0).2.1 (TX0 0).2.2.1 ∈ TT := TT_of (tb2 (List.mem_of_getElem? (i := 17) rfl)) rfl
theorem fl_X6_57 : fl RX6 57 3 0 RX0 TX0 9 := ⟨rfl, by decide, qf_X6_57, lay_X0, rfl⟩
theorem qf_X0_21 : Cond.fieldLink RX0 21 RX0 (TX0 1).2.1 (TX0 1).2.2.1 ∈ TT := TT_of (tb2 (List.mem_of_getElem? (i := 18) rfl)) rfl
theorem fl_X0_21 : fl RX0 21 3 1 RX0 TX0 9 := ⟨rfl, by decide, qf_X0_21, lay_X0, rfl⟩
theorem qf_X6_250 : Cond.fieldLink RX6 250 RX0 (TX0 1).2.1 (TX0 1).2.2.1 ∈ TT := TT_of (tb2 (List.mem_of_getElem? (i := 19) rfl)) rfl
theorem fl_X6_250 : fl RX6 250 3 1 RX0 TX0 9 := ⟨rfl, by decide, qf_X6_250, lay_X0, rfl⟩
theorem qf_X0_28 : Cond.fieldLink RX0 28 RX0 (TX0 2).2.1 (TX0 2).2.2.1 ∈ TT := TT_of (tb2 (List.mem_of_getElem? (i := 20) rfl)) rfl
theorem fl_X0_28 : fl RX0 28 3 2 RX0 TX0 9 := ⟨rfl, by decide, qf_X0_28, lay_X0, rfl⟩
theorem qf_X6_242 : Cond.fieldLink RX6 242 RX0 (TX0 2).2.1 (TX0 2).2.2.1 ∈ TT := TT_of (tb2 (List.mem_of_getElem? (i := 21) rfl)) rfl
theorem fl_X6_242 : fl RX6 242 3 2 RX0 TX0 9 := ⟨rfl, by decide, qf_X6_242, lay_X0, rfl⟩
theorem qf_X0_32 : Cond.fieldLink RX0 32 RX0 (TX0 3).2.1 (TX0 3).2.2.1 ∈ TT := TT_of (tb2 (List.mem_of_getElem? (i := 22) rfl)) rfl
theorem fl_X0_32 : fl RX0 32 3 3 RX0 TX0 9 := ⟨rfl, by decide, qf_X0_32, lay_X0, rfl⟩
theorem qf_X0_36 : Cond.fieldLink RX0 36 RX0 (TX0 4).2.1 (TX0 4).2.2.1 ∈ TT := TT_of (tb2 (List.mem_of_getElem? (i := 23) rfl)) rfl
theorem fl_X0_36 : fl RX0 36 3 4 RX0 TX0 9 := ⟨rfl, by decide, qf_X0_36, lay_X0, rfl⟩
theorem qf_X6_82 : Cond.fieldLink RX6 82 RX0 (TX0 4).2.1 (TX0 4).2.2.1 ∈ TT := TT_of (tb2 (List.mem_of_getElem? (i := 24) rfl)) rfl
theorem fl_X6_82 : fl RX6 82 3 4 RX0 TX0 9 := ⟨rfl, by decide, qf_X6_82, lay_X0, rfl⟩
theorem qf_X0_46 : Cond.fieldLink RX0 46 RX0 (TX0 5).2.1 (TX0 5).2.2.1 ∈ TT := TT_of (tb2 (List.mem_of_getElem? (i := 25) rfl)) rfl
theorem fl_X0_46 : fl RX0 46 3 5 RX0 TX0 9 := ⟨rfl, by decide, qf_X0_46, lay_X0, rfl⟩
theorem qf_X6_75 : Cond.fieldLink RX6 75 RX0 (TX0 5).2.1 (TX0 5).2.2.1 ∈ TT := TT_of (tb2 (List.mem_of_getElem? (i := 26) rfl)) rfl
theorem fl_X6_75 : fl RX6 75 3 5 RX0 TX0 9 := ⟨rfl, by decide, qf_X6_75, lay_X0, rfl⟩
theorem qf_X0_55 : Cond.fieldLink RX0 55 RX0 (TX0 6).2.1 (TX0 6).2.2.1 ∈ TT := TT_of (tb2 (List.mem_of_getElem? (i := 27) rfl)) rfl
theorem fl_X0_55 : fl RX0 55 3 6 RX0 TX0 9 := ⟨rfl, by decide, qf_X0_55, lay_X0, rfl⟩
theorem qf_X6_95 : Cond.fieldLink RX6 95 RX0 (TX0 6).2.1 (TX0 6).2.2.1 ∈ TT := TT_of (tb2 (List.mem_of_getElem? (i := 28) rfl)) rfl
theorem fl_X6_95 : fl RX6 95 3 6 RX0 TX0 9 := ⟨rfl, by decide, qf_X6_95, lay_X0, rfl⟩
theorem qf_X0_74 : Cond.fieldLink RX0 74 RX0 (TX0 7).2.1 (TX0 7).2.2.1 ∈ TT := TT_of (tb2 (List.mem_of_getElem? (i := 29) rfl)) rfl
theorem fl_X0_74 : fl RX0 74 3 7 RX0 TX0 9 := ⟨rfl, by decide, qf_X0_74, lay_X0, rfl⟩
theorem qf_X6_111 : Cond.fieldLink RX6 111 RX0 (TX0 7).2.1 (TX0 7).2.2.1 ∈ TT := TT_of (tb2 (List.mem_of_getElem? (i := 30) rfl)) rfl
theorem fl_X6_111 : fl RX6 111 3 7 RX0 TX0 9 := ⟨rfl, by decide, qf_X6_111, lay_X0, rfl⟩
theorem qf_X0_77 : Cond.fieldLink RX0 77 RX0 (TX0 8).2.1 (TX0 8).2.2.1 ∈ TT := TT_of (tb2 (List.mem_of_getElem? (i := 31) rfl)) rfl
theorem fl_X0_77 : fl RX0 77 3 8 RX0 TX0 9 := ⟨rfl, by decide, qf_X0_77, lay_X0, rfl⟩
theorem qf_X6_108 : Cond.fieldLink RX6 108 RX0 (TX0 8).2.1 (TX0 8).2.2.1 ∈ TT := TT_of (tb2 (List.mem_of_getElem? (i := 32) rfl)) rfl
theorem fl_X6_108 : fl RX6 108 3 8 RX0 TX0 9 := ⟨rfl, by decide, qf_X6_108, lay_X0, rfl⟩
theorem qf_X6_21 : Cond.fieldLink RX6 21 RX6 (TX6 0).2.1 (TX6 0).2.2.1 ∈ TT := TT_of (tb2 (List.mem_of_getElem? (i := 78) rfl)) rfl
theorem fl_X6_21 : fl RX6 21 9 0 RX6 TX6 6 := ⟨rfl, by decide, qf_X6_21, lay_X6, rfl⟩
theorem qf_X6_27 : Cond.fieldLink RX6 27 RX6 (TX6 1).2.1 (TX6 1).2.2.1 ∈ TT := TT_of (tb2 (List.mem_of_getElem? (i := 79) rfl)) rfl
theorem fl_X6_27 : fl RX6 27 9 1 RX6 TX6 6 := ⟨rfl, by decide, qf_X6_27, lay_X6, rfl⟩
theorem qf_X6_31 : Cond.fieldLink RX6 31 RX6 (TX6 2).2.1 (TX6 2).2.2.1 ∈ TT := TT_of (tb2 (List.mem_of_getElem? (i := 80) rfl)) rfl
theorem fl_X6_31 : fl RX6 31 9 2 RX6 TX6 6 := ⟨rfl, by decide, qf_X6_31, lay_X6, rfl⟩
theorem qf_X6_34 : Cond.fieldLink RX6 34 RX6 (TX6 3).2.1 (TX6 3).2.2.1 ∈ TT := TT_of (tb2 (List.mem_of_getElem? (i := 81) rfl)) rfl
theorem fl_X6_34 : fl RX6 34 9 3 RX6 TX6 6 := ⟨rfl, by decide, qf_X6_34, lay_X6, rfl⟩
theorem qf_X6_37 : Cond.fieldLink RX6 37 RX6 (TX6 4).2.1 (TX6 4).2.2.1 ∈ TT := TT_of (tb2 (List.mem_of_getElem? (i := 82) rfl)) rfl
theorem fl_X6_37 : fl RX6 37 9 4 RX6 TX6 6 := ⟨rfl, by decide, qf_X6_37, lay_X6, rfl⟩
theorem qf_X6_41 : Cond.fieldLink RX6 41 RX6 (TX6 5).2.1 (TX6 5).2.2.1 ∈ TT := TT_of (tb2 (List.mem_of_getElem? (i := 83) rfl)) rfl
theorem fl_X6_41 : fl RX6 41 9 5 RX6 TX6 6 := ⟨rfl, by decide, qf_X6_41, lay_X6, rfl⟩
