abbrev M_J6_bitCount_0f7a4 : sv_M := (yJ6_bitCount_0f7a4, cJ6_bitCount_0f7a4, 1, (some .int))
theorem wc_J6_bitCount_0f7a4 : Cond.code yJ6_bitCount_0f7a4 cJ6_bitCount_0f7a4 1 (some .int) ∈ lw_g := lw_g_of (List.mem_append_right _ (List.mem_of_getElem? (i := 324) (by decide +kernel))) (by decide +kernel)
theorem ws_J6_bitCount_0f7a4 : Cond.static yJ6_bitCount_0f7a4 ∈ lw_g := lw_g_of (List.mem_append_right _ (List.mem_of_getElem? (i := 323) (by decide +kernel))) (by decide +kernel)
abbrev M_J9_max_7cf53 : sv_M := (yJ9_max_7cf53, cJ9_max_7cf53, 2, (some .int))
theorem wc_J9_max_7cf53 : Cond.code yJ9_max_7cf53 cJ9_max_7cf53 2 (some .int) ∈ lw_g := lw_g_of (List.mem_append_right _ (List.mem_of_getElem? (i := 176) (by decide +kernel))) (by decide +kernel)
theorem ws_J9_max_7cf53 : Cond.static yJ9_max_7cf53 ∈ lw_g := lw_g_of (List.mem_append_right _ (List.mem_of_getElem? (i := 175) (by decide +kernel))) (by decide +kernel)
abbrev M_J9_min_7cf53 : sv_M := (yJ9_min_7cf53, cJ9_min_7cf53, 2, (some .int))
theorem wc_J9_min_7cf53 : Cond.code yJ9_min_7cf53 cJ9_min_7cf53 2 (some .int) ∈ lw_g := lw_g_of (List.mem_append_right _ (List.mem_of_getElem? (i := 246) (by decide +kernel))) (by decide +kernel)
theorem ws_J9_min_7cf53 : Cond.static yJ9_min_7cf53 ∈ lw_g := lw_g_of (List.mem_append_right _ (List.mem_of_getElem? (i := 245) (by decide +kernel))) (by decide +kernel)
abbrev M_X0_addCharacter : sv_M := (yX0_addCharacter, cX0_addCharacter, 2, (some .int))
theorem wc_X0_addCharacter : Cond.code yX0_addCharacter cX0_addCharacter 2 (some .int) ∈ lw_g := lw_g_of (List.mem_append_right _ (List.mem_of_getElem? (i := 347) (by decide +kernel))) (by decide +kernel)
theorem wi_X0_addCharacter : Cond.instanceMethod yX0_addCharacter ∈ lw_g := lw_g_of (List.mem_append_right _ (List.mem_of_getElem? (i := 346) (by decide +kernel))) (by decide +kernel)
abbrev M_X0_canEndOrder : sv_M := (yX0_canEndOrder, cX0_canEndOrder, 1, (some .boolean))
theorem wc_X0_canEndOrder : Cond.code yX0_canEndOrder cX0_canEndOrder 1 (some .boolean) ∈ lw_g := lw_g_of (List.mem_append_right _ (List.mem_of_getElem? (i := 365) (by decide +kernel))) (by decide +kernel)
theorem ws_X0_canEndOrder : Cond.static yX0_canEndOrder ∈ lw_g := lw_g_of (List.mem_append_right _ (List.mem_of_getElem? (i := 364) (by decide +kernel))) (by decide +kernel)
abbrev M_X0_characterAt : sv_M := (yX0_characterAt, cX0_characterAt, 2, (some .char))
theorem wc_X0_characterAt : Cond.code yX0_characterAt cX0_characterAt 2 (some .char) ∈ lw_g := lw_g_of (List.mem_append_right _ (List.mem_of_getElem? (i := 389) (by decide +kernel))) (by decide +kernel)
theorem wi_X0_characterAt : Cond.instanceMethod yX0_characterAt ∈ lw_g := lw_g_of (List.mem_append_right _ (List.mem_of_getElem? (i := 388) (by decide +kernel))) (by decide +kernel)
abbrev M_X0_endOfNumber : sv_M := (yX0_endOfNumber, cX0_endOfNumber, 3, (some .int))
theorem wc_X0_endOfNumber : Cond.code yX0_endOfNumber cX0_endOfNumber 3 (some .int) ∈ lw_g := lw_g_of (List.mem_append_right _ (List.mem_of_getElem? (i := 402) (by decide +kernel))) (by decide +kernel)
theorem wi_X0_endOfNumber : Cond.instanceMethod yX0_endOfNumber ∈ lw_g := lw_g_of (List.mem_append_right _ (List.mem_of_getElem? (i := 401) (by decide +kernel))) (by decide +kernel)
abbrev M_X0_firstFault : sv_M := (yX0_firstFault, cX0_firstFault, 3, (some .int))
theorem wc_X0_firstFault : Cond.code yX0_firstFault cX0_firstFault 3 (some .int) ∈ lw_g := lw_g_of (List.mem_append_right _ (List.mem_of_getElem? (i := 359) (by decide +kernel))) (by decide +kernel)
theorem wi_X0_firstFault : Cond.instanceMethod yX0_firstFault ∈ lw_g := lw_g_of (List.mem_append_right _ (List.mem_of_getElem? (i := 358) (by decide +kernel))) (by decide +kernel)
abbrev M_X0_init : sv_M := (yX0_init, cX0_init, 1, none)
theorem wc_X0_init : Cond.code yX0_init cX0_init 1 none ∈ lw_g := lw_g_of (List.mem_append_right _ (List.mem_of_getElem? (i := 75) (by decide +kernel))) (by decide +kernel)
theorem wi_X0_init : Cond.instanceMethod yX0_init ∈ lw_g := lw_g_of (List.mem_append_right _ (List.mem_of_getElem? (i := 74) (by decide +kernel))) (by decide +kernel)
abbrev M_X0_isBetween : sv_M := (yX0_isBetween, cX0_isBetween, 3, (some .boolean))
theorem wc_X0_isBetween : Cond.code yX0_isBetween cX0_isBetween 3 (some .boolean) ∈ lw_g := lw_g_of (List.mem_append_right _ (List.mem_of_getElem? (i := 368) (by decide +kernel))) (by decide +kernel)
theorem ws_X0_isBetween : Cond.static yX0_isBetween ∈ lw_g := lw_g_of (List.mem_append_right _ (List.mem_of_getElem? (i := 367) (by decide +kernel))) (by decide +kernel)
abbrev M_X0_numberAt : sv_M := (yX0_numberAt, cX0_numberAt, 5, (some .int))
theorem wc_X0_numberAt : Cond.code yX0_numberAt cX0_numberAt 5 (some .int) ∈ lw_g := lw_g_of (List.mem_append_right _ (List.mem_of_getElem? (i := 398) (by decide +kernel))) (by decide +kernel)
theorem wi_X0_numberAt : Cond.instanceMethod yX0_numberAt ∈ lw_g := lw_g_of (List.mem_append_right _ (List.mem_of_getElem? (i := 397) (by decide +kernel))) (by decide +kernel)
abbrev M_X0_placeAfter : sv_M := (yX0_placeAfter, cX0_placeAfter, 2, (some .int))
theorem wc_X0_placeAfter : Cond.code yX0_placeAfter cX0_placeAfter 2 (some .int) ∈ lw_g := lw_g_of (List.mem_append_right _ (List.mem_of_getElem? (i := 362) (by decide +kernel))) (by decide +kernel)
theorem ws_X0_placeAfter : Cond.static yX0_placeAfter ∈ lw_g := lw_g_of (List.mem_append_right _ (List.mem_of_getElem? (i := 361) (by decide +kernel))) (by decide +kernel)
abbrev M_X0_placeAfterKeyDigit : sv_M := (yX0_placeAfterKeyDigit, cX0_placeAfterKeyDigit, 3, (some .int))
theorem wc_X0_placeAfterKeyDigit : Cond.code yX0_placeAfterKeyDigit cX0_placeAfterKeyDigit 3 (some .int) ∈ lw_g := lw_g_of (List.mem_append_right _ (List.mem_of_getElem? (i := 374) (by decide +kernel))) (by decide +kernel)
theorem ws_X0_placeAfterKeyDigit : Cond.static yX0_placeAfterKeyDigit ∈ lw_g := lw_g_of (List.mem_append_right _ (List.mem_of_getElem? (i := 373) (by decide +kernel))) (by decide +kernel)
abbrev M_X0_placeAfterKind : sv_M := (yX0_placeAfterKind, cX0_placeAfterKind, 1, (some .int))
theorem wc_X0_placeAfterKind : Cond.code yX0_placeAfterKind cX0_placeAfterKind 1 (some .int) ∈ lw_g := lw_g_of (List.mem_append_right _ (List.mem_of_getElem? (i := 371) (by decide +kernel))) (by decide +kernel)
theorem ws_X0_placeAfterKind : Cond.static yX0_placeAfterKind ∈ lw_g := lw_g_of (List.mem_append_right _ (List.mem_of_getElem? (i := 370) (by decide +kernel))) (by decide +kernel)
abbrev M_X0_placeInValue : sv_M := (yX0_placeInValue, cX0_placeInValue, 2, (some .int))
theorem wc_X0_placeInValue : Cond.code yX0_placeInValue cX0_placeInValue 2 (some .int) ∈ lw_g := lw_g_of (List.mem_append_right _ (List.mem_of_getElem? (i := 377) (by decide +kernel))) (by decide +kernel)
theorem ws_X0_placeInValue : Cond.static yX0_placeInValue ∈ lw_g := lw_g_of (List.mem_append_right _ (List.mem_of_getElem? (i := 376) (by decide +kernel))) (by decide +kernel)
abbrev M_X0_startsOrder : sv_M := (yX0_startsOrder, cX0_startsOrder, 2, (some .boolean))
theorem wc_X0_startsOrder : Cond.code yX0_startsOrder cX0_startsOrder 2 (some .boolean) ∈ lw_g := lw_g_of (List.mem_append_right _ (List.mem_of_getElem? (i := 385) (by decide +kernel))) (by decide +kernel)
theorem wi_X0_startsOrder : Cond.instanceMethod yX0_startsOrder ∈ lw_g := lw_g_of (List.mem_append_right _ (List.mem_of_getElem? (i := 384) (by decide +kernel))) (by decide +kernel)
abbrev M_X1_addToValue : sv_M := (yX1_addToValue, cX1_addToValue, 6, (some .int))
theorem wc_X1_addToValue : Cond.code yX1_addToValue cX1_addToValue 6 (some .int) ∈ lw_g := lw_g_of (List.mem_append_right _ (List.mem_of_getElem? (i := 331) (by decide +kernel))) (by decide +kernel)
theorem wi_X1_addToValue : Cond.instanceMethod yX1_addToValue ∈ lw_g := lw_g_of (List.mem_append_right _ (List.mem_of_getElem? (i := 330) (by decide +kernel))) (by decide +kernel)
abbrev M_X1_commitTransaction : sv_M := (yX1_commitTransaction, cX1_commitTransaction, 5, (some .int))
theorem wc_X1_commitTransaction : Cond.code yX1_commitTransaction cX1_commitTransaction 5 (some .int) ∈ lw_g := lw_g_of (List.mem_append_right _ (List.mem_of_getElem? (i := 165) (by decide +kernel))) (by decide +kernel)
theorem wi_X1_commitTransaction : Cond.instanceMethod yX1_commitTransaction ∈ lw_g := lw_g_of (List.mem_append_right _ (List.mem_of_getElem? (i := 164) (by decide +kernel))) (by decide +kernel)
abbrev M_X1_committedValue : sv_M := (yX1_committedValue, cX1_committedValue, 4, (some .int))
theorem wc_X1_committedValue : Cond.code yX1_committedValue cX1_committedValue 4 (some .int) ∈ lw_g := lw_g_of (List.mem_append_right _ (List.mem_of_getElem? (i := 432) (by decide +kernel))) (by decide +kernel)
theorem wi_X1_committedValue : Cond.instanceMethod yX1_committedValue ∈ lw_g := lw_g_of (List.mem_append_right _ (List.mem_of_getElem? (i := 431) (by decide +kernel))) (by decide +kernel)
abbrev M_X1_copyFrom : sv_M := (yX1_copyFrom, cX1_copyFrom, 3, none)
theorem wc_X1_copyFrom : Cond.code yX1_copyFrom cX1_copyFrom 3 none ∈ lw_g := lw_g_of (List.mem_append_right _ (List.mem_of_getElem? (i := 123) (by decide +kernel))) (by decide +kernel)
theorem wi_X1_copyFrom : Cond.instanceMethod yX1_copyFrom ∈ lw_g := lw_g_of (List.mem_append_right _ (List.mem_of_getElem? (i := 122) (by decide +kernel))) (by decide +kernel)
abbrev M_X1_endStatement : sv_M := (yX1_endStatement, cX1_endStatement, 5, (some .int))
theorem wc_X1_endStatement : Cond.code yX1_endStatement cX1_endStatement 5 (some .int) ∈ lw_g := lw_g_of (List.mem_append_right _ (List.mem_of_getElem? (i := 285) (by decide +kernel))) (by decide +kernel)
theorem wi_X1_endStatement : Cond.instanceMethod yX1_endStatement ∈ lw_g := lw_g_of (List.mem_append_right _ (List.mem_of_getElem? (i := 284) (by decide +kernel))) (by decide +kernel)
abbrev M_X1_eraseKey : sv_M := (yX1_eraseKey, cX1_eraseKey, 4, (some .int))
theorem wc_X1_eraseKey : Cond.code yX1_eraseKey cX1_eraseKey 4 (some .int) ∈ lw_g := lw_g_of (List.mem_append_right _ (List.mem_of_getElem? (i := 312) (by decide +kernel))) (by decide +kernel)
theorem wi_X1_eraseKey : Cond.instanceMethod yX1_eraseKey ∈ lw_g := lw_g_of (List.mem_append_right _ (List.mem_of_getElem? (i := 311) (by decide +kernel))) (by decide +kernel)
abbrev M_X1_hasSavepoint : sv_M := (yX1_hasSavepoint, cX1_hasSavepoint, 3, (some .boolean))
theorem wc_X1_hasSavepoint : Cond.code yX1_hasSavepoint cX1_hasSavepoint 3 (some .boolean) ∈ lw_g := lw_g_of (List.mem_append_right _ (List.mem_of_getElem? (i := 467) (by decide +kernel))) (by decide +kernel)
theorem wi_X1_hasSavepoint : Cond.instanceMethod yX1_hasSavepoint ∈ lw_g := lw_g_of (List.mem_append_right _ (List.mem_of_getElem? (i := 466) (by decide +kernel))) (by decide +kernel)
abbrev M_X1_init : sv_M := (yX1_init, cX1_init, 2, none)
theorem wc_X1_init : Cond.code yX1_init cX1_init 2 none ∈ lw_g := lw_g_of (List.mem_append_right _ (List.mem_of_getElem? (i := 21) (by decide +kernel))) (by decide +kernel)
theorem wi_X1_init : Cond.instanceMethod yX1_init ∈ lw_g := lw_g_of (List.mem_append_right _ (List.mem_of_getElem? (i := 20) (by decide +kernel))) (by decide +kernel)
abbrev M_X1_isBusy : sv_M := (yX1_isBusy, cX1_isBusy, 6, (some .boolean))
theorem wc_X1_isBusy : Cond.code yX1_isBusy cX1_isBusy 6 (some .boolean) ∈ lw_g := lw_g_of (List.mem_append_right _ (List.mem_of_getElem? (i := 273) (by decide +kernel))) (by decide +kernel)
theorem wi_X1_isBusy : Cond.instanceMethod yX1_isBusy ∈ lw_g := lw_g_of (List.mem_append_right _ (List.mem_of_getElem? (i := 272) (by decide +kernel))) (by decide +kernel)
abbrev M_X1_moveAmount : sv_M := (yX1_moveAmount, cX1_moveAmount, 8, (some .int))
theorem wc_X1_moveAmount : Cond.code yX1_moveAmount cX1_moveAmount 8 (some .int) ∈ lw_g := lw_g_of (List.mem_append_right _ (List.mem_of_getElem? (i := 339) (by decide +kernel))) (by decide +kernel)
theorem wi_X1_moveAmount : Cond.instanceMethod yX1_moveAmount ∈ lw_g := lw_g_of (List.mem_append_right _ (List.mem_of_getElem? (i := 338) (by decide +kernel))) (by decide +kernel)
abbrev M_X1_openTransaction : sv_M := (yX1_openTransaction, cX1_openTransaction, 4, (some .int))
theorem wc_X1_openTransaction : Cond.code yX1_openTransaction cX1_openTransaction 4 (some .int) ∈ lw_g := lw_g_of (List.mem_append_right _ (List.mem_of_getElem? (i := 146) (by decide +kernel))) (by decide +kernel)
theorem wi_X1_openTransaction : Cond.instanceMethod yX1_openTransaction ∈ lw_g := lw_g_of (List.mem_append_right _ (List.mem_of_getElem? (i := 145) (by decide +kernel))) (by decide +kernel)
abbrev M_X1_readKey : sv_M := (yX1_readKey, cX1_readKey, 5, (some .int))
theorem wc_X1_readKey : Cond.code yX1_readKey cX1_readKey 5 (some .int) ∈ lw_g := lw_g_of (List.mem_append_right _ (List.mem_of_getElem? (i := 262) (by decide +kernel))) (by decide +kernel)
theorem wi_X1_readKey : Cond.instanceMethod yX1_readKey ∈ lw_g := lw_g_of (List.mem_append_right _ (List.mem_of_getElem? (i := 261) (by decide +kernel))) (by decide +kernel)
abbrev M_X1_releaseName : sv_M := (yX1_releaseName, cX1_releaseName, 6, (some .int))
theorem wc_X1_releaseName : Cond.code yX1_releaseName cX1_releaseName 6 (some .int) ∈ lw_g := lw_g_of (List.mem_append_right _ (List.mem_of_getElem? (i := 254) (by decide +kernel))) (by decide +kernel)
theorem wi_X1_releaseName : Cond.instanceMethod yX1_releaseName ∈ lw_g := lw_g_of (List.mem_append_right _ (List.mem_of_getElem? (i := 253) (by decide +kernel))) (by decide +kernel)
abbrev M_X1_replaceValue : sv_M := (yX1_replaceValue, cX1_replaceValue, 5, (some .int))
theorem wc_X1_replaceValue : Cond.code yX1_replaceValue cX1_replaceValue 5 (some .int) ∈ lw_g := lw_g_of (List.mem_append_right _ (List.mem_of_getElem? (i := 300) (by decide +kernel))) (by decide +kernel)
theorem wi_X1_replaceValue : Cond.instanceMethod yX1_replaceValue ∈ lw_g := lw_g_of (List.mem_append_right _ (List.mem_of_getElem? (i := 299) (by decide +kernel))) (by decide +kernel)
abbrev M_X1_rollTransactionBack : sv_M := (yX1_rollTransactionBack, cX1_rollTransactionBack, 4, (some .int))
theorem wc_X1_rollTransactionBack : Cond.code yX1_rollTransactionBack cX1_rollTransactionBack 4 (some .int) ∈ lw_g := lw_g_of (List.mem_append_right _ (List.mem_of_getElem? (i := 188) (by decide +kernel))) (by decide +kernel)
theorem wi_X1_rollTransactionBack : Cond.instanceMethod yX1_rollTransactionBack ∈ lw_g := lw_g_of (List.mem_append_right _ (List.mem_of_getElem? (i := 187) (by decide +kernel))) (by decide +kernel)
abbrev M_X1_savepointOrError : sv_M := (yX1_savepointOrError, cX1_savepointOrError, 5, (some .int))
theorem wc_X1_savepointOrError : Cond.code yX1_savepointOrError cX1_savepointOrError 5 (some .int) ∈ lw_g := lw_g_of (List.mem_append_right _ (List.mem_of_getElem? (i := 227) (by decide +kernel))) (by decide +kernel)
theorem wi_X1_savepointOrError : Cond.instanceMethod yX1_savepointOrError ∈ lw_g := lw_g_of (List.mem_append_right _ (List.mem_of_getElem? (i := 226) (by decide +kernel))) (by decide +kernel)
abbrev M_X1_setSavepoint : sv_M := (yX1_setSavepoint, cX1_setSavepoint, 6, (some .int))
theorem wc_X1_setSavepoint : Cond.code yX1_setSavepoint cX1_setSavepoint 6 (some .int) ∈ lw_g := lw_g_of (List.mem_append_right _ (List.mem_of_getElem? (i := 208) (by decide +kernel))) (by decide +kernel)
theorem wi_X1_setSavepoint : Cond.instanceMethod yX1_setSavepoint ∈ lw_g := lw_g_of (List.mem_append_right _ (List.mem_of_getElem? (i := 207) (by decide +kernel))) (by decide +kernel)
abbrev M_X1_shiftKeys : sv_M := (yX1_shiftKeys, cX1_shiftKeys, 9, (some .int))
theorem wc_X1_shiftKeys : Cond.code yX1_shiftKeys cX1_shiftKeys 9 (some .int) ∈ lw_g := lw_g_of (List.mem_append_right _ (List.mem_of_getElem? (i := 320) (by decide +kernel))) (by decide +kernel)
theorem wi_X1_shiftKeys : Cond.instanceMethod yX1_shiftKeys ∈ lw_g := lw_g_of (List.mem_append_right _ (List.mem_of_getElem? (i := 319) (by decide +kernel))) (by decide +kernel)
abbrev M_X1_takeLock : sv_M := (yX1_takeLock, cX1_takeLock, 4, (some .boolean))
theorem wc_X1_takeLock : Cond.code yX1_takeLock cX1_takeLock 4 (some .boolean) ∈ lw_g := lw_g_of (List.mem_append_right _ (List.mem_of_getElem? (i := 269) (by decide +kernel))) (by decide +kernel)
theorem wi_X1_takeLock : Cond.instanceMethod yX1_takeLock ∈ lw_g := lw_g_of (List.mem_append_right _ (List.mem_of_getElem? (i := 268) (by decide +kernel))) (by decide +kernel)
abbrev M_X1_undoToMoment : sv_M := (yX1_undoToMoment, cX1_undoToMoment, 6, (some .int))
theorem wc_X1_undoToMoment : Cond.code yX1_undoToMoment cX1_undoToMoment 6 (some .int) ∈ lw_g := lw_g_of (List.mem_append_right _ (List.mem_of_getElem? (i := 192) (by decide +kernel))) (by decide +kernel)
theorem wi_X1_undoToMoment : Cond.instanceMethod yX1_undoToMoment ∈ lw_g := lw_g_of (List.mem_append_right _ (List.mem_of_getElem? (i := 191) (by decide +kernel))) (by decide +kernel)
abbrev M_X1_undoToName : sv_M := (yX1_undoToName, cX1_undoToName, 6, (some .int))
theorem wc_X1_undoToName : Cond.code yX1_undoToName cX1_undoToName 6 (some .int) ∈ lw_g := lw_g_of (List.mem_append_right _ (List.mem_of_getElem? (i := 223) (by decide +kernel))) (by decide +kernel)
theorem wi_X1_undoToName : Cond.instanceMethod yX1_undoToName ∈ lw_g := lw_g_of (List.mem_append_right _ (List.mem_of_getElem? (i := 222) (by decide +kernel))) (by decide +kernel)
abbrev M_X1_valueCount : sv_M := (yX1_valueCount, cX1_valueCount, 3, (some .int))
theorem wc_X1_valueCount : Cond.code yX1_valueCount cX1_valueCount 3 (some .int) ∈ lw_g := lw_g_of (List.mem_append_right _ (List.mem_of_getElem? (i := 415) (by decide +kernel))) (by decide +kernel)
theorem wi_X1_valueCount : Cond.instanceMethod yX1_valueCount ∈ lw_g := lw_g_of (List.mem_append_right _ (List.mem_of_getElem? (i := 414) (by decide +kernel))) (by decide +kernel)
abbrev M_X1_valueSum : sv_M := (yX1_valueSum, cX1_valueSum, 3, (some .int))
theorem wc_X1_valueSum : Cond.code yX1_valueSum cX1_valueSum 3 (some .int) ∈ lw_g := lw_g_of (List.mem_append_right _ (List.mem_of_getElem? (i := 500) (by decide +kernel))) (by decide +kernel)
theorem wi_X1_valueSum : Cond.instanceMethod yX1_valueSum ∈ lw_g := lw_g_of (List.mem_append_right _ (List.mem_of_getElem? (i := 499) (by decide +kernel))) (by decide +kernel)
abbrev M_X1_whyImpossible : sv_M := (yX1_whyImpossible, cX1_whyImpossible, 4, (some .int))
theorem wc_X1_whyImpossible : Cond.code yX1_whyImpossible cX1_whyImpossible 4 (some .int) ∈ lw_g := lw_g_of (List.mem_append_right _ (List.mem_of_getElem? (i := 169) (by decide +kernel))) (by decide +kernel)
theorem wi_X1_whyImpossible : Cond.instanceMethod yX1_whyImpossible ∈ lw_g := lw_g_of (List.mem_append_right _ (List.mem_of_getElem? (i := 168) (by decide +kernel))) (by decide +kernel)
abbrev M_X1_writeKey : sv_M := (yX1_writeKey, cX1_writeKey, 5, (some .int))
theorem wc_X1_writeKey : Cond.code yX1_writeKey cX1_writeKey 5 (some .int) ∈ lw_g := lw_g_of (List.mem_append_right _ (List.mem_of_getElem? (i := 293) (by decide +kernel))) (by decide +kernel)
theorem wi_X1_writeKey : Cond.instanceMethod yX1_writeKey ∈ lw_g := lw_g_of (List.mem_append_right _ (List.mem_of_getElem? (i := 292) (by decide +kernel))) (by decide +kernel)
abbrev M_X2_addMoment : sv_M := (yX2_addMoment, cX2_addMoment, 1, none)
theorem wc_X2_addMoment : Cond.code yX2_addMoment cX2_addMoment 1 none ∈ lw_g := lw_g_of (List.mem_append_right _ (List.mem_of_getElem? (i := 157) (by decide +kernel))) (by decide +kernel)
theorem wi_X2_addMoment : Cond.instanceMethod yX2_addMoment ∈ lw_g := lw_g_of (List.mem_append_right _ (List.mem_of_getElem? (i := 156) (by decide +kernel))) (by decide +kernel)
abbrev M_X2_close : sv_M := (yX2_close, cX2_close, 1, none)
theorem wc_X2_close : Cond.code yX2_close cX2_close 1 none ∈ lw_g := lw_g_of (List.mem_append_right _ (List.mem_of_getElem? (i := 180) (by decide +kernel))) (by decide +kernel)
theorem wi_X2_close : Cond.instanceMethod yX2_close ∈ lw_g := lw_g_of (List.mem_append_right _ (List.mem_of_getElem? (i := 179) (by decide +kernel))) (by decide +kernel)
abbrev M_X2_copyFrom : sv_M := (yX2_copyFrom, cX2_copyFrom, 3, none)
theorem wc_X2_copyFrom : Cond.code yX2_copyFrom cX2_copyFrom 3 none ∈ lw_g := lw_g_of (List.mem_append_right _ (List.mem_of_getElem? (i := 130) (by decide +kernel))) (by decide +kernel)
theorem wi_X2_copyFrom : Cond.instanceMethod yX2_copyFrom ∈ lw_g := lw_g_of (List.mem_append_right _ (List.mem_of_getElem? (i := 129) (by decide +kernel))) (by decide +kernel)
abbrev M_X2_dropMomentsAfter : sv_M := (yX2_dropMomentsAfter, cX2_dropMomentsAfter, 4, none)
theorem wc_X2_dropMomentsAfter : Cond.code yX2_dropMomentsAfter cX2_dropMomentsAfter 4 none ∈ lw_g := lw_g_of (List.mem_append_right _ (List.mem_of_getElem? (i := 239) (by decide +kernel))) (by decide +kernel)
theorem wi_X2_dropMomentsAfter : Cond.instanceMethod yX2_dropMomentsAfter ∈ lw_g := lw_g_of (List.mem_append_right _ (List.mem_of_getElem? (i := 238) (by decide +kernel))) (by decide +kernel)
abbrev M_X2_forgetChangesSince : sv_M := (yX2_forgetChangesSince, cX2_forgetChangesSince, 3, none)
theorem wc_X2_forgetChangesSince : Cond.code yX2_forgetChangesSince cX2_forgetChangesSince 3 none ∈ lw_g := lw_g_of (List.mem_append_right _ (List.mem_of_getElem? (i := 196) (by decide +kernel))) (by decide +kernel)
theorem wi_X2_forgetChangesSince : Cond.instanceMethod yX2_forgetChangesSince ∈ lw_g := lw_g_of (List.mem_append_right _ (List.mem_of_getElem? (i := 195) (by decide +kernel))) (by decide +kernel)
abbrev M_X2_init : sv_M := (yX2_init, cX2_init, 1, none)
theorem wc_X2_init : Cond.code yX2_init cX2_init 1 none ∈ lw_g := lw_g_of (List.mem_append_right _ (List.mem_of_getElem? (i := 28) (by decide +kernel))) (by decide +kernel)
theorem wi_X2_init : Cond.instanceMethod yX2_init ∈ lw_g := lw_g_of (List.mem_append_right _ (List.mem_of_getElem? (i := 27) (by decide +kernel))) (by decide +kernel)
abbrev M_X2_isOpen : sv_M := (yX2_isOpen, cX2_isOpen, 1, (some .boolean))
theorem wc_X2_isOpen : Cond.code yX2_isOpen cX2_isOpen 1 (some .boolean) ∈ lw_g := lw_g_of (List.mem_append_right _ (List.mem_of_getElem? (i := 153) (by decide +kernel))) (by decide +kernel)
theorem wi_X2_isOpen : Cond.instanceMethod yX2_isOpen ∈ lw_g := lw_g_of (List.mem_append_right _ (List.mem_of_getElem? (i := 152) (by decide +kernel))) (by decide +kernel)
abbrev M_X2_keysChangedSince : sv_M := (yX2_keysChangedSince, cX2_keysChangedSince, 4, (some .int))
theorem wc_X2_keysChangedSince : Cond.code yX2_keysChangedSince cX2_keysChangedSince 4 (some .int) ∈ lw_g := lw_g_of (List.mem_append_right _ (List.mem_of_getElem? (i := 453) (by decide +kernel))) (by decide +kernel)
theorem wi_X2_keysChangedSince : Cond.instanceMethod yX2_keysChangedSince ∈ lw_g := lw_g_of (List.mem_append_right _ (List.mem_of_getElem? (i := 452) (by decide +kernel))) (by decide +kernel)
abbrev M_X2_lockCount : sv_M := (yX2_lockCount, cX2_lockCount, 4, (some .int))
theorem wc_X2_lockCount : Cond.code yX2_lockCount cX2_lockCount 4 (some .int) ∈ lw_g := lw_g_of (List.mem_append_right _ (List.mem_of_getElem? (i := 458) (by decide +kernel))) (by decide +kernel)
theorem wi_X2_lockCount : Cond.instanceMethod yX2_lockCount ∈ lw_g := lw_g_of (List.mem_append_right _ (List.mem_of_getElem? (i := 457) (by decide +kernel))) (by decide +kernel)
abbrev M_X2_lockMode : sv_M := (yX2_lockMode, cX2_lockMode, 2, (some .int))
theorem wc_X2_lockMode : Cond.code yX2_lockMode cX2_lockMode 2 (some .int) ∈ lw_g := lw_g_of (List.mem_append_right _ (List.mem_of_getElem? (i := 277) (by decide +kernel))) (by decide +kernel)
theorem wi_X2_lockMode : Cond.instanceMethod yX2_lockMode ∈ lw_g := lw_g_of (List.mem_append_right _ (List.mem_of_getElem? (i := 276) (by decide +kernel))) (by decide +kernel)
abbrev M_X2_locksChangedSince : sv_M := (yX2_locksChangedSince, cX2_locksChangedSince, 5, (some .int))
theorem wc_X2_locksChangedSince : Cond.code yX2_locksChangedSince cX2_locksChangedSince 5 (some .int) ∈ lw_g := lw_g_of (List.mem_append_right _ (List.mem_of_getElem? (i := 482) (by decide +kernel))) (by decide +kernel)
theorem wi_X2_locksChangedSince : Cond.instanceMethod yX2_locksChangedSince ∈ lw_g := lw_g_of (List.mem_append_right _ (List.mem_of_getElem? (i := 481) (by decide +kernel))) (by decide +kernel)
abbrev M_X2_nearestSavepoint : sv_M := (yX2_nearestSavepoint, cX2_nearestSavepoint, 3, (some .int))
theorem wc_X2_nearestSavepoint : Cond.code yX2_nearestSavepoint cX2_nearestSavepoint 3 (some .int) ∈ lw_g := lw_g_of (List.mem_append_right _ (List.mem_of_getElem? (i := 231) (by decide +kernel))) (by decide +kernel)
theorem wi_X2_nearestSavepoint : Cond.instanceMethod yX2_nearestSavepoint ∈ lw_g := lw_g_of (List.mem_append_right _ (List.mem_of_getElem? (i := 230) (by decide +kernel))) (by decide +kernel)
abbrev M_X2_noteChange : sv_M := (yX2_noteChange, cX2_noteChange, 4, none)
theorem wc_X2_noteChange : Cond.code yX2_noteChange cX2_noteChange 4 none ∈ lw_g := lw_g_of (List.mem_append_right _ (List.mem_of_getElem? (i := 304) (by decide +kernel))) (by decide +kernel)
theorem wi_X2_noteChange : Cond.instanceMethod yX2_noteChange ∈ lw_g := lw_g_of (List.mem_append_right _ (List.mem_of_getElem? (i := 303) (by decide +kernel))) (by decide +kernel)
abbrev M_X2_noteChangeAt : sv_M := (yX2_noteChangeAt, cX2_noteChangeAt, 5, none)
theorem wc_X2_noteChangeAt : Cond.code yX2_noteChangeAt cX2_noteChangeAt 5 none ∈ lw_g := lw_g_of (List.mem_append_right _ (List.mem_of_getElem? (i := 243) (by decide +kernel))) (by decide +kernel)
theorem wi_X2_noteChangeAt : Cond.instanceMethod yX2_noteChangeAt ∈ lw_g := lw_g_of (List.mem_append_right _ (List.mem_of_getElem? (i := 242) (by decide +kernel))) (by decide +kernel)
abbrev M_X2_savepointCount : sv_M := (yX2_savepointCount, cX2_savepointCount, 1, (some .int))
theorem wc_X2_savepointCount : Cond.code yX2_savepointCount cX2_savepointCount 1 (some .int) ∈ lw_g := lw_g_of (List.mem_append_right _ (List.mem_of_getElem? (i := 215) (by decide +kernel))) (by decide +kernel)
theorem wi_X2_savepointCount : Cond.instanceMethod yX2_savepointCount ∈ lw_g := lw_g_of (List.mem_append_right _ (List.mem_of_getElem? (i := 214) (by decide +kernel))) (by decide +kernel)
abbrev M_X2_setLockMode : sv_M := (yX2_setLockMode, cX2_setLockMode, 4, none)
theorem wc_X2_setLockMode : Cond.code yX2_setLockMode cX2_setLockMode 4 none ∈ lw_g := lw_g_of (List.mem_append_right _ (List.mem_of_getElem? (i := 281) (by decide +kernel))) (by decide +kernel)
theorem wi_X2_setLockMode : Cond.instanceMethod yX2_setLockMode ∈ lw_g := lw_g_of (List.mem_append_right _ (List.mem_of_getElem? (i := 280) (by decide +kernel))) (by decide +kernel)
abbrev M_X2_undoLocks : sv_M := (yX2_undoLocks, cX2_undoLocks, 2, none)
theorem wc_X2_undoLocks : Cond.code yX2_undoLocks cX2_undoLocks 2 none ∈ lw_g := lw_g_of (List.mem_append_right _ (List.mem_of_getElem? (i := 200) (by decide +kernel))) (by decide +kernel)
theorem wi_X2_undoLocks : Cond.instanceMethod yX2_undoLocks ∈ lw_g := lw_g_of (List.mem_append_right _ (List.mem_of_getElem? (i := 199) (by decide +kernel))) (by decide +kernel)
abbrev M_X2_valueAt : sv_M := (yX2_valueAt, cX2_valueAt, 5, (some .int))
theorem wc_X2_valueAt : Cond.code yX2_valueAt cX2_valueAt 5 (some .int) ∈ lw_g := lw_g_of (List.mem_append_right _ (List.mem_of_getElem? (i := 173) (by decide +kernel))) (by decide +kernel)
theorem wi_X2_valueAt : Cond.instanceMethod yX2_valueAt ∈ lw_g := lw_g_of (List.mem_append_right _ (List.mem_of_getElem? (i := 172) (by decide +kernel))) (by decide +kernel)
abbrev M_X3_append : sv_M := (yX3_append, cX3_append, 2, (some .int))
theorem wc_X3_append : Cond.code yX3_append cX3_append 2 (some .int) ∈ lw_g := lw_g_of (List.mem_append_right _ (List.mem_of_getElem? (i := 343) (by decide +kernel))) (by decide +kernel)
theorem wi_X3_append : Cond.instanceMethod yX3_append ∈ lw_g := lw_g_of (List.mem_append_right _ (List.mem_of_getElem? (i := 341) (by decide +kernel))) (by decide +kernel)
abbrev M_X3_begin : sv_M := (yX3_begin, cX3_begin, 2, (some .int))
theorem wc_X3_begin : Cond.code yX3_begin cX3_begin 2 (some .int) ∈ lw_g := lw_g_of (List.mem_append_right _ (List.mem_of_getElem? (i := 142) (by decide +kernel))) (by decide +kernel)
theorem wi_X3_begin : Cond.instanceMethod yX3_begin ∈ lw_g := lw_g_of (List.mem_append_right _ (List.mem_of_getElem? (i := 140) (by decide +kernel))) (by decide +kernel)
abbrev M_X3_busyFor : sv_M := (yX3_busyFor, cX3_busyFor, 5, (some .int))
theorem wc_X3_busyFor : Cond.code yX3_busyFor cX3_busyFor 5 (some .int) ∈ lw_g := lw_g_of (List.mem_append_right _ (List.mem_of_getElem? (i := 442) (by decide +kernel))) (by decide +kernel)
theorem wi_X3_busyFor : Cond.instanceMethod yX3_busyFor ∈ lw_g := lw_g_of (List.mem_append_right _ (List.mem_of_getElem? (i := 440) (by decide +kernel))) (by decide +kernel)
abbrev M_X3_changedSince : sv_M := (yX3_changedSince, cX3_changedSince, 6, (some .int))
theorem wc_X3_changedSince : Cond.code yX3_changedSince cX3_changedSince 6 (some .int) ∈ lw_g := lw_g_of (List.mem_append_right _ (List.mem_of_getElem? (i := 477) (by decide +kernel))) (by decide +kernel)
theorem wi_X3_changedSince : Cond.instanceMethod yX3_changedSince ∈ lw_g := lw_g_of (List.mem_append_right _ (List.mem_of_getElem? (i := 475) (by decide +kernel))) (by decide +kernel)
abbrev M_X3_clearText : sv_M := (yX3_clearText, cX3_clearText, 2, (some .int))
theorem wc_X3_clearText : Cond.code yX3_clearText cX3_clearText 2 (some .int) ∈ lw_g := lw_g_of (List.mem_append_right _ (List.mem_of_getElem? (i := 351) (by decide +kernel))) (by decide +kernel)
theorem wi_X3_clearText : Cond.instanceMethod yX3_clearText ∈ lw_g := lw_g_of (List.mem_append_right _ (List.mem_of_getElem? (i := 349) (by decide +kernel))) (by decide +kernel)
abbrev M_X3_commit : sv_M := (yX3_commit, cX3_commit, 2, (some .int))
theorem wc_X3_commit : Cond.code yX3_commit cX3_commit 2 (some .int) ∈ lw_g := lw_g_of (List.mem_append_right _ (List.mem_of_getElem? (i := 161) (by decide +kernel))) (by decide +kernel)
theorem wi_X3_commit : Cond.instanceMethod yX3_commit ∈ lw_g := lw_g_of (List.mem_append_right _ (List.mem_of_getElem? (i := 159) (by decide +kernel))) (by decide +kernel)
abbrev M_X3_committed : sv_M := (yX3_committed, cX3_committed, 2, (some .int))
theorem wc_X3_committed : Cond.code yX3_committed cX3_committed 2 (some .int) ∈ lw_g := lw_g_of (List.mem_append_right _ (List.mem_of_getElem? (i := 428) (by decide +kernel))) (by decide +kernel)
theorem wi_X3_committed : Cond.instanceMethod yX3_committed ∈ lw_g := lw_g_of (List.mem_append_right _ (List.mem_of_getElem? (i := 426) (by decide +kernel))) (by decide +kernel)
abbrev M_X3_erase : sv_M := (yX3_erase, cX3_erase, 3, (some .int))
theorem wc_X3_erase : Cond.code yX3_erase cX3_erase 3 (some .int) ∈ lw_g := lw_g_of (List.mem_append_right _ (List.mem_of_getElem? (i := 308) (by decide +kernel))) (by decide +kernel)
theorem wi_X3_erase : Cond.instanceMethod yX3_erase ∈ lw_g := lw_g_of (List.mem_append_right _ (List.mem_of_getElem? (i := 306) (by decide +kernel))) (by decide +kernel)
abbrev M_X3_fault : sv_M := (yX3_fault, cX3_fault, 1, (some .int))
theorem wc_X3_fault : Cond.code yX3_fault cX3_fault 1 (some .int) ∈ lw_g := lw_g_of (List.mem_append_right _ (List.mem_of_getElem? (i := 355) (by decide +kernel))) (by decide +kernel)
theorem wi_X3_fault : Cond.instanceMethod yX3_fault ∈ lw_g := lw_g_of (List.mem_append_right _ (List.mem_of_getElem? (i := 353) (by decide +kernel))) (by decide +kernel)
abbrev M_X3_ifUndone : sv_M := (yX3_ifUndone, cX3_ifUndone, 5, (some .int))
theorem wc_X3_ifUndone : Cond.code yX3_ifUndone cX3_ifUndone 5 (some .int) ∈ lw_g := lw_g_of (List.mem_append_right _ (List.mem_of_getElem? (i := 486) (by decide +kernel))) (by decide +kernel)
theorem wi_X3_ifUndone : Cond.instanceMethod yX3_ifUndone ∈ lw_g := lw_g_of (List.mem_append_right _ (List.mem_of_getElem? (i := 484) (by decide +kernel))) (by decide +kernel)
abbrev M_X3_init : sv_M := (yX3_init, cX3_init, 2, none)
theorem wc_X3_init : Cond.code yX3_init cX3_init 2 none ∈ lw_g := lw_g_of (List.mem_append_right _ (List.mem_of_getElem? (i := 13) (by decide +kernel))) (by decide +kernel)
theorem wi_X3_init : Cond.instanceMethod yX3_init ∈ lw_g := lw_g_of (List.mem_append_right _ (List.mem_of_getElem? (i := 12) (by decide +kernel))) (by decide +kernel)
abbrev M_X3_isError : sv_M := (yX3_isError, cX3_isError, 1, (some .boolean))
theorem wc_X3_isError : Cond.code yX3_isError cX3_isError 1 (some .boolean) ∈ lw_g := lw_g_of (List.mem_append_right _ (List.mem_of_getElem? (i := 138) (by decide +kernel))) (by decide +kernel)
theorem ws_X3_isError : Cond.static yX3_isError ∈ lw_g := lw_g_of (List.mem_append_right _ (List.mem_of_getElem? (i := 137) (by decide +kernel))) (by decide +kernel)
abbrev M_X3_isKey : sv_M := (yX3_isKey, cX3_isKey, 1, (some .boolean))
theorem wc_X3_isKey : Cond.code yX3_isKey cX3_isKey 1 (some .boolean) ∈ lw_g := lw_g_of (List.mem_append_right _ (List.mem_of_getElem? (i := 265) (by decide +kernel))) (by decide +kernel)
theorem ws_X3_isKey : Cond.static yX3_isKey ∈ lw_g := lw_g_of (List.mem_append_right _ (List.mem_of_getElem? (i := 264) (by decide +kernel))) (by decide +kernel)
abbrev M_X3_isName : sv_M := (yX3_isName, cX3_isName, 1, (some .boolean))
theorem wc_X3_isName : Cond.code yX3_isName cX3_isName 1 (some .boolean) ∈ lw_g := lw_g_of (List.mem_append_right _ (List.mem_of_getElem? (i := 211) (by decide +kernel))) (by decide +kernel)
theorem ws_X3_isName : Cond.static yX3_isName ∈ lw_g := lw_g_of (List.mem_append_right _ (List.mem_of_getElem? (i := 210) (by decide +kernel))) (by decide +kernel)
abbrev M_X3_isSession : sv_M := (yX3_isSession, cX3_isSession, 1, (some .boolean))
theorem wc_X3_isSession : Cond.code yX3_isSession cX3_isSession 1 (some .boolean) ∈ lw_g := lw_g_of (List.mem_append_right _ (List.mem_of_getElem? (i := 149) (by decide +kernel))) (by decide +kernel)
theorem ws_X3_isSession : Cond.static yX3_isSession ∈ lw_g := lw_g_of (List.mem_append_right _ (List.mem_of_getElem? (i := 148) (by decide +kernel))) (by decide +kernel)
abbrev M_X3_isValue : sv_M := (yX3_isValue, cX3_isValue, 1, (some .boolean))
theorem wc_X3_isValue : Cond.code yX3_isValue cX3_isValue 1 (some .boolean) ∈ lw_g := lw_g_of (List.mem_append_right _ (List.mem_of_getElem? (i := 296) (by decide +kernel))) (by decide +kernel)
theorem ws_X3_isValue : Cond.static yX3_isValue ∈ lw_g := lw_g_of (List.mem_append_right _ (List.mem_of_getElem? (i := 295) (by decide +kernel))) (by decide +kernel)
abbrev M_X3_keep : sv_M := (yX3_keep, cX3_keep, 3, (some .int))
theorem wc_X3_keep : Cond.code yX3_keep cX3_keep 3 (some .int) ∈ lw_g := lw_g_of (List.mem_append_right _ (List.mem_of_getElem? (i := 111) (by decide +kernel))) (by decide +kernel)
theorem wi_X3_keep : Cond.instanceMethod yX3_keep ∈ lw_g := lw_g_of (List.mem_append_right _ (List.mem_of_getElem? (i := 109) (by decide +kernel))) (by decide +kernel)
abbrev M_X3_mean : sv_M := (yX3_mean, cX3_mean, 2, (some .double))
theorem wc_X3_mean : Cond.code yX3_mean cX3_mean 2 (some .double) ∈ lw_g := lw_g_of (List.mem_append_right _ (List.mem_of_getElem? (i := 496) (by decide +kernel))) (by decide +kernel)
theorem wi_X3_mean : Cond.instanceMethod yX3_mean ∈ lw_g := lw_g_of (List.mem_append_right _ (List.mem_of_getElem? (i := 494) (by decide +kernel))) (by decide +kernel)
abbrev M_X3_mode : sv_M := (yX3_mode, cX3_mode, 3, (some .int))
theorem wc_X3_mode : Cond.code yX3_mode cX3_mode 3 (some .int) ∈ lw_g := lw_g_of (List.mem_append_right _ (List.mem_of_getElem? (i := 436) (by decide +kernel))) (by decide +kernel)
theorem wi_X3_mode : Cond.instanceMethod yX3_mode ∈ lw_g := lw_g_of (List.mem_append_right _ (List.mem_of_getElem? (i := 434) (by decide +kernel))) (by decide +kernel)
abbrev M_X3_momentOf : sv_M := (yX3_momentOf, cX3_momentOf, 1, (some .int))
theorem wc_X3_momentOf : Cond.code yX3_momentOf cX3_momentOf 1 (some .int) ∈ lw_g := lw_g_of (List.mem_append_right _ (List.mem_of_getElem? (i := 235) (by decide +kernel))) (by decide +kernel)
theorem ws_X3_momentOf : Cond.static yX3_momentOf ∈ lw_g := lw_g_of (List.mem_append_right _ (List.mem_of_getElem? (i := 234) (by decide +kernel))) (by decide +kernel)
abbrev M_X3_move : sv_M := (yX3_move, cX3_move, 5, (some .int))
theorem wc_X3_move : Cond.code yX3_move cX3_move 5 (some .int) ∈ lw_g := lw_g_of (List.mem_append_right _ (List.mem_of_getElem? (i := 335) (by decide +kernel))) (by decide +kernel)
theorem wi_X3_move : Cond.instanceMethod yX3_move ∈ lw_g := lw_g_of (List.mem_append_right _ (List.mem_of_getElem? (i := 333) (by decide +kernel))) (by decide +kernel)
abbrev M_X3_nameOf : sv_M := (yX3_nameOf, cX3_nameOf, 3, (some .int))
theorem wc_X3_nameOf : Cond.code yX3_nameOf cX3_nameOf 3 (some .int) ∈ lw_g := lw_g_of (List.mem_append_right _ (List.mem_of_getElem? (i := 463) (by decide +kernel))) (by decide +kernel)
theorem wi_X3_nameOf : Cond.instanceMethod yX3_nameOf ∈ lw_g := lw_g_of (List.mem_append_right _ (List.mem_of_getElem? (i := 461) (by decide +kernel))) (by decide +kernel)
abbrev M_X3_nearest : sv_M := (yX3_nearest, cX3_nearest, 3, (some .int))
theorem wc_X3_nearest : Cond.code yX3_nearest cX3_nearest 3 (some .int) ∈ lw_g := lw_g_of (List.mem_append_right _ (List.mem_of_getElem? (i := 471) (by decide +kernel))) (by decide +kernel)
theorem wi_X3_nearest : Cond.instanceMethod yX3_nearest ∈ lw_g := lw_g_of (List.mem_append_right _ (List.mem_of_getElem? (i := 469) (by decide +kernel))) (by decide +kernel)
abbrev M_X3_perform : sv_M := (yX3_perform, cX3_perform, 5, (some .int))
theorem wc_X3_perform : Cond.code yX3_perform cX3_perform 5 (some .int) ∈ lw_g := lw_g_of (List.mem_append_right _ (List.mem_of_getElem? (i := 381) (by decide +kernel))) (by decide +kernel)
theorem wi_X3_perform : Cond.instanceMethod yX3_perform ∈ lw_g := lw_g_of (List.mem_append_right _ (List.mem_of_getElem? (i := 379) (by decide +kernel))) (by decide +kernel)
abbrev M_X3_performOrder : sv_M := (yX3_performOrder, cX3_performOrder, 4, (some .int))
theorem wc_X3_performOrder : Cond.code yX3_performOrder cX3_performOrder 4 (some .int) ∈ lw_g := lw_g_of (List.mem_append_right _ (List.mem_of_getElem? (i := 393) (by decide +kernel))) (by decide +kernel)
theorem wi_X3_performOrder : Cond.instanceMethod yX3_performOrder ∈ lw_g := lw_g_of (List.mem_append_right _ (List.mem_of_getElem? (i := 392) (by decide +kernel))) (by decide +kernel)
abbrev M_X3_read : sv_M := (yX3_read, cX3_read, 3, (some .int))
theorem wc_X3_read : Cond.code yX3_read cX3_read 3 (some .int) ∈ lw_g := lw_g_of (List.mem_append_right _ (List.mem_of_getElem? (i := 258) (by decide +kernel))) (by decide +kernel)
theorem wi_X3_read : Cond.instanceMethod yX3_read ∈ lw_g := lw_g_of (List.mem_append_right _ (List.mem_of_getElem? (i := 256) (by decide +kernel))) (by decide +kernel)
abbrev M_X3_recordUnlessError : sv_M := (yX3_recordUnlessError, cX3_recordUnlessError, 2, (some .int))
theorem wc_X3_recordUnlessError : Cond.code yX3_recordUnlessError cX3_recordUnlessError 2 (some .int) ∈ lw_g := lw_g_of (List.mem_append_right _ (List.mem_of_getElem? (i := 135) (by decide +kernel))) (by decide +kernel)
theorem wi_X3_recordUnlessError : Cond.instanceMethod yX3_recordUnlessError ∈ lw_g := lw_g_of (List.mem_append_right _ (List.mem_of_getElem? (i := 134) (by decide +kernel))) (by decide +kernel)
abbrev M_X3_release : sv_M := (yX3_release, cX3_release, 3, (some .int))
theorem wc_X3_release : Cond.code yX3_release cX3_release 3 (some .int) ∈ lw_g := lw_g_of (List.mem_append_right _ (List.mem_of_getElem? (i := 250) (by decide +kernel))) (by decide +kernel)
theorem wi_X3_release : Cond.instanceMethod yX3_release ∈ lw_g := lw_g_of (List.mem_append_right _ (List.mem_of_getElem? (i := 248) (by decide +kernel))) (by decide +kernel)
abbrev M_X3_rememberState : sv_M := (yX3_rememberState, cX3_rememberState, 1, none)
theorem wc_X3_rememberState : Cond.code yX3_rememberState cX3_rememberState 1 none ∈ lw_g := lw_g_of (List.mem_append_right _ (List.mem_of_getElem? (i := 115) (by decide +kernel))) (by decide +kernel)
theorem wi_X3_rememberState : Cond.instanceMethod yX3_rememberState ∈ lw_g := lw_g_of (List.mem_append_right _ (List.mem_of_getElem? (i := 114) (by decide +kernel))) (by decide +kernel)
abbrev M_X3_restore : sv_M := (yX3_restore, cX3_restore, 1, (some .int))
theorem wc_X3_restore : Cond.code yX3_restore cX3_restore 1 (some .int) ∈ lw_g := lw_g_of (List.mem_append_right _ (List.mem_of_getElem? (i := 419) (by decide +kernel))) (by decide +kernel)
theorem wi_X3_restore : Cond.instanceMethod yX3_restore ∈ lw_g := lw_g_of (List.mem_append_right _ (List.mem_of_getElem? (i := 417) (by decide +kernel))) (by decide +kernel)
abbrev M_X3_rollback : sv_M := (yX3_rollback, cX3_rollback, 2, (some .int))
theorem wc_X3_rollback : Cond.code yX3_rollback cX3_rollback 2 (some .int) ∈ lw_g := lw_g_of (List.mem_append_right _ (List.mem_of_getElem? (i := 184) (by decide +kernel))) (by decide +kernel)
theorem wi_X3_rollback : Cond.instanceMethod yX3_rollback ∈ lw_g := lw_g_of (List.mem_append_right _ (List.mem_of_getElem? (i := 182) (by decide +kernel))) (by decide +kernel)
abbrev M_X3_save : sv_M := (yX3_save, cX3_save, 1, (some .int))
theorem wc_X3_save : Cond.code yX3_save cX3_save 1 (some .int) ∈ lw_g := lw_g_of (List.mem_append_right _ (List.mem_of_getElem? (i := 411) (by decide +kernel))) (by decide +kernel)
theorem wi_X3_save : Cond.instanceMethod yX3_save ∈ lw_g := lw_g_of (List.mem_append_right _ (List.mem_of_getElem? (i := 409) (by decide +kernel))) (by decide +kernel)
abbrev M_X3_savepoint : sv_M := (yX3_savepoint, cX3_savepoint, 3, (some .int))
theorem wc_X3_savepoint : Cond.code yX3_savepoint cX3_savepoint 3 (some .int) ∈ lw_g := lw_g_of (List.mem_append_right _ (List.mem_of_getElem? (i := 204) (by decide +kernel))) (by decide +kernel)
theorem wi_X3_savepoint : Cond.instanceMethod yX3_savepoint ∈ lw_g := lw_g_of (List.mem_append_right _ (List.mem_of_getElem? (i := 202) (by decide +kernel))) (by decide +kernel)
abbrev M_X3_session : sv_M := (yX3_session, cX3_session, 4, (some .int))
theorem wc_X3_session : Cond.code yX3_session cX3_session 4 (some .int) ∈ lw_g := lw_g_of (List.mem_append_right _ (List.mem_of_getElem? (i := 447) (by decide +kernel))) (by decide +kernel)
theorem wi_X3_session : Cond.instanceMethod yX3_session ∈ lw_g := lw_g_of (List.mem_append_right _ (List.mem_of_getElem? (i := 445) (by decide +kernel))) (by decide +kernel)
abbrev M_X3_shift : sv_M := (yX3_shift, cX3_shift, 4, (some .int))
theorem wc_X3_shift : Cond.code yX3_shift cX3_shift 4 (some .int) ∈ lw_g := lw_g_of (List.mem_append_right _ (List.mem_of_getElem? (i := 316) (by decide +kernel))) (by decide +kernel)
theorem wi_X3_shift : Cond.instanceMethod yX3_shift ∈ lw_g := lw_g_of (List.mem_append_right _ (List.mem_of_getElem? (i := 314) (by decide +kernel))) (by decide +kernel)
abbrev M_X3_slotBehindHistory : sv_M := (yX3_slotBehindHistory, cX3_slotBehindHistory, 1, (some .int))
theorem wc_X3_slotBehindHistory : Cond.code yX3_slotBehindHistory cX3_slotBehindHistory 1 (some .int) ∈ lw_g := lw_g_of (List.mem_append_right _ (List.mem_of_getElem? (i := 119) (by decide +kernel))) (by decide +kernel)
theorem wi_X3_slotBehindHistory : Cond.instanceMethod yX3_slotBehindHistory ∈ lw_g := lw_g_of (List.mem_append_right _ (List.mem_of_getElem? (i := 118) (by decide +kernel))) (by decide +kernel)
abbrev M_X3_total : sv_M := (yX3_total, cX3_total, 2, (some .int))
theorem wc_X3_total : Cond.code yX3_total cX3_total 2 (some .int) ∈ lw_g := lw_g_of (List.mem_append_right _ (List.mem_of_getElem? (i := 492) (by decide +kernel))) (by decide +kernel)
theorem wi_X3_total : Cond.instanceMethod yX3_total ∈ lw_g := lw_g_of (List.mem_append_right _ (List.mem_of_getElem? (i := 490) (by decide +kernel))) (by decide +kernel)
abbrev M_X3_undo : sv_M := (yX3_undo, cX3_undo, 1, (some .int))
theorem wc_X3_undo : Cond.code yX3_undo cX3_undo 1 (some .int) ∈ lw_g := lw_g_of (List.mem_append_right _ (List.mem_of_getElem? (i := 407) (by decide +kernel))) (by decide +kernel)
theorem wi_X3_undo : Cond.instanceMethod yX3_undo ∈ lw_g := lw_g_of (List.mem_append_right _ (List.mem_of_getElem? (i := 405) (by decide +kernel))) (by decide +kernel)
abbrev M_X3_undoTo : sv_M := (yX3_undoTo, cX3_undoTo, 3, (some .int))
theorem wc_X3_undoTo : Cond.code yX3_undoTo cX3_undoTo 3 (some .int) ∈ lw_g := lw_g_of (List.mem_append_right _ (List.mem_of_getElem? (i := 219) (by decide +kernel))) (by decide +kernel)
theorem wi_X3_undoTo : Cond.instanceMethod yX3_undoTo ∈ lw_g := lw_g_of (List.mem_append_right _ (List.mem_of_getElem? (i := 217) (by decide +kernel))) (by decide +kernel)
abbrev M_X3_value : sv_M := (yX3_value, cX3_value, 2, (some .int))
theorem wc_X3_value : Cond.code yX3_value cX3_value 2 (some .int) ∈ lw_g := lw_g_of (List.mem_append_right _ (List.mem_of_getElem? (i := 423) (by decide +kernel))) (by decide +kernel)
theorem wi_X3_value : Cond.instanceMethod yX3_value ∈ lw_g := lw_g_of (List.mem_append_right _ (List.mem_of_getElem? (i := 421) (by decide +kernel))) (by decide +kernel)
abbrev M_X3_write : sv_M := (yX3_write, cX3_write, 4, (some .int))
theorem wc_X3_write : Cond.code yX3_write cX3_write 4 (some .int) ∈ lw_g := lw_g_of (List.mem_append_right _ (List.mem_of_getElem? (i := 289) (by decide +kernel))) (by decide +kernel)
theorem wi_X3_write : Cond.instanceMethod yX3_write ∈ lw_g := lw_g_of (List.mem_append_right _ (List.mem_of_getElem? (i := 287) (by decide +kernel))) (by decide +kernel)
abbrev M_X4_add : sv_M := (yX4_add, cX4_add, 7, (some .int))
theorem wc_X4_add : Cond.code yX4_add cX4_add 7 (some .int) ∈ lw_g := lw_g_of (List.mem_append_right _ (List.mem_of_getElem? (i := 744) (by decide +kernel))) (by decide +kernel)
theorem wi_X4_add : Cond.instanceMethod yX4_add ∈ lw_g := lw_g_of (List.mem_append_right _ (List.mem_of_getElem? (i := 743) (by decide +kernel))) (by decide +kernel)
abbrev M_X4_append : sv_M := (yX4_append, cX4_append, 2, (some .int))
theorem wc_X4_append : Cond.code yX4_append cX4_append 2 (some .int) ∈ lw_g := lw_g_of (List.mem_append_right _ (List.mem_of_getElem? (i := 755) (by decide +kernel))) (by decide +kernel)
theorem wi_X4_append : Cond.instanceMethod yX4_append ∈ lw_g := lw_g_of (List.mem_append_right _ (List.mem_of_getElem? (i := 753) (by decide +kernel))) (by decide +kernel)
abbrev M_X4_at : sv_M := (yX4_at, cX4_at, 2, (some .int))
theorem wc_X4_at : Cond.code yX4_at cX4_at 2 (some .int) ∈ lw_g := lw_g_of (List.mem_append_right _ (List.mem_of_getElem? (i := 602) (by decide +kernel))) (by decide +kernel)
theorem ws_X4_at : Cond.static yX4_at ∈ lw_g := lw_g_of (List.mem_append_right _ (List.mem_of_getElem? (i := 601) (by decide +kernel))) (by decide +kernel)
abbrev M_X4_before : sv_M := (yX4_before, cX4_before, 5, (some .int))
theorem wc_X4_before : Cond.code yX4_before cX4_before 5 (some .int) ∈ lw_g := lw_g_of (List.mem_append_right _ (List.mem_of_getElem? (i := 599) (by decide +kernel))) (by decide +kernel)
theorem wi_X4_before : Cond.instanceMethod yX4_before ∈ lw_g := lw_g_of (List.mem_append_right _ (List.mem_of_getElem? (i := 598) (by decide +kernel))) (by decide +kernel)
abbrev M_X4_begin : sv_M := (yX4_begin, cX4_begin, 3, (some .int))
theorem wc_X4_begin : Cond.code yX4_begin cX4_begin 3 (some .int) ∈ lw_g := lw_g_of (List.mem_append_right _ (List.mem_of_getElem? (i := 561) (by decide +kernel))) (by decide +kernel)
theorem wi_X4_begin : Cond.instanceMethod yX4_begin ∈ lw_g := lw_g_of (List.mem_append_right _ (List.mem_of_getElem? (i := 559) (by decide +kernel))) (by decide +kernel)
abbrev M_X4_beginError : sv_M := (yX4_beginError, cX4_beginError, 2, (some .int))
theorem wc_X4_beginError : Cond.code yX4_beginError cX4_beginError 2 (some .int) ∈ lw_g := lw_g_of (List.mem_append_right _ (List.mem_of_getElem? (i := 565) (by decide +kernel))) (by decide +kernel)
theorem wi_X4_beginError : Cond.instanceMethod yX4_beginError ∈ lw_g := lw_g_of (List.mem_append_right _ (List.mem_of_getElem? (i := 564) (by decide +kernel))) (by decide +kernel)
abbrev M_X4_beginStatement : sv_M := (yX4_beginStatement, cX4_beginStatement, 1, none)
theorem wc_X4_beginStatement : Cond.code yX4_beginStatement cX4_beginStatement 1 none ∈ lw_g := lw_g_of (List.mem_append_right _ (List.mem_of_getElem? (i := 696) (by decide +kernel))) (by decide +kernel)
theorem wi_X4_beginStatement : Cond.instanceMethod yX4_beginStatement ∈ lw_g := lw_g_of (List.mem_append_right _ (List.mem_of_getElem? (i := 695) (by decide +kernel))) (by decide +kernel)
abbrev M_X4_bits : sv_M := (yX4_bits, cX4_bits, 3, (some .int))
theorem wc_X4_bits : Cond.code yX4_bits cX4_bits 3 (some .int) ∈ lw_g := lw_g_of (List.mem_append_right _ (List.mem_of_getElem? (i := 747) (by decide +kernel))) (by decide +kernel)
theorem ws_X4_bits : Cond.static yX4_bits ∈ lw_g := lw_g_of (List.mem_append_right _ (List.mem_of_getElem? (i := 746) (by decide +kernel))) (by decide +kernel)
abbrev M_X4_busyFor : sv_M := (yX4_busyFor, cX4_busyFor, 5, (some .int))
theorem wc_X4_busyFor : Cond.code yX4_busyFor cX4_busyFor 5 (some .int) ∈ lw_g := lw_g_of (List.mem_append_right _ (List.mem_of_getElem? (i := 839) (by decide +kernel))) (by decide +kernel)
theorem wi_X4_busyFor : Cond.instanceMethod yX4_busyFor ∈ lw_g := lw_g_of (List.mem_append_right _ (List.mem_of_getElem? (i := 837) (by decide +kernel))) (by decide +kernel)
abbrev M_X4_carryOut : sv_M := (yX4_carryOut, cX4_carryOut, 1, (some .int))
theorem wc_X4_carryOut : Cond.code yX4_carryOut cX4_carryOut 1 (some .int) ∈ lw_g := lw_g_of (List.mem_append_right _ (List.mem_of_getElem? (i := 799) (by decide +kernel))) (by decide +kernel)
theorem wi_X4_carryOut : Cond.instanceMethod yX4_carryOut ∈ lw_g := lw_g_of (List.mem_append_right _ (List.mem_of_getElem? (i := 798) (by decide +kernel))) (by decide +kernel)
abbrev M_X4_change : sv_M := (yX4_change, cX4_change, 3, none)
theorem wc_X4_change : Cond.code yX4_change cX4_change 3 none ∈ lw_g := lw_g_of (List.mem_append_right _ (List.mem_of_getElem? (i := 731) (by decide +kernel))) (by decide +kernel)
theorem wi_X4_change : Cond.instanceMethod yX4_change ∈ lw_g := lw_g_of (List.mem_append_right _ (List.mem_of_getElem? (i := 730) (by decide +kernel))) (by decide +kernel)
abbrev M_X4_changedSince : sv_M := (yX4_changedSince, cX4_changedSince, 4, (some .int))
theorem wc_X4_changedSince : Cond.code yX4_changedSince cX4_changedSince 4 (some .int) ∈ lw_g := lw_g_of (List.mem_append_right _ (List.mem_of_getElem? (i := 863) (by decide +kernel))) (by decide +kernel)
theorem wi_X4_changedSince : Cond.instanceMethod yX4_changedSince ∈ lw_g := lw_g_of (List.mem_append_right _ (List.mem_of_getElem? (i := 861) (by decide +kernel))) (by decide +kernel)
abbrev M_X4_clearText : sv_M := (yX4_clearText, cX4_clearText, 2, (some .int))
theorem wc_X4_clearText : Cond.code yX4_clearText cX4_clearText 2 (some .int) ∈ lw_g := lw_g_of (List.mem_append_right _ (List.mem_of_getElem? (i := 759) (by decide +kernel))) (by decide +kernel)
theorem wi_X4_clearText : Cond.instanceMethod yX4_clearText ∈ lw_g := lw_g_of (List.mem_append_right _ (List.mem_of_getElem? (i := 757) (by decide +kernel))) (by decide +kernel)
abbrev M_X4_close : sv_M := (yX4_close, cX4_close, 3, none)
theorem wc_X4_close : Cond.code yX4_close cX4_close 3 none ∈ lw_g := lw_g_of (List.mem_append_right _ (List.mem_of_getElem? (i := 609) (by decide +kernel))) (by decide +kernel)
theorem wi_X4_close : Cond.instanceMethod yX4_close ∈ lw_g := lw_g_of (List.mem_append_right _ (List.mem_of_getElem? (i := 608) (by decide +kernel))) (by decide +kernel)
abbrev M_X4_commit : sv_M := (yX4_commit, cX4_commit, 3, (some .int))
theorem wc_X4_commit : Cond.code yX4_commit cX4_commit 3 (some .int) ∈ lw_g := lw_g_of (List.mem_append_right _ (List.mem_of_getElem? (i := 583) (by decide +kernel))) (by decide +kernel)
theorem wi_X4_commit : Cond.instanceMethod yX4_commit ∈ lw_g := lw_g_of (List.mem_append_right _ (List.mem_of_getElem? (i := 581) (by decide +kernel))) (by decide +kernel)
abbrev M_X4_committed : sv_M := (yX4_committed, cX4_committed, 4, (some .int))
theorem wc_X4_committed : Cond.code yX4_committed cX4_committed 4 (some .int) ∈ lw_g := lw_g_of (List.mem_append_right _ (List.mem_of_getElem? (i := 827) (by decide +kernel))) (by decide +kernel)
theorem wi_X4_committed : Cond.instanceMethod yX4_committed ∈ lw_g := lw_g_of (List.mem_append_right _ (List.mem_of_getElem? (i := 825) (by decide +kernel))) (by decide +kernel)
abbrev M_X4_doBegin : sv_M := (yX4_doBegin, cX4_doBegin, 2, (some .int))
theorem wc_X4_doBegin : Cond.code yX4_doBegin cX4_doBegin 2 (some .int) ∈ lw_g := lw_g_of (List.mem_append_right _ (List.mem_of_getElem? (i := 579) (by decide +kernel))) (by decide +kernel)
theorem wi_X4_doBegin : Cond.instanceMethod yX4_doBegin ∈ lw_g := lw_g_of (List.mem_append_right _ (List.mem_of_getElem? (i := 578) (by decide +kernel))) (by decide +kernel)
abbrev M_X4_doCommit : sv_M := (yX4_doCommit, cX4_doCommit, 3, (some .int))
theorem wc_X4_doCommit : Cond.code yX4_doCommit cX4_doCommit 3 (some .int) ∈ lw_g := lw_g_of (List.mem_append_right _ (List.mem_of_getElem? (i := 591) (by decide +kernel))) (by decide +kernel)
theorem wi_X4_doCommit : Cond.instanceMethod yX4_doCommit ∈ lw_g := lw_g_of (List.mem_append_right _ (List.mem_of_getElem? (i := 590) (by decide +kernel))) (by decide +kernel)
abbrev M_X4_doRead : sv_M := (yX4_doRead, cX4_doRead, 3, (some .int))
theorem wc_X4_doRead : Cond.code yX4_doRead cX4_doRead 3 (some .int) ∈ lw_g := lw_g_of (List.mem_append_right _ (List.mem_of_getElem? (i := 692) (by decide +kernel))) (by decide +kernel)
theorem wi_X4_doRead : Cond.instanceMethod yX4_doRead ∈ lw_g := lw_g_of (List.mem_append_right _ (List.mem_of_getElem? (i := 691) (by decide +kernel))) (by decide +kernel)
abbrev M_X4_doRelease : sv_M := (yX4_doRelease, cX4_doRelease, 6, (some .int))
theorem wc_X4_doRelease : Cond.code yX4_doRelease cX4_doRelease 6 (some .int) ∈ lw_g := lw_g_of (List.mem_append_right _ (List.mem_of_getElem? (i := 677) (by decide +kernel))) (by decide +kernel)
theorem wi_X4_doRelease : Cond.instanceMethod yX4_doRelease ∈ lw_g := lw_g_of (List.mem_append_right _ (List.mem_of_getElem? (i := 676) (by decide +kernel))) (by decide +kernel)
abbrev M_X4_doRollback : sv_M := (yX4_doRollback, cX4_doRollback, 3, (some .int))
theorem wc_X4_doRollback : Cond.code yX4_doRollback cX4_doRollback 3 (some .int) ∈ lw_g := lw_g_of (List.mem_append_right _ (List.mem_of_getElem? (i := 620) (by decide +kernel))) (by decide +kernel)
theorem wi_X4_doRollback : Cond.instanceMethod yX4_doRollback ∈ lw_g := lw_g_of (List.mem_append_right _ (List.mem_of_getElem? (i := 619) (by decide +kernel))) (by decide +kernel)
abbrev M_X4_doSavepoint : sv_M := (yX4_doSavepoint, cX4_doSavepoint, 4, (some .int))
theorem wc_X4_doSavepoint : Cond.code yX4_doSavepoint cX4_doSavepoint 4 (some .int) ∈ lw_g := lw_g_of (List.mem_append_right _ (List.mem_of_getElem? (i := 653) (by decide +kernel))) (by decide +kernel)
theorem wi_X4_doSavepoint : Cond.instanceMethod yX4_doSavepoint ∈ lw_g := lw_g_of (List.mem_append_right _ (List.mem_of_getElem? (i := 652) (by decide +kernel))) (by decide +kernel)
abbrev M_X4_doUndoTo : sv_M := (yX4_doUndoTo, cX4_doUndoTo, 5, (some .int))
theorem wc_X4_doUndoTo : Cond.code yX4_doUndoTo cX4_doUndoTo 5 (some .int) ∈ lw_g := lw_g_of (List.mem_append_right _ (List.mem_of_getElem? (i := 669) (by decide +kernel))) (by decide +kernel)
theorem wi_X4_doUndoTo : Cond.instanceMethod yX4_doUndoTo ∈ lw_g := lw_g_of (List.mem_append_right _ (List.mem_of_getElem? (i := 668) (by decide +kernel))) (by decide +kernel)
abbrev M_X4_doWrite : sv_M := (yX4_doWrite, cX4_doWrite, 5, (some .int))
theorem wc_X4_doWrite : Cond.code yX4_doWrite cX4_doWrite 5 (some .int) ∈ lw_g := lw_g_of (List.mem_append_right _ (List.mem_of_getElem? (i := 727) (by decide +kernel))) (by decide +kernel)
theorem wi_X4_doWrite : Cond.instanceMethod yX4_doWrite ∈ lw_g := lw_g_of (List.mem_append_right _ (List.mem_of_getElem? (i := 726) (by decide +kernel))) (by decide +kernel)
abbrev M_X4_endBadly : sv_M := (yX4_endBadly, cX4_endBadly, 4, (some .int))
theorem wc_X4_endBadly : Cond.code yX4_endBadly cX4_endBadly 4 (some .int) ∈ lw_g := lw_g_of (List.mem_append_right _ (List.mem_of_getElem? (i := 715) (by decide +kernel))) (by decide +kernel)
theorem wi_X4_endBadly : Cond.instanceMethod yX4_endBadly ∈ lw_g := lw_g_of (List.mem_append_right _ (List.mem_of_getElem? (i := 714) (by decide +kernel))) (by decide +kernel)
abbrev M_X4_endWell : sv_M := (yX4_endWell, cX4_endWell, 3, (some .int))
theorem wc_X4_endWell : Cond.code yX4_endWell cX4_endWell 3 (some .int) ∈ lw_g := lw_g_of (List.mem_append_right _ (List.mem_of_getElem? (i := 711) (by decide +kernel))) (by decide +kernel)
theorem wi_X4_endWell : Cond.instanceMethod yX4_endWell ∈ lw_g := lw_g_of (List.mem_append_right _ (List.mem_of_getElem? (i := 710) (by decide +kernel))) (by decide +kernel)
abbrev M_X4_erase : sv_M := (yX4_erase, cX4_erase, 4, (some .int))
theorem wc_X4_erase : Cond.code yX4_erase cX4_erase 4 (some .int) ∈ lw_g := lw_g_of (List.mem_append_right _ (List.mem_of_getElem? (i := 735) (by decide +kernel))) (by decide +kernel)
theorem wi_X4_erase : Cond.instanceMethod yX4_erase ∈ lw_g := lw_g_of (List.mem_append_right _ (List.mem_of_getElem? (i := 733) (by decide +kernel))) (by decide +kernel)
abbrev M_X4_errorOfOrder : sv_M := (yX4_errorOfOrder, cX4_errorOfOrder, 1, (some .int))
theorem wc_X4_errorOfOrder : Cond.code yX4_errorOfOrder cX4_errorOfOrder 1 (some .int) ∈ lw_g := lw_g_of (List.mem_append_right _ (List.mem_of_getElem? (i := 795) (by decide +kernel))) (by decide +kernel)
theorem wi_X4_errorOfOrder : Cond.instanceMethod yX4_errorOfOrder ∈ lw_g := lw_g_of (List.mem_append_right _ (List.mem_of_getElem? (i := 794) (by decide +kernel))) (by decide +kernel)
abbrev M_X4_fault : sv_M := (yX4_fault, cX4_fault, 1, (some .int))
theorem wc_X4_fault : Cond.code yX4_fault cX4_fault 1 (some .int) ∈ lw_g := lw_g_of (List.mem_append_right _ (List.mem_of_getElem? (i := 763) (by decide +kernel))) (by decide +kernel)
theorem wi_X4_fault : Cond.instanceMethod yX4_fault ∈ lw_g := lw_g_of (List.mem_append_right _ (List.mem_of_getElem? (i := 761) (by decide +kernel))) (by decide +kernel)
abbrev M_X4_forget : sv_M := (yX4_forget, cX4_forget, 2, none)
theorem wc_X4_forget : Cond.code yX4_forget cX4_forget 2 none ∈ lw_g := lw_g_of (List.mem_append_right _ (List.mem_of_getElem? (i := 612) (by decide +kernel))) (by decide +kernel)
theorem ws_X4_forget : Cond.static yX4_forget ∈ lw_g := lw_g_of (List.mem_append_right _ (List.mem_of_getElem? (i := 611) (by decide +kernel))) (by decide +kernel)
abbrev M_X4_goBack : sv_M := (yX4_goBack, cX4_goBack, 4, none)
theorem wc_X4_goBack : Cond.code yX4_goBack cX4_goBack 4 none ∈ lw_g := lw_g_of (List.mem_append_right _ (List.mem_of_getElem? (i := 624) (by decide +kernel))) (by decide +kernel)
theorem wi_X4_goBack : Cond.instanceMethod yX4_goBack ∈ lw_g := lw_g_of (List.mem_append_right _ (List.mem_of_getElem? (i := 623) (by decide +kernel))) (by decide +kernel)
abbrev M_X4_has : sv_M := (yX4_has, cX4_has, 2, (some .boolean))
theorem wc_X4_has : Cond.code yX4_has cX4_has 2 (some .boolean) ∈ lw_g := lw_g_of (List.mem_append_right _ (List.mem_of_getElem? (i := 605) (by decide +kernel))) (by decide +kernel)
theorem ws_X4_has : Cond.static yX4_has ∈ lw_g := lw_g_of (List.mem_append_right _ (List.mem_of_getElem? (i := 604) (by decide +kernel))) (by decide +kernel)
abbrev M_X4_ifUndone : sv_M := (yX4_ifUndone, cX4_ifUndone, 5, (some .int))
theorem wc_X4_ifUndone : Cond.code yX4_ifUndone cX4_ifUndone 5 (some .int) ∈ lw_g := lw_g_of (List.mem_append_right _ (List.mem_of_getElem? (i := 867) (by decide +kernel))) (by decide +kernel)
theorem wi_X4_ifUndone : Cond.instanceMethod yX4_ifUndone ∈ lw_g := lw_g_of (List.mem_append_right _ (List.mem_of_getElem? (i := 865) (by decide +kernel))) (by decide +kernel)
abbrev M_X4_in : sv_M := (yX4_in, cX4_in, 3, (some .boolean))
theorem wc_X4_in : Cond.code yX4_in cX4_in 3 (some .boolean) ∈ lw_g := lw_g_of (List.mem_append_right _ (List.mem_of_getElem? (i := 571) (by decide +kernel))) (by decide +kernel)
theorem ws_X4_in : Cond.static yX4_in ∈ lw_g := lw_g_of (List.mem_append_right _ (List.mem_of_getElem? (i := 570) (by decide +kernel))) (by decide +kernel)
abbrev M_X4_init : sv_M := (yX4_init, cX4_init, 2, none)
theorem wc_X4_init : Cond.code yX4_init cX4_init 2 none ∈ lw_g := lw_g_of (List.mem_append_right _ (List.mem_of_getElem? (i := 505) (by decide +kernel))) (by decide +kernel)
theorem wi_X4_init : Cond.instanceMethod yX4_init ∈ lw_g := lw_g_of (List.mem_append_right _ (List.mem_of_getElem? (i := 504) (by decide +kernel))) (by decide +kernel)
abbrev M_X4_isBusy : sv_M := (yX4_isBusy, cX4_isBusy, 6, (some .boolean))
theorem wc_X4_isBusy : Cond.code yX4_isBusy cX4_isBusy 6 (some .boolean) ∈ lw_g := lw_g_of (List.mem_append_right _ (List.mem_of_getElem? (i := 704) (by decide +kernel))) (by decide +kernel)
theorem wi_X4_isBusy : Cond.instanceMethod yX4_isBusy ∈ lw_g := lw_g_of (List.mem_append_right _ (List.mem_of_getElem? (i := 703) (by decide +kernel))) (by decide +kernel)
abbrev M_X4_isKey : sv_M := (yX4_isKey, cX4_isKey, 1, (some .boolean))
theorem wc_X4_isKey : Cond.code yX4_isKey cX4_isKey 1 (some .boolean) ∈ lw_g := lw_g_of (List.mem_append_right _ (List.mem_of_getElem? (i := 688) (by decide +kernel))) (by decide +kernel)
theorem ws_X4_isKey : Cond.static yX4_isKey ∈ lw_g := lw_g_of (List.mem_append_right _ (List.mem_of_getElem? (i := 687) (by decide +kernel))) (by decide +kernel)
abbrev M_X4_isName : sv_M := (yX4_isName, cX4_isName, 1, (some .boolean))
theorem wc_X4_isName : Cond.code yX4_isName cX4_isName 1 (some .boolean) ∈ lw_g := lw_g_of (List.mem_append_right _ (List.mem_of_getElem? (i := 649) (by decide +kernel))) (by decide +kernel)
theorem ws_X4_isName : Cond.static yX4_isName ∈ lw_g := lw_g_of (List.mem_append_right _ (List.mem_of_getElem? (i := 648) (by decide +kernel))) (by decide +kernel)
abbrev M_X4_isNext : sv_M := (yX4_isNext, cX4_isNext, 3, (some .boolean))
theorem wc_X4_isNext : Cond.code yX4_isNext cX4_isNext 3 (some .boolean) ∈ lw_g := lw_g_of (List.mem_append_right _ (List.mem_of_getElem? (i := 775) (by decide +kernel))) (by decide +kernel)
theorem wi_X4_isNext : Cond.instanceMethod yX4_isNext ∈ lw_g := lw_g_of (List.mem_append_right _ (List.mem_of_getElem? (i := 774) (by decide +kernel))) (by decide +kernel)
abbrev M_X4_isOpen : sv_M := (yX4_isOpen, cX4_isOpen, 2, (some .boolean))
theorem wc_X4_isOpen : Cond.code yX4_isOpen cX4_isOpen 2 (some .boolean) ∈ lw_g := lw_g_of (List.mem_append_right _ (List.mem_of_getElem? (i := 575) (by decide +kernel))) (by decide +kernel)
theorem wi_X4_isOpen : Cond.instanceMethod yX4_isOpen ∈ lw_g := lw_g_of (List.mem_append_right _ (List.mem_of_getElem? (i := 574) (by decide +kernel))) (by decide +kernel)
abbrev M_X4_isSavepoint : sv_M := (yX4_isSavepoint, cX4_isSavepoint, 3, (some .boolean))
theorem wc_X4_isSavepoint : Cond.code yX4_isSavepoint cX4_isSavepoint 3 (some .boolean) ∈ lw_g := lw_g_of (List.mem_append_right _ (List.mem_of_getElem? (i := 855) (by decide +kernel))) (by decide +kernel)
theorem wi_X4_isSavepoint : Cond.instanceMethod yX4_isSavepoint ∈ lw_g := lw_g_of (List.mem_append_right _ (List.mem_of_getElem? (i := 854) (by decide +kernel))) (by decide +kernel)
abbrev M_X4_isSession : sv_M := (yX4_isSession, cX4_isSession, 1, (some .boolean))
theorem wc_X4_isSession : Cond.code yX4_isSession cX4_isSession 1 (some .boolean) ∈ lw_g := lw_g_of (List.mem_append_right _ (List.mem_of_getElem? (i := 568) (by decide +kernel))) (by decide +kernel)
theorem ws_X4_isSession : Cond.static yX4_isSession ∈ lw_g := lw_g_of (List.mem_append_right _ (List.mem_of_getElem? (i := 567) (by decide +kernel))) (by decide +kernel)
abbrev M_X4_join : sv_M := (yX4_join, cX4_join, 5, none)
theorem wc_X4_join : Cond.code yX4_join cX4_join 5 none ∈ lw_g := lw_g_of (List.mem_append_right _ (List.mem_of_getElem? (i := 638) (by decide +kernel))) (by decide +kernel)
theorem ws_X4_join : Cond.static yX4_join ∈ lw_g := lw_g_of (List.mem_append_right _ (List.mem_of_getElem? (i := 637) (by decide +kernel))) (by decide +kernel)
abbrev M_X4_keep : sv_M := (yX4_keep, cX4_keep, 3, (some .int))
theorem wc_X4_keep : Cond.code yX4_keep cX4_keep 3 (some .int) ∈ lw_g := lw_g_of (List.mem_append_right _ (List.mem_of_getElem? (i := 553) (by decide +kernel))) (by decide +kernel)
theorem wi_X4_keep : Cond.instanceMethod yX4_keep ∈ lw_g := lw_g_of (List.mem_append_right _ (List.mem_of_getElem? (i := 551) (by decide +kernel))) (by decide +kernel)
abbrev M_X4_keyError : sv_M := (yX4_keyError, cX4_keyError, 3, (some .int))
theorem wc_X4_keyError : Cond.code yX4_keyError cX4_keyError 3 (some .int) ∈ lw_g := lw_g_of (List.mem_append_right _ (List.mem_of_getElem? (i := 685) (by decide +kernel))) (by decide +kernel)
theorem wi_X4_keyError : Cond.instanceMethod yX4_keyError ∈ lw_g := lw_g_of (List.mem_append_right _ (List.mem_of_getElem? (i := 684) (by decide +kernel))) (by decide +kernel)
abbrev M_X4_keysWith : sv_M := (yX4_keysWith, cX4_keysWith, 5, (some .int))
theorem wc_X4_keysWith : Cond.code yX4_keysWith cX4_keysWith 5 (some .int) ∈ lw_g := lw_g_of (List.mem_append_right _ (List.mem_of_getElem? (i := 847) (by decide +kernel))) (by decide +kernel)
theorem wi_X4_keysWith : Cond.instanceMethod yX4_keysWith ∈ lw_g := lw_g_of (List.mem_append_right _ (List.mem_of_getElem? (i := 846) (by decide +kernel))) (by decide +kernel)
abbrev M_X4_mean : sv_M := (yX4_mean, cX4_mean, 3, (some .double))
theorem wc_X4_mean : Cond.code yX4_mean cX4_mean 3 (some .double) ∈ lw_g := lw_g_of (List.mem_append_right _ (List.mem_of_getElem? (i := 875) (by decide +kernel))) (by decide +kernel)
theorem wi_X4_mean : Cond.instanceMethod yX4_mean ∈ lw_g := lw_g_of (List.mem_append_right _ (List.mem_of_getElem? (i := 873) (by decide +kernel))) (by decide +kernel)
abbrev M_X4_mode : sv_M := (yX4_mode, cX4_mode, 3, (some .int))
theorem wc_X4_mode : Cond.code yX4_mode cX4_mode 3 (some .int) ∈ lw_g := lw_g_of (List.mem_append_right _ (List.mem_of_getElem? (i := 835) (by decide +kernel))) (by decide +kernel)
theorem wi_X4_mode : Cond.instanceMethod yX4_mode ∈ lw_g := lw_g_of (List.mem_append_right _ (List.mem_of_getElem? (i := 833) (by decide +kernel))) (by decide +kernel)
abbrev M_X4_modeBefore : sv_M := (yX4_modeBefore, cX4_modeBefore, 5, (some .int))
theorem wc_X4_modeBefore : Cond.code yX4_modeBefore cX4_modeBefore 5 (some .int) ∈ lw_g := lw_g_of (List.mem_append_right _ (List.mem_of_getElem? (i := 628) (by decide +kernel))) (by decide +kernel)
theorem wi_X4_modeBefore : Cond.instanceMethod yX4_modeBefore ∈ lw_g := lw_g_of (List.mem_append_right _ (List.mem_of_getElem? (i := 627) (by decide +kernel))) (by decide +kernel)
abbrev M_X4_modeOf : sv_M := (yX4_modeOf, cX4_modeOf, 3, (some .int))
theorem wc_X4_modeOf : Cond.code yX4_modeOf cX4_modeOf 3 (some .int) ∈ lw_g := lw_g_of (List.mem_append_right _ (List.mem_of_getElem? (i := 632) (by decide +kernel))) (by decide +kernel)
theorem wi_X4_modeOf : Cond.instanceMethod yX4_modeOf ∈ lw_g := lw_g_of (List.mem_append_right _ (List.mem_of_getElem? (i := 631) (by decide +kernel))) (by decide +kernel)
abbrev M_X4_move : sv_M := (yX4_move, cX4_move, 6, (some .int))
theorem wc_X4_move : Cond.code yX4_move cX4_move 6 (some .int) ∈ lw_g := lw_g_of (List.mem_append_right _ (List.mem_of_getElem? (i := 751) (by decide +kernel))) (by decide +kernel)
theorem wi_X4_move : Cond.instanceMethod yX4_move ∈ lw_g := lw_g_of (List.mem_append_right _ (List.mem_of_getElem? (i := 749) (by decide +kernel))) (by decide +kernel)
abbrev M_X4_nameError : sv_M := (yX4_nameError, cX4_nameError, 3, (some .int))
theorem wc_X4_nameError : Cond.code yX4_nameError cX4_nameError 3 (some .int) ∈ lw_g := lw_g_of (List.mem_append_right _ (List.mem_of_getElem? (i := 661) (by decide +kernel))) (by decide +kernel)
theorem wi_X4_nameError : Cond.instanceMethod yX4_nameError ∈ lw_g := lw_g_of (List.mem_append_right _ (List.mem_of_getElem? (i := 660) (by decide +kernel))) (by decide +kernel)
abbrev M_X4_nameOf : sv_M := (yX4_nameOf, cX4_nameOf, 3, (some .int))
theorem wc_X4_nameOf : Cond.code yX4_nameOf cX4_nameOf 3 (some .int) ∈ lw_g := lw_g_of (List.mem_append_right _ (List.mem_of_getElem? (i := 851) (by decide +kernel))) (by decide +kernel)
theorem wi_X4_nameOf : Cond.instanceMethod yX4_nameOf ∈ lw_g := lw_g_of (List.mem_append_right _ (List.mem_of_getElem? (i := 849) (by decide +kernel))) (by decide +kernel)
abbrev M_X4_nearest : sv_M := (yX4_nearest, cX4_nearest, 3, (some .int))
theorem wc_X4_nearest : Cond.code yX4_nearest cX4_nearest 3 (some .int) ∈ lw_g := lw_g_of (List.mem_append_right _ (List.mem_of_getElem? (i := 859) (by decide +kernel))) (by decide +kernel)
theorem wi_X4_nearest : Cond.instanceMethod yX4_nearest ∈ lw_g := lw_g_of (List.mem_append_right _ (List.mem_of_getElem? (i := 857) (by decide +kernel))) (by decide +kernel)
abbrev M_X4_nearestOf : sv_M := (yX4_nearestOf, cX4_nearestOf, 4, (some .int))
theorem wc_X4_nearestOf : Cond.code yX4_nearestOf cX4_nearestOf 4 (some .int) ∈ lw_g := lw_g_of (List.mem_append_right _ (List.mem_of_getElem? (i := 665) (by decide +kernel))) (by decide +kernel)
theorem wi_X4_nearestOf : Cond.instanceMethod yX4_nearestOf ∈ lw_g := lw_g_of (List.mem_append_right _ (List.mem_of_getElem? (i := 664) (by decide +kernel))) (by decide +kernel)
abbrev M_X4_openError : sv_M := (yX4_openError, cX4_openError, 2, (some .int))
theorem wc_X4_openError : Cond.code yX4_openError cX4_openError 2 (some .int) ∈ lw_g := lw_g_of (List.mem_append_right _ (List.mem_of_getElem? (i := 587) (by decide +kernel))) (by decide +kernel)
theorem wi_X4_openError : Cond.instanceMethod yX4_openError ∈ lw_g := lw_g_of (List.mem_append_right _ (List.mem_of_getElem? (i := 586) (by decide +kernel))) (by decide +kernel)
abbrev M_X4_others : sv_M := (yX4_others, cX4_others, 5, (some .int))
theorem wc_X4_others : Cond.code yX4_others cX4_others 5 (some .int) ∈ lw_g := lw_g_of (List.mem_append_right _ (List.mem_of_getElem? (i := 595) (by decide +kernel))) (by decide +kernel)
theorem wi_X4_others : Cond.instanceMethod yX4_others ∈ lw_g := lw_g_of (List.mem_append_right _ (List.mem_of_getElem? (i := 594) (by decide +kernel))) (by decide +kernel)
abbrev M_X4_outside : sv_M := (yX4_outside, cX4_outside, 1, (some .int))
theorem wc_X4_outside : Cond.code yX4_outside cX4_outside 1 (some .int) ∈ lw_g := lw_g_of (List.mem_append_right _ (List.mem_of_getElem? (i := 707) (by decide +kernel))) (by decide +kernel)
theorem ws_X4_outside : Cond.static yX4_outside ∈ lw_g := lw_g_of (List.mem_append_right _ (List.mem_of_getElem? (i := 706) (by decide +kernel))) (by decide +kernel)
abbrev M_X4_passes : sv_M := (yX4_passes, cX4_passes, 3, (some .boolean))
theorem wc_X4_passes : Cond.code yX4_passes cX4_passes 3 (some .boolean) ∈ lw_g := lw_g_of (List.mem_append_right _ (List.mem_of_getElem? (i := 791) (by decide +kernel))) (by decide +kernel)
theorem wi_X4_passes : Cond.instanceMethod yX4_passes ∈ lw_g := lw_g_of (List.mem_append_right _ (List.mem_of_getElem? (i := 790) (by decide +kernel))) (by decide +kernel)
abbrev M_X4_perform : sv_M := (yX4_perform, cX4_perform, 1, (some .int))
theorem wc_X4_perform : Cond.code yX4_perform cX4_perform 1 (some .int) ∈ lw_g := lw_g_of (List.mem_append_right _ (List.mem_of_getElem? (i := 803) (by decide +kernel))) (by decide +kernel)
theorem wi_X4_perform : Cond.instanceMethod yX4_perform ∈ lw_g := lw_g_of (List.mem_append_right _ (List.mem_of_getElem? (i := 801) (by decide +kernel))) (by decide +kernel)
abbrev M_X4_read : sv_M := (yX4_read, cX4_read, 4, (some .int))
theorem wc_X4_read : Cond.code yX4_read cX4_read 4 (some .int) ∈ lw_g := lw_g_of (List.mem_append_right _ (List.mem_of_getElem? (i := 681) (by decide +kernel))) (by decide +kernel)
theorem wi_X4_read : Cond.instanceMethod yX4_read ∈ lw_g := lw_g_of (List.mem_append_right _ (List.mem_of_getElem? (i := 679) (by decide +kernel))) (by decide +kernel)
abbrev M_X4_readKey : sv_M := (yX4_readKey, cX4_readKey, 1, (some .boolean))
theorem wc_X4_readKey : Cond.code yX4_readKey cX4_readKey 1 (some .boolean) ∈ lw_g := lw_g_of (List.mem_append_right _ (List.mem_of_getElem? (i := 783) (by decide +kernel))) (by decide +kernel)
theorem wi_X4_readKey : Cond.instanceMethod yX4_readKey ∈ lw_g := lw_g_of (List.mem_append_right _ (List.mem_of_getElem? (i := 782) (by decide +kernel))) (by decide +kernel)
abbrev M_X4_readName : sv_M := (yX4_readName, cX4_readName, 1, (some .boolean))
theorem wc_X4_readName : Cond.code yX4_readName cX4_readName 1 (some .boolean) ∈ lw_g := lw_g_of (List.mem_append_right _ (List.mem_of_getElem? (i := 779) (by decide +kernel))) (by decide +kernel)
theorem wi_X4_readName : Cond.instanceMethod yX4_readName ∈ lw_g := lw_g_of (List.mem_append_right _ (List.mem_of_getElem? (i := 778) (by decide +kernel))) (by decide +kernel)
abbrev M_X4_readNumber : sv_M := (yX4_readNumber, cX4_readNumber, 3, (some .int))
theorem wc_X4_readNumber : Cond.code yX4_readNumber cX4_readNumber 3 (some .int) ∈ lw_g := lw_g_of (List.mem_append_right _ (List.mem_of_getElem? (i := 787) (by decide +kernel))) (by decide +kernel)
theorem wi_X4_readNumber : Cond.instanceMethod yX4_readNumber ∈ lw_g := lw_g_of (List.mem_append_right _ (List.mem_of_getElem? (i := 786) (by decide +kernel))) (by decide +kernel)
abbrev M_X4_readOrder : sv_M := (yX4_readOrder, cX4_readOrder, 1, (some .boolean))
theorem wc_X4_readOrder : Cond.code yX4_readOrder cX4_readOrder 1 (some .boolean) ∈ lw_g := lw_g_of (List.mem_append_right _ (List.mem_of_getElem? (i := 771) (by decide +kernel))) (by decide +kernel)
theorem wi_X4_readOrder : Cond.instanceMethod yX4_readOrder ∈ lw_g := lw_g_of (List.mem_append_right _ (List.mem_of_getElem? (i := 770) (by decide +kernel))) (by decide +kernel)
abbrev M_X4_readText : sv_M := (yX4_readText, cX4_readText, 3, (some .boolean))
theorem wc_X4_readText : Cond.code yX4_readText cX4_readText 3 (some .boolean) ∈ lw_g := lw_g_of (List.mem_append_right _ (List.mem_of_getElem? (i := 767) (by decide +kernel))) (by decide +kernel)
theorem wi_X4_readText : Cond.instanceMethod yX4_readText ∈ lw_g := lw_g_of (List.mem_append_right _ (List.mem_of_getElem? (i := 766) (by decide +kernel))) (by decide +kernel)
abbrev M_X4_record : sv_M := (yX4_record, cX4_record, 2, none)
theorem wc_X4_record : Cond.code yX4_record cX4_record 2 none ∈ lw_g := lw_g_of (List.mem_append_right _ (List.mem_of_getElem? (i := 557) (by decide +kernel))) (by decide +kernel)
theorem wi_X4_record : Cond.instanceMethod yX4_record ∈ lw_g := lw_g_of (List.mem_append_right _ (List.mem_of_getElem? (i := 556) (by decide +kernel))) (by decide +kernel)
abbrev M_X4_release : sv_M := (yX4_release, cX4_release, 4, (some .int))
theorem wc_X4_release : Cond.code yX4_release cX4_release 4 (some .int) ∈ lw_g := lw_g_of (List.mem_append_right _ (List.mem_of_getElem? (i := 673) (by decide +kernel))) (by decide +kernel)
theorem wi_X4_release : Cond.instanceMethod yX4_release ∈ lw_g := lw_g_of (List.mem_append_right _ (List.mem_of_getElem? (i := 671) (by decide +kernel))) (by decide +kernel)
abbrev M_X4_restore : sv_M := (yX4_restore, cX4_restore, 2, (some .int))
theorem wc_X4_restore : Cond.code yX4_restore cX4_restore 2 (some .int) ∈ lw_g := lw_g_of (List.mem_append_right _ (List.mem_of_getElem? (i := 819) (by decide +kernel))) (by decide +kernel)
theorem wi_X4_restore : Cond.instanceMethod yX4_restore ∈ lw_g := lw_g_of (List.mem_append_right _ (List.mem_of_getElem? (i := 817) (by decide +kernel))) (by decide +kernel)
abbrev M_X4_rollback : sv_M := (yX4_rollback, cX4_rollback, 3, (some .int))
theorem wc_X4_rollback : Cond.code yX4_rollback cX4_rollback 3 (some .int) ∈ lw_g := lw_g_of (List.mem_append_right _ (List.mem_of_getElem? (i := 616) (by decide +kernel))) (by decide +kernel)
theorem wi_X4_rollback : Cond.instanceMethod yX4_rollback ∈ lw_g := lw_g_of (List.mem_append_right _ (List.mem_of_getElem? (i := 614) (by decide +kernel))) (by decide +kernel)
abbrev M_X4_save : sv_M := (yX4_save, cX4_save, 2, (some .int))
theorem wc_X4_save : Cond.code yX4_save cX4_save 2 (some .int) ∈ lw_g := lw_g_of (List.mem_append_right _ (List.mem_of_getElem? (i := 811) (by decide +kernel))) (by decide +kernel)
theorem wi_X4_save : Cond.instanceMethod yX4_save ∈ lw_g := lw_g_of (List.mem_append_right _ (List.mem_of_getElem? (i := 809) (by decide +kernel))) (by decide +kernel)
abbrev M_X4_savepoint : sv_M := (yX4_savepoint, cX4_savepoint, 4, (some .int))
theorem wc_X4_savepoint : Cond.code yX4_savepoint cX4_savepoint 4 (some .int) ∈ lw_g := lw_g_of (List.mem_append_right _ (List.mem_of_getElem? (i := 642) (by decide +kernel))) (by decide +kernel)
theorem wi_X4_savepoint : Cond.instanceMethod yX4_savepoint ∈ lw_g := lw_g_of (List.mem_append_right _ (List.mem_of_getElem? (i := 640) (by decide +kernel))) (by decide +kernel)
abbrev M_X4_savepointError : sv_M := (yX4_savepointError, cX4_savepointError, 3, (some .int))
theorem wc_X4_savepointError : Cond.code yX4_savepointError cX4_savepointError 3 (some .int) ∈ lw_g := lw_g_of (List.mem_append_right _ (List.mem_of_getElem? (i := 646) (by decide +kernel))) (by decide +kernel)
theorem wi_X4_savepointError : Cond.instanceMethod yX4_savepointError ∈ lw_g := lw_g_of (List.mem_append_right _ (List.mem_of_getElem? (i := 645) (by decide +kernel))) (by decide +kernel)
abbrev M_X4_session : sv_M := (yX4_session, cX4_session, 3, (some .int))
theorem wc_X4_session : Cond.code yX4_session cX4_session 3 (some .int) ∈ lw_g := lw_g_of (List.mem_append_right _ (List.mem_of_getElem? (i := 843) (by decide +kernel))) (by decide +kernel)
theorem wi_X4_session : Cond.instanceMethod yX4_session ∈ lw_g := lw_g_of (List.mem_append_right _ (List.mem_of_getElem? (i := 841) (by decide +kernel))) (by decide +kernel)
abbrev M_X4_shift : sv_M := (yX4_shift, cX4_shift, 6, (some .int))
theorem wc_X4_shift : Cond.code yX4_shift cX4_shift 6 (some .int) ∈ lw_g := lw_g_of (List.mem_append_right _ (List.mem_of_getElem? (i := 739) (by decide +kernel))) (by decide +kernel)
theorem wi_X4_shift : Cond.instanceMethod yX4_shift ∈ lw_g := lw_g_of (List.mem_append_right _ (List.mem_of_getElem? (i := 737) (by decide +kernel))) (by decide +kernel)
abbrev M_X4_since : sv_M := (yX4_since, cX4_since, 6, (some .int))
theorem wc_X4_since : Cond.code yX4_since cX4_since 6 (some .int) ∈ lw_g := lw_g_of (List.mem_append_right _ (List.mem_of_getElem? (i := 831) (by decide +kernel))) (by decide +kernel)
theorem wi_X4_since : Cond.instanceMethod yX4_since ∈ lw_g := lw_g_of (List.mem_append_right _ (List.mem_of_getElem? (i := 830) (by decide +kernel))) (by decide +kernel)
abbrev M_X4_takes : sv_M := (yX4_takes, cX4_takes, 5, (some .boolean))
theorem wc_X4_takes : Cond.code yX4_takes cX4_takes 5 (some .boolean) ∈ lw_g := lw_g_of (List.mem_append_right _ (List.mem_of_getElem? (i := 700) (by decide +kernel))) (by decide +kernel)
theorem wi_X4_takes : Cond.instanceMethod yX4_takes ∈ lw_g := lw_g_of (List.mem_append_right _ (List.mem_of_getElem? (i := 699) (by decide +kernel))) (by decide +kernel)
abbrev M_X4_total : sv_M := (yX4_total, cX4_total, 2, (some .int))
theorem wc_X4_total : Cond.code yX4_total cX4_total 2 (some .int) ∈ lw_g := lw_g_of (List.mem_append_right _ (List.mem_of_getElem? (i := 871) (by decide +kernel))) (by decide +kernel)
theorem wi_X4_total : Cond.instanceMethod yX4_total ∈ lw_g := lw_g_of (List.mem_append_right _ (List.mem_of_getElem? (i := 869) (by decide +kernel))) (by decide +kernel)
abbrev M_X4_undo : sv_M := (yX4_undo, cX4_undo, 2, (some .int))
theorem wc_X4_undo : Cond.code yX4_undo cX4_undo 2 (some .int) ∈ lw_g := lw_g_of (List.mem_append_right _ (List.mem_of_getElem? (i := 807) (by decide +kernel))) (by decide +kernel)
theorem wi_X4_undo : Cond.instanceMethod yX4_undo ∈ lw_g := lw_g_of (List.mem_append_right _ (List.mem_of_getElem? (i := 805) (by decide +kernel))) (by decide +kernel)
abbrev M_X4_undoTo : sv_M := (yX4_undoTo, cX4_undoTo, 4, (some .int))
theorem wc_X4_undoTo : Cond.code yX4_undoTo cX4_undoTo 4 (some .int) ∈ lw_g := lw_g_of (List.mem_append_right _ (List.mem_of_getElem? (i := 657) (by decide +kernel))) (by decide +kernel)
theorem wi_X4_undoTo : Cond.instanceMethod yX4_undoTo ∈ lw_g := lw_g_of (List.mem_append_right _ (List.mem_of_getElem? (i := 655) (by decide +kernel))) (by decide +kernel)
abbrev M_X4_value : sv_M := (yX4_value, cX4_value, 2, (some .int))
theorem wc_X4_value : Cond.code yX4_value cX4_value 2 (some .int) ∈ lw_g := lw_g_of (List.mem_append_right _ (List.mem_of_getElem? (i := 823) (by decide +kernel))) (by decide +kernel)
theorem wi_X4_value : Cond.instanceMethod yX4_value ∈ lw_g := lw_g_of (List.mem_append_right _ (List.mem_of_getElem? (i := 821) (by decide +kernel))) (by decide +kernel)
abbrev M_X4_valued : sv_M := (yX4_valued, cX4_valued, 3, (some .int))
theorem wc_X4_valued : Cond.code yX4_valued cX4_valued 3 (some .int) ∈ lw_g := lw_g_of (List.mem_append_right _ (List.mem_of_getElem? (i := 815) (by decide +kernel))) (by decide +kernel)
theorem wi_X4_valued : Cond.instanceMethod yX4_valued ∈ lw_g := lw_g_of (List.mem_append_right _ (List.mem_of_getElem? (i := 814) (by decide +kernel))) (by decide +kernel)
abbrev M_X4_withMode : sv_M := (yX4_withMode, cX4_withMode, 3, (some .int))
theorem wc_X4_withMode : Cond.code yX4_withMode cX4_withMode 3 (some .int) ∈ lw_g := lw_g_of (List.mem_append_right _ (List.mem_of_getElem? (i := 635) (by decide +kernel))) (by decide +kernel)
theorem ws_X4_withMode : Cond.static yX4_withMode ∈ lw_g := lw_g_of (List.mem_append_right _ (List.mem_of_getElem? (i := 634) (by decide +kernel))) (by decide +kernel)
abbrev M_X4_write : sv_M := (yX4_write, cX4_write, 5, (some .int))
theorem wc_X4_write : Cond.code yX4_write cX4_write 5 (some .int) ∈ lw_g := lw_g_of (List.mem_append_right _ (List.mem_of_getElem? (i := 719) (by decide +kernel))) (by decide +kernel)
theorem wi_X4_write : Cond.instanceMethod yX4_write ∈ lw_g := lw_g_of (List.mem_append_right _ (List.mem_of_getElem? (i := 717) (by decide +kernel))) (by decide +kernel)
abbrev M_X4_writeError : sv_M := (yX4_writeError, cX4_writeError, 4, (some .int))
theorem wc_X4_writeError : Cond.code yX4_writeError cX4_writeError 4 (some .int) ∈ lw_g := lw_g_of (List.mem_append_right _ (List.mem_of_getElem? (i := 723) (by decide +kernel))) (by decide +kernel)
theorem wi_X4_writeError : Cond.instanceMethod yX4_writeError ∈ lw_g := lw_g_of (List.mem_append_right _ (List.mem_of_getElem? (i := 722) (by decide +kernel))) (by decide +kernel)
theorem wn_X0 : Cond.initialized RX0 ∈ lw_g := lw_g_of (List.mem_append_right _ (List.mem_of_getElem? (i := 4) (by decide +kernel))) (by decide +kernel)
theorem wn_X1 : Cond.initialized RX1 ∈ lw_g := lw_g_of (List.mem_append_right _ (List.mem_of_getElem? (i := 2) (by decide +kernel))) (by decide +kernel)
theorem wn_X2 : Cond.initialized RX2 ∈ lw_g := lw_g_of (List.mem_append_right _ (List.mem_of_getElem? (i := 3) (by decide +kernel))) (by decide +kernel)
theorem wn_X3 : Cond.initialized RX3 ∈ lw_g := lw_g_of (List.mem_append_right _ (List.mem_of_getElem? (i := 1) (by decide +kernel))) (by decide +kernel)
theorem wn_X4 : Cond.initialized RX4 ∈ lw_g := lw_g_of (List.mem_append_right _ (List.mem_of_getElem? (i := 5) (by decide +kernel))) (by decide +kernel)
theorem wn_J6 : Cond.initialized RJ6 ∈ lw_g := lw_g_of (List.mem_append_right _ (List.mem_of_getElem? (i := 8) (by decide +kernel))) (by decide +kernel)
theorem wn_J9 : Cond.initialized RJ9 ∈ lw_g := lw_g_of (List.mem_append_right _ (List.mem_of_getElem? (i := 7) (by decide +kernel))) (by decide +kernel)
theorem wn_J10 : Cond.initialized RJ10 ∈ lw_g := lw_g_of (List.mem_append_right _ (List.mem_of_getElem? (i := 6) (by decide +kernel))) (by decide +kernel)
theorem mw_J6_bitCount_0f7a4 : sv_MW M_J6_bitCount_0f7a4 := ⟨wc_J6_bitCount_0f7a4, wn_J6, Nat.le_of_ble_eq_true rfl, by decide +kernel, by decide +kernel⟩
theorem mw_J9_max_7cf53 : sv_MW M_J9_max_7cf53 := ⟨wc_J9_max_7cf53, wn_J9, Nat.le_of_ble_eq_true rfl, by decide +kernel, by decide +kernel⟩
theorem mw_J9_min_7cf53 : sv_MW M_J9_min_7cf53 := ⟨wc_J9_min_7cf53, wn_J9, Nat.le_of_ble_eq_true rfl, by decide +kernel, by decide +kernel⟩
theorem mw_X0_addCharacter : sv_MW M_X0_addCharacter := ⟨wc_X0_addCharacter, wn_X0, Nat.le_of_ble_eq_true rfl, by decide +kernel, by decide +kernel⟩
theorem wv_X0_addCharacter : Cond.selects yX0_addCharacter.cls yX0_addCharacter yX0_addCharacter ∈ lw_g := lw_g_of (List.mem_append_left _ (by decide +kernel)) (by decide +kernel)
theorem mw_X0_canEndOrder : sv_MW M_X0_canEndOrder := ⟨wc_X0_canEndOrder, wn_X0, Nat.le_of_ble_eq_true rfl, by decide +kernel, by decide +kernel⟩
theorem mw_X0_characterAt : sv_MW M_X0_characterAt := ⟨wc_X0_characterAt, wn_X0, Nat.le_of_ble_eq_true rfl, by decide +kernel, by decide +kernel⟩
theorem wv_X0_characterAt : Cond.selects yX0_characterAt.cls yX0_characterAt yX0_characterAt ∈ lw_g := lw_g_of (List.mem_append_left _ (by decide +kernel)) (by decide +kernel)
theorem mw_X0_endOfNumber : sv_MW M_X0_endOfNumber := ⟨wc_X0_endOfNumber, wn_X0, Nat.le_of_ble_eq_true rfl, by decide +kernel, by decide +kernel⟩
theorem wv_X0_endOfNumber : Cond.selects yX0_endOfNumber.cls yX0_endOfNumber yX0_endOfNumber ∈ lw_g := lw_g_of (List.mem_append_left _ (by decide +kernel)) (by decide +kernel)
theorem mw_X0_firstFault : sv_MW M_X0_firstFault := ⟨wc_X0_firstFault, wn_X0, Nat.le_of_ble_eq_true rfl, by decide +kernel, by decide +kernel⟩
theorem wv_X0_firstFault : Cond.selects yX0_firstFault.cls yX0_firstFault yX0_firstFault ∈ lw_g := lw_g_of (List.mem_append_left _ (by decide +kernel)) (by decide +kernel)
theorem mw_X0_init : sv_MW M_X0_init := ⟨wc_X0_init, wn_X0, Nat.le_of_ble_eq_true rfl, by decide +kernel, by decide +kernel⟩
theorem mw_X0_isBetween : sv_MW M_X0_isBetween := ⟨wc_X0_isBetween, wn_X0, Nat.le_of_ble_eq_true rfl, by decide +kernel, by decide +kernel⟩
theorem mw_X0_numberAt : sv_MW M_X0_numberAt := ⟨wc_X0_numberAt, wn_X0, Nat.le_of_ble_eq_true rfl, by decide +kernel, by decide +kernel⟩
theorem wv_X0_numberAt : Cond.selects yX0_numberAt.cls yX0_numberAt yX0_numberAt ∈ lw_g := lw_g_of (List.mem_append_left _ (by decide +kernel)) (by decide +kernel)
theorem mw_X0_placeAfter : sv_MW M_X0_placeAfter := ⟨wc_X0_placeAfter, wn_X0, Nat.le_of_ble_eq_true rfl, by decide +kernel, by decide +kernel⟩
theorem mw_X0_placeAfterKeyDigit : sv_MW M_X0_placeAfterKeyDigit := ⟨wc_X0_placeAfterKeyDigit, wn_X0, Nat.le_of_ble_eq_true rfl, by decide +kernel, by decide +kernel⟩
theorem mw_X0_placeAfterKind : sv_MW M_X0_placeAfterKind := ⟨wc_X0_placeAfterKind, wn_X0, Nat.le_of_ble_eq_true rfl, by decide +kernel, by decide +kernel⟩
theorem mw_X0_placeInValue : sv_MW M_X0_placeInValue := ⟨wc_X0_placeInValue, wn_X0, Nat.le_of_ble_eq_true rfl, by decide +kernel, by decide +kernel⟩
theorem mw_X0_startsOrder : sv_MW M_X0_startsOrder := ⟨wc_X0_startsOrder, wn_X0, Nat.le_of_ble_eq_true rfl, by decide +kernel, by decide +kernel⟩
theorem wv_X0_startsOrder : Cond.selects yX0_startsOrder.cls yX0_startsOrder yX0_startsOrder ∈ lw_g := lw_g_of (List.mem_append_left _ (by decide +kernel)) (by decide +kernel)
theorem mw_X1_addToValue : sv_MW M_X1_addToValue := ⟨wc_X1_addToValue, wn_X1, Nat.le_of_ble_eq_true rfl, by decide +kernel, by decide +kernel⟩
theorem wv_X1_addToValue : Cond.selects yX1_addToValue.cls yX1_addToValue yX1_addToValue ∈ lw_g := lw_g_of (List.mem_append_left _ (by decide +kernel)) (by decide +kernel)
theorem mw_X1_commitTransaction : sv_MW M_X1_commitTransaction := ⟨wc_X1_commitTransaction, wn_X1, Nat.le_of_ble_eq_true rfl, by decide +kernel, by decide +kernel⟩
theorem wv_X1_commitTransaction : Cond.selects yX1_commitTransaction.cls yX1_commitTransaction yX1_commitTransaction ∈ lw_g := lw_g_of (List.mem_append_left _ (by decide +kernel)) (by decide +kernel)
theorem mw_X1_committedValue : sv_MW M_X1_committedValue := ⟨wc_X1_committedValue, wn_X1, Nat.le_of_ble_eq_true rfl, by decide +kernel, by decide +kernel⟩
theorem wv_X1_committedValue : Cond.selects yX1_committedValue.cls yX1_committedValue yX1_committedValue ∈ lw_g := lw_g_of (List.mem_append_left _ (by decide +kernel)) (by decide +kernel)
theorem mw_X1_copyFrom : sv_MW M_X1_copyFrom := ⟨wc_X1_copyFrom, wn_X1, Nat.le_of_ble_eq_true rfl, by decide +kernel, by decide +kernel⟩
theorem wv_X1_copyFrom : Cond.selects yX1_copyFrom.cls yX1_copyFrom yX1_copyFrom ∈ lw_g := lw_g_of (List.mem_append_left _ (by decide +kernel)) (by decide +kernel)
theorem mw_X1_endStatement : sv_MW M_X1_endStatement := ⟨wc_X1_endStatement, wn_X1, Nat.le_of_ble_eq_true rfl, by decide +kernel, by decide +kernel⟩
theorem wv_X1_endStatement : Cond.selects yX1_endStatement.cls yX1_endStatement yX1_endStatement ∈ lw_g := lw_g_of (List.mem_append_left _ (by decide +kernel)) (by decide +kernel)
theorem mw_X1_eraseKey : sv_MW M_X1_eraseKey := ⟨wc_X1_eraseKey, wn_X1, Nat.le_of_ble_eq_true rfl, by decide +kernel, by decide +kernel⟩
theorem wv_X1_eraseKey : Cond.selects yX1_eraseKey.cls yX1_eraseKey yX1_eraseKey ∈ lw_g := lw_g_of (List.mem_append_left _ (by decide +kernel)) (by decide +kernel)
theorem mw_X1_hasSavepoint : sv_MW M_X1_hasSavepoint := ⟨wc_X1_hasSavepoint, wn_X1, Nat.le_of_ble_eq_true rfl, by decide +kernel, by decide +kernel⟩
theorem wv_X1_hasSavepoint : Cond.selects yX1_hasSavepoint.cls yX1_hasSavepoint yX1_hasSavepoint ∈ lw_g := lw_g_of (List.mem_append_left _ (by decide +kernel)) (by decide +kernel)
theorem mw_X1_init : sv_MW M_X1_init := ⟨wc_X1_init, wn_X1, Nat.le_of_ble_eq_true rfl, by decide +kernel, by decide +kernel⟩
theorem mw_X1_isBusy : sv_MW M_X1_isBusy := ⟨wc_X1_isBusy, wn_X1, Nat.le_of_ble_eq_true rfl, by decide +kernel, by decide +kernel⟩
theorem wv_X1_isBusy : Cond.selects yX1_isBusy.cls yX1_isBusy yX1_isBusy ∈ lw_g := lw_g_of (List.mem_append_left _ (by decide +kernel)) (by decide +kernel)
theorem mw_X1_moveAmount : sv_MW M_X1_moveAmount := ⟨wc_X1_moveAmount, wn_X1, Nat.le_of_ble_eq_true rfl, by decide +kernel, by decide +kernel⟩
theorem wv_X1_moveAmount : Cond.selects yX1_moveAmount.cls yX1_moveAmount yX1_moveAmount ∈ lw_g := lw_g_of (List.mem_append_left _ (by decide +kernel)) (by decide +kernel)
theorem mw_X1_openTransaction : sv_MW M_X1_openTransaction := ⟨wc_X1_openTransaction, wn_X1, Nat.le_of_ble_eq_true rfl, by decide +kernel, by decide +kernel⟩
theorem wv_X1_openTransaction : Cond.selects yX1_openTransaction.cls yX1_openTransaction yX1_openTransaction ∈ lw_g := lw_g_of (List.mem_append_left _ (by decide +kernel)) (by decide +kernel)
theorem mw_X1_readKey : sv_MW M_X1_readKey := ⟨wc_X1_readKey, wn_X1, Nat.le_of_ble_eq_true rfl, by decide +kernel, by decide +kernel⟩
theorem wv_X1_readKey : Cond.selects yX1_readKey.cls yX1_readKey yX1_readKey ∈ lw_g := lw_g_of (List.mem_append_left _ (by decide +kernel)) (by decide +kernel)
theorem mw_X1_releaseName : sv_MW M_X1_releaseName := ⟨wc_X1_releaseName, wn_X1, Nat.le_of_ble_eq_true rfl, by decide +kernel, by decide +kernel⟩
theorem wv_X1_releaseName : Cond.selects yX1_releaseName.cls yX1_releaseName yX1_releaseName ∈ lw_g := lw_g_of (List.mem_append_left _ (by decide +kernel)) (by decide +kernel)
theorem mw_X1_replaceValue : sv_MW M_X1_replaceValue := ⟨wc_X1_replaceValue, wn_X1, Nat.le_of_ble_eq_true rfl, by decide +kernel, by decide +kernel⟩
theorem wv_X1_replaceValue : Cond.selects yX1_replaceValue.cls yX1_replaceValue yX1_replaceValue ∈ lw_g := lw_g_of (List.mem_append_left _ (by decide +kernel)) (by decide +kernel)
theorem mw_X1_rollTransactionBack : sv_MW M_X1_rollTransactionBack := ⟨wc_X1_rollTransactionBack, wn_X1, Nat.le_of_ble_eq_true rfl, by decide +kernel, by decide +kernel⟩
theorem wv_X1_rollTransactionBack : Cond.selects yX1_rollTransactionBack.cls yX1_rollTransactionBack yX1_rollTransactionBack ∈ lw_g := lw_g_of (List.mem_append_left _ (by decide +kernel)) (by decide +kernel)
theorem mw_X1_savepointOrError : sv_MW M_X1_savepointOrError := ⟨wc_X1_savepointOrError, wn_X1, Nat.le_of_ble_eq_true rfl, by decide +kernel, by decide +kernel⟩
theorem wv_X1_savepointOrError : Cond.selects yX1_savepointOrError.cls yX1_savepointOrError yX1_savepointOrError ∈ lw_g := lw_g_of (List.mem_append_left _ (by decide +kernel)) (by decide +kernel)
theorem mw_X1_setSavepoint : sv_MW M_X1_setSavepoint := ⟨wc_X1_setSavepoint, wn_X1, Nat.le_of_ble_eq_true rfl, by decide +kernel, by decide +kernel⟩
theorem wv_X1_setSavepoint : Cond.selects yX1_setSavepoint.cls yX1_setSavepoint yX1_setSavepoint ∈ lw_g := lw_g_of (List.mem_append_left _ (by decide +kernel)) (by decide +kernel)
theorem mw_X1_shiftKeys : sv_MW M_X1_shiftKeys := ⟨wc_X1_shiftKeys, wn_X1, Nat.le_of_ble_eq_true rfl, by decide +kernel, by decide +kernel⟩
theorem wv_X1_shiftKeys : Cond.selects yX1_shiftKeys.cls yX1_shiftKeys yX1_shiftKeys ∈ lw_g := lw_g_of (List.mem_append_left _ (by decide +kernel)) (by decide +kernel)
theorem mw_X1_takeLock : sv_MW M_X1_takeLock := ⟨wc_X1_takeLock, wn_X1, Nat.le_of_ble_eq_true rfl, by decide +kernel, by decide +kernel⟩
theorem wv_X1_takeLock : Cond.selects yX1_takeLock.cls yX1_takeLock yX1_takeLock ∈ lw_g := lw_g_of (List.mem_append_left _ (by decide +kernel)) (by decide +kernel)
theorem mw_X1_undoToMoment : sv_MW M_X1_undoToMoment := ⟨wc_X1_undoToMoment, wn_X1, Nat.le_of_ble_eq_true rfl, by decide +kernel, by decide +kernel⟩
theorem wv_X1_undoToMoment : Cond.selects yX1_undoToMoment.cls yX1_undoToMoment yX1_undoToMoment ∈ lw_g := lw_g_of (List.mem_append_left _ (by decide +kernel)) (by decide +kernel)
theorem mw_X1_undoToName : sv_MW M_X1_undoToName := ⟨wc_X1_undoToName, wn_X1, Nat.le_of_ble_eq_true rfl, by decide +kernel, by decide +kernel⟩
theorem wv_X1_undoToName : Cond.selects yX1_undoToName.cls yX1_undoToName yX1_undoToName ∈ lw_g := lw_g_of (List.mem_append_left _ (by decide +kernel)) (by decide +kernel)
theorem mw_X1_valueCount : sv_MW M_X1_valueCount := ⟨wc_X1_valueCount, wn_X1, Nat.le_of_ble_eq_true rfl, by decide +kernel, by decide +kernel⟩
theorem wv_X1_valueCount : Cond.selects yX1_valueCount.cls yX1_valueCount yX1_valueCount ∈ lw_g := lw_g_of (List.mem_append_left _ (by decide +kernel)) (by decide +kernel)
theorem mw_X1_valueSum : sv_MW M_X1_valueSum := ⟨wc_X1_valueSum, wn_X1, Nat.le_of_ble_eq_true rfl, by decide +kernel, by decide +kernel⟩
theorem wv_X1_valueSum : Cond.selects yX1_valueSum.cls yX1_valueSum yX1_valueSum ∈ lw_g := lw_g_of (List.mem_append_left _ (by decide +kernel)) (by decide +kernel)
theorem mw_X1_whyImpossible : sv_MW M_X1_whyImpossible := ⟨wc_X1_whyImpossible, wn_X1, Nat.le_of_ble_eq_true rfl, by decide +kernel, by decide +kernel⟩
theorem wv_X1_whyImpossible : Cond.selects yX1_whyImpossible.cls yX1_whyImpossible yX1_whyImpossible ∈ lw_g := lw_g_of (List.mem_append_left _ (by decide +kernel)) (by decide +kernel)
theorem mw_X1_writeKey : sv_MW M_X1_writeKey := ⟨wc_X1_writeKey, wn_X1, Nat.le_of_ble_eq_true rfl, by decide +kernel, by decide +kernel⟩
theorem wv_X1_writeKey : Cond.selects yX1_writeKey.cls yX1_writeKey yX1_writeKey ∈ lw_g := lw_g_of (List.mem_append_left _ (by decide +kernel)) (by decide +kernel)
theorem mw_X2_addMoment : sv_MW M_X2_addMoment := ⟨wc_X2_addMoment, wn_X2, Nat.le_of_ble_eq_true rfl, by decide +kernel, by decide +kernel⟩
theorem wv_X2_addMoment : Cond.selects yX2_addMoment.cls yX2_addMoment yX2_addMoment ∈ lw_g := lw_g_of (List.mem_append_left _ (by decide +kernel)) (by decide +kernel)
theorem mw_X2_close : sv_MW M_X2_close := ⟨wc_X2_close, wn_X2, Nat.le_of_ble_eq_true rfl, by decide +kernel, by decide +kernel⟩
theorem wv_X2_close : Cond.selects yX2_close.cls yX2_close yX2_close ∈ lw_g := lw_g_of (List.mem_append_left _ (by decide +kernel)) (by decide +kernel)
theorem mw_X2_copyFrom : sv_MW M_X2_copyFrom := ⟨wc_X2_copyFrom, wn_X2, Nat.le_of_ble_eq_true rfl, by decide +kernel, by decide +kernel⟩
theorem wv_X2_copyFrom : Cond.selects yX2_copyFrom.cls yX2_copyFrom yX2_copyFrom ∈ lw_g := lw_g_of (List.mem_append_left _ (by decide +kernel)) (by decide +kernel)
theorem mw_X2_dropMomentsAfter : sv_MW M_X2_dropMomentsAfter := ⟨wc_X2_dropMomentsAfter, wn_X2, Nat.le_of_ble_eq_true rfl, by decide +kernel, by decide +kernel⟩
theorem wv_X2_dropMomentsAfter : Cond.selects yX2_dropMomentsAfter.cls yX2_dropMomentsAfter yX2_dropMomentsAfter ∈ lw_g := lw_g_of (List.mem_append_left _ (by decide +kernel)) (by decide +kernel)
theorem mw_X2_forgetChangesSince : sv_MW M_X2_forgetChangesSince := ⟨wc_X2_forgetChangesSince, wn_X2, Nat.le_of_ble_eq_true rfl, by decide +kernel, by decide +kernel⟩
theorem wv_X2_forgetChangesSince : Cond.selects yX2_forgetChangesSince.cls yX2_forgetChangesSince yX2_forgetChangesSince ∈ lw_g := lw_g_of (List.mem_append_left _ (by decide +kernel)) (by decide +kernel)
theorem mw_X2_init : sv_MW M_X2_init := ⟨wc_X2_init, wn_X2, Nat.le_of_ble_eq_true rfl, by decide +kernel, by decide +kernel⟩
theorem mw_X2_isOpen : sv_MW M_X2_isOpen := ⟨wc_X2_isOpen, wn_X2, Nat.le_of_ble_eq_true rfl, by decide +kernel, by decide +kernel⟩
theorem wv_X2_isOpen : Cond.selects yX2_isOpen.cls yX2_isOpen yX2_isOpen ∈ lw_g := lw_g_of (List.mem_append_left _ (by decide +kernel)) (by decide +kernel)
theorem mw_X2_keysChangedSince : sv_MW M_X2_keysChangedSince := ⟨wc_X2_keysChangedSince, wn_X2, Nat.le_of_ble_eq_true rfl, by decide +kernel, by decide +kernel⟩
theorem wv_X2_keysChangedSince : Cond.selects yX2_keysChangedSince.cls yX2_keysChangedSince yX2_keysChangedSince ∈ lw_g := lw_g_of (List.mem_append_left _ (by decide +kernel)) (by decide +kernel)
theorem mw_X2_lockCount : sv_MW M_X2_lockCount := ⟨wc_X2_lockCount, wn_X2, Nat.le_of_ble_eq_true rfl, by decide +kernel, by decide +kernel⟩
theorem wv_X2_lockCount : Cond.selects yX2_lockCount.cls yX2_lockCount yX2_lockCount ∈ lw_g := lw_g_of (List.mem_append_left _ (by decide +kernel)) (by decide +kernel)
theorem mw_X2_lockMode : sv_MW M_X2_lockMode := ⟨wc_X2_lockMode, wn_X2, Nat.le_of_ble_eq_true rfl, by decide +kernel, by decide +kernel⟩
theorem wv_X2_lockMode : Cond.selects yX2_lockMode.cls yX2_lockMode yX2_lockMode ∈ lw_g := lw_g_of (List.mem_append_left _ (by decide +kernel)) (by decide +kernel)
theorem mw_X2_locksChangedSince : sv_MW M_X2_locksChangedSince := ⟨wc_X2_locksChangedSince, wn_X2, Nat.le_of_ble_eq_true rfl, by decide +kernel, by decide +kernel⟩
theorem wv_X2_locksChangedSince : Cond.selects yX2_locksChangedSince.cls yX2_locksChangedSince yX2_locksChangedSince ∈ lw_g := lw_g_of (List.mem_append_left _ (by decide +kernel)) (by decide +kernel)
theorem mw_X2_nearestSavepoint : sv_MW M_X2_nearestSavepoint := ⟨wc_X2_nearestSavepoint, wn_X2, Nat.le_of_ble_eq_true rfl, by decide +kernel, by decide +kernel⟩
theorem wv_X2_nearestSavepoint : Cond.selects yX2_nearestSavepoint.cls yX2_nearestSavepoint yX2_nearestSavepoint ∈ lw_g := lw_g_of (List.mem_append_left _ (by decide +kernel)) (by decide +kernel)
theorem mw_X2_noteChange : sv_MW M_X2_noteChange := ⟨wc_X2_noteChange, wn_X2, Nat.le_of_ble_eq_true rfl, by decide +kernel, by decide +kernel⟩
theorem wv_X2_noteChange : Cond.selects yX2_noteChange.cls yX2_noteChange yX2_noteChange ∈ lw_g := lw_g_of (List.mem_append_left _ (by decide +kernel)) (by decide +kernel)
theorem mw_X2_noteChangeAt : sv_MW M_X2_noteChangeAt := ⟨wc_X2_noteChangeAt, wn_X2, Nat.le_of_ble_eq_true rfl, by decide +kernel, by decide +kernel⟩
theorem wv_X2_noteChangeAt : Cond.selects yX2_noteChangeAt.cls yX2_noteChangeAt yX2_noteChangeAt ∈ lw_g := lw_g_of (List.mem_append_left _ (by decide +kernel)) (by decide +kernel)
theorem mw_X2_savepointCount : sv_MW M_X2_savepointCount := ⟨wc_X2_savepointCount, wn_X2, Nat.le_of_ble_eq_true rfl, by decide +kernel, by decide +kernel⟩
theorem wv_X2_savepointCount : Cond.selects yX2_savepointCount.cls yX2_savepointCount yX2_savepointCount ∈ lw_g := lw_g_of (List.mem_append_left _ (by decide +kernel)) (by decide +kernel)
theorem mw_X2_setLockMode : sv_MW M_X2_setLockMode := ⟨wc_X2_setLockMode, wn_X2, Nat.le_of_ble_eq_true rfl, by decide +kernel, by decide +kernel⟩
theorem wv_X2_setLockMode : Cond.selects yX2_setLockMode.cls yX2_setLockMode yX2_setLockMode ∈ lw_g := lw_g_of (List.mem_append_left _ (by decide +kernel)) (by decide +kernel)
theorem mw_X2_undoLocks : sv_MW M_X2_undoLocks := ⟨wc_X2_undoLocks, wn_X2, Nat.le_of_ble_eq_true rfl, by decide +kernel, by decide +kernel⟩
theorem wv_X2_undoLocks : Cond.selects yX2_undoLocks.cls yX2_undoLocks yX2_undoLocks ∈ lw_g := lw_g_of (List.mem_append_left _ (by decide +kernel)) (by decide +kernel)
theorem mw_X2_valueAt : sv_MW M_X2_valueAt := ⟨wc_X2_valueAt, wn_X2, Nat.le_of_ble_eq_true rfl, by decide +kernel, by decide +kernel⟩
theorem wv_X2_valueAt : Cond.selects yX2_valueAt.cls yX2_valueAt yX2_valueAt ∈ lw_g := lw_g_of (List.mem_append_left _ (by decide +kernel)) (by decide +kernel)
theorem mw_X3_append : sv_MW M_X3_append := ⟨wc_X3_append, wn_X3, Nat.le_of_ble_eq_true rfl, by decide +kernel, by decide +kernel⟩
theorem wv_X3_append : Cond.selects yX3_append.cls yX3_append yX3_append ∈ lw_g := lw_g_of (List.mem_append_right _ (List.mem_of_getElem? (i := 342) (by decide +kernel))) (by decide +kernel)
theorem mw_X3_begin : sv_MW M_X3_begin := ⟨wc_X3_begin, wn_X3, Nat.le_of_ble_eq_true rfl, by decide +kernel, by decide +kernel⟩
theorem wv_X3_begin : Cond.selects yX3_begin.cls yX3_begin yX3_begin ∈ lw_g := lw_g_of (List.mem_append_right _ (List.mem_of_getElem? (i := 141) (by decide +kernel))) (by decide +kernel)
theorem mw_X3_busyFor : sv_MW M_X3_busyFor := ⟨wc_X3_busyFor, wn_X3, Nat.le_of_ble_eq_true rfl, by decide +kernel, by decide +kernel⟩
theorem wv_X3_busyFor : Cond.selects yX3_busyFor.cls yX3_busyFor yX3_busyFor ∈ lw_g := lw_g_of (List.mem_append_right _ (List.mem_of_getElem? (i := 441) (by decide +kernel))) (by decide +kernel)
theorem mw_X3_changedSince : sv_MW M_X3_changedSince := ⟨wc_X3_changedSince, wn_X3, Nat.le_of_ble_eq_true rfl, by decide +kernel, by decide +kernel⟩
theorem wv_X3_changedSince : Cond.selects yX3_changedSince.cls yX3_changedSince yX3_changedSince ∈ lw_g := lw_g_of (List.mem_append_right _ (List.mem_of_getElem? (i := 476) (by decide +kernel))) (by decide +kernel)
theorem mw_X3_clearText : sv_MW M_X3_clearText := ⟨wc_X3_clearText, wn_X3, Nat.le_of_ble_eq_true rfl, by decide +kernel, by decide +kernel⟩
theorem wv_X3_clearText : Cond.selects yX3_clearText.cls yX3_clearText yX3_clearText ∈ lw_g := lw_g_of (List.mem_append_right _ (List.mem_of_getElem? (i := 350) (by decide +kernel))) (by decide +kernel)
theorem mw_X3_commit : sv_MW M_X3_commit := ⟨wc_X3_commit, wn_X3, Nat.le_of_ble_eq_true rfl, by decide +kernel, by decide +kernel⟩
theorem wv_X3_commit : Cond.selects yX3_commit.cls yX3_commit yX3_commit ∈ lw_g := lw_g_of (List.mem_append_right _ (List.mem_of_getElem? (i := 160) (by decide +kernel))) (by decide +kernel)
theorem mw_X3_committed : sv_MW M_X3_committed := ⟨wc_X3_committed, wn_X3, Nat.le_of_ble_eq_true rfl, by decide +kernel, by decide +kernel⟩
theorem wv_X3_committed : Cond.selects yX3_committed.cls yX3_committed yX3_committed ∈ lw_g := lw_g_of (List.mem_append_right _ (List.mem_of_getElem? (i := 427) (by decide +kernel))) (by decide +kernel)
theorem mw_X3_erase : sv_MW M_X3_erase := ⟨wc_X3_erase, wn_X3, Nat.le_of_ble_eq_true rfl, by decide +kernel, by decide +kernel⟩
theorem wv_X3_erase : Cond.selects yX3_erase.cls yX3_erase yX3_erase ∈ lw_g := lw_g_of (List.mem_append_right _ (List.mem_of_getElem? (i := 307) (by decide +kernel))) (by decide +kernel)
theorem mw_X3_fault : sv_MW M_X3_fault := ⟨wc_X3_fault, wn_X3, Nat.le_of_ble_eq_true rfl, by decide +kernel, by decide +kernel⟩
theorem wv_X3_fault : Cond.selects yX3_fault.cls yX3_fault yX3_fault ∈ lw_g := lw_g_of (List.mem_append_right _ (List.mem_of_getElem? (i := 354) (by decide +kernel))) (by decide +kernel)
theorem mw_X3_ifUndone : sv_MW M_X3_ifUndone := ⟨wc_X3_ifUndone, wn_X3, Nat.le_of_ble_eq_true rfl, by decide +kernel, by decide +kernel⟩
theorem wv_X3_ifUndone : Cond.selects yX3_ifUndone.cls yX3_ifUndone yX3_ifUndone ∈ lw_g := lw_g_of (List.mem_append_right _ (List.mem_of_getElem? (i := 485) (by decide +kernel))) (by decide +kernel)
theorem mw_X3_init : sv_MW M_X3_init := ⟨wc_X3_init, wn_X3, Nat.le_of_ble_eq_true rfl, by decide +kernel, by decide +kernel⟩
theorem mw_X3_isError : sv_MW M_X3_isError := ⟨wc_X3_isError, wn_X3, Nat.le_of_ble_eq_true rfl, by decide +kernel, by decide +kernel⟩
theorem mw_X3_isKey : sv_MW M_X3_isKey := ⟨wc_X3_isKey, wn_X3, Nat.le_of_ble_eq_true rfl, by decide +kernel, by decide +kernel⟩
theorem mw_X3_isName : sv_MW M_X3_isName := ⟨wc_X3_isName, wn_X3, Nat.le_of_ble_eq_true rfl, by decide +kernel, by decide +kernel⟩
theorem mw_X3_isSession : sv_MW M_X3_isSession := ⟨wc_X3_isSession, wn_X3, Nat.le_of_ble_eq_true rfl, by decide +kernel, by decide +kernel⟩
theorem mw_X3_isValue : sv_MW M_X3_isValue := ⟨wc_X3_isValue, wn_X3, Nat.le_of_ble_eq_true rfl, by decide +kernel, by decide +kernel⟩
theorem mw_X3_keep : sv_MW M_X3_keep := ⟨wc_X3_keep, wn_X3, Nat.le_of_ble_eq_true rfl, by decide +kernel, by decide +kernel⟩
theorem wv_X3_keep : Cond.selects yX3_keep.cls yX3_keep yX3_keep ∈ lw_g := lw_g_of (List.mem_append_right _ (List.mem_of_getElem? (i := 110) (by decide +kernel))) (by decide +kernel)
theorem mw_X3_mean : sv_MW M_X3_mean := ⟨wc_X3_mean, wn_X3, Nat.le_of_ble_eq_true rfl, by decide +kernel, by decide +kernel⟩
theorem wv_X3_mean : Cond.selects yX3_mean.cls yX3_mean yX3_mean ∈ lw_g := lw_g_of (List.mem_append_right _ (List.mem_of_getElem? (i := 495) (by decide +kernel))) (by decide +kernel)
theorem mw_X3_mode : sv_MW M_X3_mode := ⟨wc_X3_mode, wn_X3, Nat.le_of_ble_eq_true rfl, by decide +kernel, by decide +kernel⟩
theorem wv_X3_mode : Cond.selects yX3_mode.cls yX3_mode yX3_mode ∈ lw_g := lw_g_of (List.mem_append_right _ (List.mem_of_getElem? (i := 435) (by decide +kernel))) (by decide +kernel)
theorem mw_X3_momentOf : sv_MW M_X3_momentOf := ⟨wc_X3_momentOf, wn_X3, Nat.le_of_ble_eq_true rfl, by decide +kernel, by decide +kernel⟩
theorem mw_X3_move : sv_MW M_X3_move := ⟨wc_X3_move, wn_X3, Nat.le_of_ble_eq_true rfl, by decide +kernel, by decide +kernel⟩
theorem wv_X3_move : Cond.selects yX3_move.cls yX3_move yX3_move ∈ lw_g := lw_g_of (List.mem_append_right _ (List.mem_of_getElem? (i := 334) (by decide +kernel))) (by decide +kernel)
theorem mw_X3_nameOf : sv_MW M_X3_nameOf := ⟨wc_X3_nameOf, wn_X3, Nat.le_of_ble_eq_true rfl, by decide +kernel, by decide +kernel⟩
theorem wv_X3_nameOf : Cond.selects yX3_nameOf.cls yX3_nameOf yX3_nameOf ∈ lw_g := lw_g_of (List.mem_append_right _ (List.mem_of_getElem? (i := 462) (by decide +kernel))) (by decide +kernel)
theorem mw_X3_nearest : sv_MW M_X3_nearest := ⟨wc_X3_nearest, wn_X3, Nat.le_of_ble_eq_true rfl, by decide +kernel, by decide +kernel⟩
theorem wv_X3_nearest : Cond.selects yX3_nearest.cls yX3_nearest yX3_nearest ∈ lw_g := lw_g_of (List.mem_append_right _ (List.mem_of_getElem? (i := 470) (by decide +kernel))) (by decide +kernel)
theorem mw_X3_perform : sv_MW M_X3_perform := ⟨wc_X3_perform, wn_X3, Nat.le_of_ble_eq_true rfl, by decide +kernel, by decide +kernel⟩
theorem wv_X3_perform : Cond.selects yX3_perform.cls yX3_perform yX3_perform ∈ lw_g := lw_g_of (List.mem_append_right _ (List.mem_of_getElem? (i := 380) (by decide +kernel))) (by decide +kernel)
theorem mw_X3_performOrder : sv_MW M_X3_performOrder := ⟨wc_X3_performOrder, wn_X3, Nat.le_of_ble_eq_true rfl, by decide +kernel, by decide +kernel⟩
theorem wv_X3_performOrder : Cond.selects yX3_performOrder.cls yX3_performOrder yX3_performOrder ∈ lw_g := lw_g_of (List.mem_append_left _ (by decide +kernel)) (by decide +kernel)
theorem mw_X3_read : sv_MW M_X3_read := ⟨wc_X3_read, wn_X3, Nat.le_of_ble_eq_true rfl, by decide +kernel, by decide +kernel⟩
theorem wv_X3_read : Cond.selects yX3_read.cls yX3_read yX3_read ∈ lw_g := lw_g_of (List.mem_append_right _ (List.mem_of_getElem? (i := 257) (by decide +kernel))) (by decide +kernel)
theorem mw_X3_recordUnlessError : sv_MW M_X3_recordUnlessError := ⟨wc_X3_recordUnlessError, wn_X3, Nat.le_of_ble_eq_true rfl, by decide +kernel, by decide +kernel⟩
theorem wv_X3_recordUnlessError : Cond.selects yX3_recordUnlessError.cls yX3_recordUnlessError yX3_recordUnlessError ∈ lw_g := lw_g_of (List.mem_append_left _ (by decide +kernel)) (by decide +kernel)
theorem mw_X3_release : sv_MW M_X3_release := ⟨wc_X3_release, wn_X3, Nat.le_of_ble_eq_true rfl, by decide +kernel, by decide +kernel⟩
theorem wv_X3_release : Cond.selects yX3_release.cls yX3_release yX3_release ∈ lw_g := lw_g_of (List.mem_append_right _ (List.mem_of_getElem? (i := 249) (by decide +kernel))) (by decide +kernel)
theorem mw_X3_rememberState : sv_MW M_X3_rememberState := ⟨wc_X3_rememberState, wn_X3, Nat.le_of_ble_eq_true rfl, by decide +kernel, by decide +kernel⟩
theorem wv_X3_rememberState : Cond.selects yX3_rememberState.cls yX3_rememberState yX3_rememberState ∈ lw_g := lw_g_of (List.mem_append_left _ (by decide +kernel)) (by decide +kernel)
theorem mw_X3_restore : sv_MW M_X3_restore := ⟨wc_X3_restore, wn_X3, Nat.le_of_ble_eq_true rfl, by decide +kernel, by decide +kernel⟩
theorem wv_X3_restore : Cond.selects yX3_restore.cls yX3_restore yX3_restore ∈ lw_g := lw_g_of (List.mem_append_right _ (List.mem_of_getElem? (i := 418) (by decide +kernel))) (by decide +kernel)
theorem mw_X3_rollback : sv_MW M_X3_rollback := ⟨wc_X3_rollback, wn_X3, Nat.le_of_ble_eq_true rfl, by decide +kernel, by decide +kernel⟩
theorem wv_X3_rollback : Cond.selects yX3_rollback.cls yX3_rollback yX3_rollback ∈ lw_g := lw_g_of (List.mem_append_right _ (List.mem_of_getElem? (i := 183) (by decide +kernel))) (by decide +kernel)
theorem mw_X3_save : sv_MW M_X3_save := ⟨wc_X3_save, wn_X3, Nat.le_of_ble_eq_true rfl, by decide +kernel, by decide +kernel⟩
theorem wv_X3_save : Cond.selects yX3_save.cls yX3_save yX3_save ∈ lw_g := lw_g_of (List.mem_append_right _ (List.mem_of_getElem? (i := 410) (by decide +kernel))) (by decide +kernel)
theorem mw_X3_savepoint : sv_MW M_X3_savepoint := ⟨wc_X3_savepoint, wn_X3, Nat.le_of_ble_eq_true rfl, by decide +kernel, by decide +kernel⟩
theorem wv_X3_savepoint : Cond.selects yX3_savepoint.cls yX3_savepoint yX3_savepoint ∈ lw_g := lw_g_of (List.mem_append_right _ (List.mem_of_getElem? (i := 203) (by decide +kernel))) (by decide +kernel)
theorem mw_X3_session : sv_MW M_X3_session := ⟨wc_X3_session, wn_X3, Nat.le_of_ble_eq_true rfl, by decide +kernel, by decide +kernel⟩
theorem wv_X3_session : Cond.selects yX3_session.cls yX3_session yX3_session ∈ lw_g := lw_g_of (List.mem_append_right _ (List.mem_of_getElem? (i := 446) (by decide +kernel))) (by decide +kernel)
theorem mw_X3_shift : sv_MW M_X3_shift := ⟨wc_X3_shift, wn_X3, Nat.le_of_ble_eq_true rfl, by decide +kernel, by decide +kernel⟩
theorem wv_X3_shift : Cond.selects yX3_shift.cls yX3_shift yX3_shift ∈ lw_g := lw_g_of (List.mem_append_right _ (List.mem_of_getElem? (i := 315) (by decide +kernel))) (by decide +kernel)
theorem mw_X3_slotBehindHistory : sv_MW M_X3_slotBehindHistory := ⟨wc_X3_slotBehindHistory, wn_X3, Nat.le_of_ble_eq_true rfl, by decide +kernel, by decide +kernel⟩
theorem wv_X3_slotBehindHistory : Cond.selects yX3_slotBehindHistory.cls yX3_slotBehindHistory yX3_slotBehindHistory ∈ lw_g := lw_g_of (List.mem_append_left _ (by decide +kernel)) (by decide +kernel)
theorem mw_X3_total : sv_MW M_X3_total := ⟨wc_X3_total, wn_X3, Nat.le_of_ble_eq_true rfl, by decide +kernel, by decide +kernel⟩
theorem wv_X3_total : Cond.selects yX3_total.cls yX3_total yX3_total ∈ lw_g := lw_g_of (List.mem_append_right _ (List.mem_of_getElem? (i := 491) (by decide +kernel))) (by decide +kernel)
theorem mw_X3_undo : sv_MW M_X3_undo := ⟨wc_X3_undo, wn_X3, Nat.le_of_ble_eq_true rfl, by decide +kernel, by decide +kernel⟩
theorem wv_X3_undo : Cond.selects yX3_undo.cls yX3_undo yX3_undo ∈ lw_g := lw_g_of (List.mem_append_right _ (List.mem_of_getElem? (i := 406) (by decide +kernel))) (by decide +kernel)
theorem mw_X3_undoTo : sv_MW M_X3_undoTo := ⟨wc_X3_undoTo, wn_X3, Nat.le_of_ble_eq_true rfl, by decide +kernel, by decide +kernel⟩
theorem wv_X3_undoTo : Cond.selects yX3_undoTo.cls yX3_undoTo yX3_undoTo ∈ lw_g := lw_g_of (List.mem_append_right _ (List.mem_of_getElem? (i := 218) (by decide +kernel))) (by decide +kernel)
theorem mw_X3_value : sv_MW M_X3_value := ⟨wc_X3_value, wn_X3, Nat.le_of_ble_eq_true rfl, by decide +kernel, by decide +kernel⟩
theorem wv_X3_value : Cond.selects yX3_value.cls yX3_value yX3_value ∈ lw_g := lw_g_of (List.mem_append_right _ (List.mem_of_getElem? (i := 422) (by decide +kernel))) (by decide +kernel)
theorem mw_X3_write : sv_MW M_X3_write := ⟨wc_X3_write, wn_X3, Nat.le_of_ble_eq_true rfl, by decide +kernel, by decide +kernel⟩
theorem wv_X3_write : Cond.selects yX3_write.cls yX3_write yX3_write ∈ lw_g := lw_g_of (List.mem_append_right _ (List.mem_of_getElem? (i := 288) (by decide +kernel))) (by decide +kernel)
theorem mw_X4_add : sv_MW M_X4_add := ⟨wc_X4_add, wn_X4, Nat.le_of_ble_eq_true rfl, by decide +kernel, by decide +kernel⟩
theorem wv_X4_add : Cond.selects yX4_add.cls yX4_add yX4_add ∈ lw_g := lw_g_of (List.mem_append_left _ (by decide +kernel)) (by decide +kernel)
theorem mw_X4_append : sv_MW M_X4_append := ⟨wc_X4_append, wn_X4, Nat.le_of_ble_eq_true rfl, by decide +kernel, by decide +kernel⟩
theorem wv_X4_append : Cond.selects yX4_append.cls yX4_append yX4_append ∈ lw_g := lw_g_of (List.mem_append_right _ (List.mem_of_getElem? (i := 754) (by decide +kernel))) (by decide +kernel)
theorem mw_X4_at : sv_MW M_X4_at := ⟨wc_X4_at, wn_X4, Nat.le_of_ble_eq_true rfl, by decide +kernel, by decide +kernel⟩
theorem mw_X4_before : sv_MW M_X4_before := ⟨wc_X4_before, wn_X4, Nat.le_of_ble_eq_true rfl, by decide +kernel, by decide +kernel⟩
theorem wv_X4_before : Cond.selects yX4_before.cls yX4_before yX4_before ∈ lw_g := lw_g_of (List.mem_append_left _ (by decide +kernel)) (by decide +kernel)
theorem mw_X4_begin : sv_MW M_X4_begin := ⟨wc_X4_begin, wn_X4, Nat.le_of_ble_eq_true rfl, by decide +kernel, by decide +kernel⟩
theorem wv_X4_begin : Cond.selects yX4_begin.cls yX4_begin yX4_begin ∈ lw_g := lw_g_of (List.mem_append_right _ (List.mem_of_getElem? (i := 560) (by decide +kernel))) (by decide +kernel)
theorem mw_X4_beginError : sv_MW M_X4_beginError := ⟨wc_X4_beginError, wn_X4, Nat.le_of_ble_eq_true rfl, by decide +kernel, by decide +kernel⟩
theorem wv_X4_beginError : Cond.selects yX4_beginError.cls yX4_beginError yX4_beginError ∈ lw_g := lw_g_of (List.mem_append_left _ (by decide +kernel)) (by decide +kernel)
theorem mw_X4_beginStatement : sv_MW M_X4_beginStatement := ⟨wc_X4_beginStatement, wn_X4, Nat.le_of_ble_eq_true rfl, by decide +kernel, by decide +kernel⟩
theorem wv_X4_beginStatement : Cond.selects yX4_beginStatement.cls yX4_beginStatement yX4_beginStatement ∈ lw_g := lw_g_of (List.mem_append_left _ (by decide +kernel)) (by decide +kernel)
theorem mw_X4_bits : sv_MW M_X4_bits := ⟨wc_X4_bits, wn_X4, Nat.le_of_ble_eq_true rfl, by decide +kernel, by decide +kernel⟩
theorem mw_X4_busyFor : sv_MW M_X4_busyFor := ⟨wc_X4_busyFor, wn_X4, Nat.le_of_ble_eq_true rfl, by decide +kernel, by decide +kernel⟩
theorem wv_X4_busyFor : Cond.selects yX4_busyFor.cls yX4_busyFor yX4_busyFor ∈ lw_g := lw_g_of (List.mem_append_right _ (List.mem_of_getElem? (i := 838) (by decide +kernel))) (by decide +kernel)
theorem mw_X4_carryOut : sv_MW M_X4_carryOut := ⟨wc_X4_carryOut, wn_X4, Nat.le_of_ble_eq_true rfl, by decide +kernel, by decide +kernel⟩
theorem wv_X4_carryOut : Cond.selects yX4_carryOut.cls yX4_carryOut yX4_carryOut ∈ lw_g := lw_g_of (List.mem_append_left _ (by decide +kernel)) (by decide +kernel)
theorem mw_X4_change : sv_MW M_X4_change := ⟨wc_X4_change, wn_X4, Nat.le_of_ble_eq_true rfl, by decide +kernel, by decide +kernel⟩
theorem wv_X4_change : Cond.selects yX4_change.cls yX4_change yX4_change ∈ lw_g := lw_g_of (List.mem_append_left _ (by decide +kernel)) (by decide +kernel)
theorem mw_X4_changedSince : sv_MW M_X4_changedSince := ⟨wc_X4_changedSince, wn_X4, Nat.le_of_ble_eq_true rfl, by decide +kernel, by decide +kernel⟩
theorem wv_X4_changedSince : Cond.selects yX4_changedSince.cls yX4_changedSince yX4_changedSince ∈ lw_g := lw_g_of (List.mem_append_right _ (List.mem_of_getElem? (i := 862) (by decide +kernel))) (by decide +kernel)
theorem mw_X4_clearText : sv_MW M_X4_clearText := ⟨wc_X4_clearText, wn_X4, Nat.le_of_ble_eq_true rfl, by decide +kernel, by decide +kernel⟩
theorem wv_X4_clearText : Cond.selects yX4_clearText.cls yX4_clearText yX4_clearText ∈ lw_g := lw_g_of (List.mem_append_right _ (List.mem_of_getElem? (i := 758) (by decide +kernel))) (by decide +kernel)
theorem mw_X4_close : sv_MW M_X4_close := ⟨wc_X4_close, wn_X4, Nat.le_of_ble_eq_true rfl, by decide +kernel, by decide +kernel⟩
theorem wv_X4_close : Cond.selects yX4_close.cls yX4_close yX4_close ∈ lw_g := lw_g_of (List.mem_append_left _ (by decide +kernel)) (by decide +kernel)
theorem mw_X4_commit : sv_MW M_X4_commit := ⟨wc_X4_commit, wn_X4, Nat.le_of_ble_eq_true rfl, by decide +kernel, by decide +kernel⟩
theorem wv_X4_commit : Cond.selects yX4_commit.cls yX4_commit yX4_commit ∈ lw_g := lw_g_of (List.mem_append_right _ (List.mem_of_getElem? (i := 582) (by decide +kernel))) (by decide +kernel)
theorem mw_X4_committed : sv_MW M_X4_committed := ⟨wc_X4_committed, wn_X4, Nat.le_of_ble_eq_true rfl, by decide +kernel, by decide +kernel⟩
theorem wv_X4_committed : Cond.selects yX4_committed.cls yX4_committed yX4_committed ∈ lw_g := lw_g_of (List.mem_append_right _ (List.mem_of_getElem? (i := 826) (by decide +kernel))) (by decide +kernel)
theorem mw_X4_doBegin : sv_MW M_X4_doBegin := ⟨wc_X4_doBegin, wn_X4, Nat.le_of_ble_eq_true rfl, by decide +kernel, by decide +kernel⟩
theorem wv_X4_doBegin : Cond.selects yX4_doBegin.cls yX4_doBegin yX4_doBegin ∈ lw_g := lw_g_of (List.mem_append_left _ (by decide +kernel)) (by decide +kernel)
theorem mw_X4_doCommit : sv_MW M_X4_doCommit := ⟨wc_X4_doCommit, wn_X4, Nat.le_of_ble_eq_true rfl, by decide +kernel, by decide +kernel⟩
theorem wv_X4_doCommit : Cond.selects yX4_doCommit.cls yX4_doCommit yX4_doCommit ∈ lw_g := lw_g_of (List.mem_append_left _ (by decide +kernel)) (by decide +kernel)
theorem mw_X4_doRead : sv_MW M_X4_doRead := ⟨wc_X4_doRead, wn_X4, Nat.le_of_ble_eq_true rfl, by decide +kernel, by decide +kernel⟩
theorem wv_X4_doRead : Cond.selects yX4_doRead.cls yX4_doRead yX4_doRead ∈ lw_g := lw_g_of (List.mem_append_left _ (by decide +kernel)) (by decide +kernel)
theorem mw_X4_doRelease : sv_MW M_X4_doRelease := ⟨wc_X4_doRelease, wn_X4, Nat.le_of_ble_eq_true rfl, by decide +kernel, by decide +kernel⟩
theorem wv_X4_doRelease : Cond.selects yX4_doRelease.cls yX4_doRelease yX4_doRelease ∈ lw_g := lw_g_of (List.mem_append_left _ (by decide +kernel)) (by decide +kernel)
theorem mw_X4_doRollback : sv_MW M_X4_doRollback := ⟨wc_X4_doRollback, wn_X4, Nat.le_of_ble_eq_true rfl, by decide +kernel, by decide +kernel⟩
theorem wv_X4_doRollback : Cond.selects yX4_doRollback.cls yX4_doRollback yX4_doRollback ∈ lw_g := lw_g_of (List.mem_append_left _ (by decide +kernel)) (by decide +kernel)
theorem mw_X4_doSavepoint : sv_MW M_X4_doSavepoint := ⟨wc_X4_doSavepoint, wn_X4, Nat.le_of_ble_eq_true rfl, by decide +kernel, by decide +kernel⟩
theorem wv_X4_doSavepoint : Cond.selects yX4_doSavepoint.cls yX4_doSavepoint yX4_doSavepoint ∈ lw_g := lw_g_of (List.mem_append_left _ (by decide +kernel)) (by decide +kernel)
theorem mw_X4_doUndoTo : sv_MW M_X4_doUndoTo := ⟨wc_X4_doUndoTo, wn_X4, Nat.le_of_ble_eq_true rfl, by decide +kernel, by decide +kernel⟩
theorem wv_X4_doUndoTo : Cond.selects yX4_doUndoTo.cls yX4_doUndoTo yX4_doUndoTo ∈ lw_g := lw_g_of (List.mem_append_left _ (by decide +kernel)) (by decide +kernel)
theorem mw_X4_doWrite : sv_MW M_X4_doWrite := ⟨wc_X4_doWrite, wn_X4, Nat.le_of_ble_eq_true rfl, by decide +kernel, by decide +kernel⟩
theorem wv_X4_doWrite : Cond.selects yX4_doWrite.cls yX4_doWrite yX4_doWrite ∈ lw_g := lw_g_of (List.mem_append_left _ (by decide +kernel)) (by decide +kernel)
theorem mw_X4_endBadly : sv_MW M_X4_endBadly := ⟨wc_X4_endBadly, wn_X4, Nat.le_of_ble_eq_true rfl, by decide +kernel, by decide +kernel⟩
theorem wv_X4_endBadly : Cond.selects yX4_endBadly.cls yX4_endBadly yX4_endBadly ∈ lw_g := lw_g_of (List.mem_append_left _ (by decide +kernel)) (by decide +kernel)
theorem mw_X4_endWell : sv_MW M_X4_endWell := ⟨wc_X4_endWell, wn_X4, Nat.le_of_ble_eq_true rfl, by decide +kernel, by decide +kernel⟩
theorem wv_X4_endWell : Cond.selects yX4_endWell.cls yX4_endWell yX4_endWell ∈ lw_g := lw_g_of (List.mem_append_left _ (by decide +kernel)) (by decide +kernel)
theorem mw_X4_erase : sv_MW M_X4_erase := ⟨wc_X4_erase, wn_X4, Nat.le_of_ble_eq_true rfl, by decide +kernel, by decide +kernel⟩
theorem wv_X4_erase : Cond.selects yX4_erase.cls yX4_erase yX4_erase ∈ lw_g := lw_g_of (List.mem_append_right _ (List.mem_of_getElem? (i := 734) (by decide +kernel))) (by decide +kernel)
theorem mw_X4_errorOfOrder : sv_MW M_X4_errorOfOrder := ⟨wc_X4_errorOfOrder, wn_X4, Nat.le_of_ble_eq_true rfl, by decide +kernel, by decide +kernel⟩
theorem wv_X4_errorOfOrder : Cond.selects yX4_errorOfOrder.cls yX4_errorOfOrder yX4_errorOfOrder ∈ lw_g := lw_g_of (List.mem_append_left _ (by decide +kernel)) (by decide +kernel)
theorem mw_X4_fault : sv_MW M_X4_fault := ⟨wc_X4_fault, wn_X4, Nat.le_of_ble_eq_true rfl, by decide +kernel, by decide +kernel⟩
theorem wv_X4_fault : Cond.selects yX4_fault.cls yX4_fault yX4_fault ∈ lw_g := lw_g_of (List.mem_append_right _ (List.mem_of_getElem? (i := 762) (by decide +kernel))) (by decide +kernel)
theorem mw_X4_forget : sv_MW M_X4_forget := ⟨wc_X4_forget, wn_X4, Nat.le_of_ble_eq_true rfl, by decide +kernel, by decide +kernel⟩
theorem mw_X4_goBack : sv_MW M_X4_goBack := ⟨wc_X4_goBack, wn_X4, Nat.le_of_ble_eq_true rfl, by decide +kernel, by decide +kernel⟩
theorem wv_X4_goBack : Cond.selects yX4_goBack.cls yX4_goBack yX4_goBack ∈ lw_g := lw_g_of (List.mem_append_left _ (by decide +kernel)) (by decide +kernel)
theorem mw_X4_has : sv_MW M_X4_has := ⟨wc_X4_has, wn_X4, Nat.le_of_ble_eq_true rfl, by decide +kernel, by decide +kernel⟩
theorem mw_X4_ifUndone : sv_MW M_X4_ifUndone := ⟨wc_X4_ifUndone, wn_X4, Nat.le_of_ble_eq_true rfl, by decide +kernel, by decide +kernel⟩
theorem wv_X4_ifUndone : Cond.selects yX4_ifUndone.cls yX4_ifUndone yX4_ifUndone ∈ lw_g := lw_g_of (List.mem_append_right _ (List.mem_of_getElem? (i := 866) (by decide +kernel))) (by decide +kernel)
theorem mw_X4_in : sv_MW M_X4_in := ⟨wc_X4_in, wn_X4, Nat.le_of_ble_eq_true rfl, by decide +kernel, by decide +kernel⟩
theorem mw_X4_init : sv_MW M_X4_init := ⟨wc_X4_init, wn_X4, Nat.le_of_ble_eq_true rfl, by decide +kernel, by decide +kernel⟩
theorem mw_X4_isBusy : sv_MW M_X4_isBusy := ⟨wc_X4_isBusy, wn_X4, Nat.le_of_ble_eq_true rfl, by decide +kernel, by decide +kernel⟩
theorem wv_X4_isBusy : Cond.selects yX4_isBusy.cls yX4_isBusy yX4_isBusy ∈ lw_g := lw_g_of (List.mem_append_left _ (by decide +kernel)) (by decide +kernel)
theorem mw_X4_isKey : sv_MW M_X4_isKey := ⟨wc_X4_isKey, wn_X4, Nat.le_of_ble_eq_true rfl, by decide +kernel, by decide +kernel⟩
theorem mw_X4_isName : sv_MW M_X4_isName := ⟨wc_X4_isName, wn_X4, Nat.le_of_ble_eq_true rfl, by decide +kernel, by decide +kernel⟩
theorem mw_X4_isNext : sv_MW M_X4_isNext := ⟨wc_X4_isNext, wn_X4, Nat.le_of_ble_eq_true rfl, by decide +kernel, by decide +kernel⟩
theorem wv_X4_isNext : Cond.selects yX4_isNext.cls yX4_isNext yX4_isNext ∈ lw_g := lw_g_of (List.mem_append_left _ (by decide +kernel)) (by decide +kernel)
theorem mw_X4_isOpen : sv_MW M_X4_isOpen := ⟨wc_X4_isOpen, wn_X4, Nat.le_of_ble_eq_true rfl, by decide +kernel, by decide +kernel⟩
theorem wv_X4_isOpen : Cond.selects yX4_isOpen.cls yX4_isOpen yX4_isOpen ∈ lw_g := lw_g_of (List.mem_append_left _ (by decide +kernel)) (by decide +kernel)
theorem mw_X4_isSavepoint : sv_MW M_X4_isSavepoint := ⟨wc_X4_isSavepoint, wn_X4, Nat.le_of_ble_eq_true rfl, by decide +kernel, by decide +kernel⟩
theorem wv_X4_isSavepoint : Cond.selects yX4_isSavepoint.cls yX4_isSavepoint yX4_isSavepoint ∈ lw_g := lw_g_of (List.mem_append_left _ (by decide +kernel)) (by decide +kernel)
theorem mw_X4_isSession : sv_MW M_X4_isSession := ⟨wc_X4_isSession, wn_X4, Nat.le_of_ble_eq_true rfl, by decide +kernel, by decide +kernel⟩
theorem mw_X4_join : sv_MW M_X4_join := ⟨wc_X4_join, wn_X4, Nat.le_of_ble_eq_true rfl, by decide +kernel, by decide +kernel⟩
theorem mw_X4_keep : sv_MW M_X4_keep := ⟨wc_X4_keep, wn_X4, Nat.le_of_ble_eq_true rfl, by decide +kernel, by decide +kernel⟩
theorem wv_X4_keep : Cond.selects yX4_keep.cls yX4_keep yX4_keep ∈ lw_g := lw_g_of (List.mem_append_right _ (List.mem_of_getElem? (i := 552) (by decide +kernel))) (by decide +kernel)
theorem mw_X4_keyError : sv_MW M_X4_keyError := ⟨wc_X4_keyError, wn_X4, Nat.le_of_ble_eq_true rfl, by decide +kernel, by decide +kernel⟩
theorem wv_X4_keyError : Cond.selects yX4_keyError.cls yX4_keyError yX4_keyError ∈ lw_g := lw_g_of (List.mem_append_left _ (by decide +kernel)) (by decide +kernel)
theorem mw_X4_keysWith : sv_MW M_X4_keysWith := ⟨wc_X4_keysWith, wn_X4, Nat.le_of_ble_eq_true rfl, by decide +kernel, by decide +kernel⟩
theorem wv_X4_keysWith : Cond.selects yX4_keysWith.cls yX4_keysWith yX4_keysWith ∈ lw_g := lw_g_of (List.mem_append_left _ (by decide +kernel)) (by decide +kernel)
theorem mw_X4_mean : sv_MW M_X4_mean := ⟨wc_X4_mean, wn_X4, Nat.le_of_ble_eq_true rfl, by decide +kernel, by decide +kernel⟩
theorem wv_X4_mean : Cond.selects yX4_mean.cls yX4_mean yX4_mean ∈ lw_g := lw_g_of (List.mem_append_right _ (List.mem_of_getElem? (i := 874) (by decide +kernel))) (by decide +kernel)
theorem mw_X4_mode : sv_MW M_X4_mode := ⟨wc_X4_mode, wn_X4, Nat.le_of_ble_eq_true rfl, by decide +kernel, by decide +kernel⟩
theorem wv_X4_mode : Cond.selects yX4_mode.cls yX4_mode yX4_mode ∈ lw_g := lw_g_of (List.mem_append_right _ (List.mem_of_getElem? (i := 834) (by decide +kernel))) (by decide +kernel)
theorem mw_X4_modeBefore : sv_MW M_X4_modeBefore := ⟨wc_X4_modeBefore, wn_X4, Nat.le_of_ble_eq_true rfl, by decide +kernel, by decide +kernel⟩
theorem wv_X4_modeBefore : Cond.selects yX4_modeBefore.cls yX4_modeBefore yX4_modeBefore ∈ lw_g := lw_g_of (List.mem_append_left _ (by decide +kernel)) (by decide +kernel)
theorem mw_X4_modeOf : sv_MW M_X4_modeOf := ⟨wc_X4_modeOf, wn_X4, Nat.le_of_ble_eq_true rfl, by decide +kernel, by decide +kernel⟩
theorem wv_X4_modeOf : Cond.selects yX4_modeOf.cls yX4_modeOf yX4_modeOf ∈ lw_g := lw_g_of (List.mem_append_left _ (by decide +kernel)) (by decide +kernel)
theorem mw_X4_move : sv_MW M_X4_move := ⟨wc_X4_move, wn_X4, Nat.le_of_ble_eq_true rfl, by decide +kernel, by decide +kernel⟩
theorem wv_X4_move : Cond.selects yX4_move.cls yX4_move yX4_move ∈ lw_g := lw_g_of (List.mem_append_right _ (List.mem_of_getElem? (i := 750) (by decide +kernel))) (by decide +kernel)
theorem mw_X4_nameError : sv_MW M_X4_nameError := ⟨wc_X4_nameError, wn_X4, Nat.le_of_ble_eq_true rfl, by decide +kernel, by decide +kernel⟩
theorem wv_X4_nameError : Cond.selects yX4_nameError.cls yX4_nameError yX4_nameError ∈ lw_g := lw_g_of (List.mem_append_left _ (by decide +kernel)) (by decide +kernel)
theorem mw_X4_nameOf : sv_MW M_X4_nameOf := ⟨wc_X4_nameOf, wn_X4, Nat.le_of_ble_eq_true rfl, by decide +kernel, by decide +kernel⟩
theorem wv_X4_nameOf : Cond.selects yX4_nameOf.cls yX4_nameOf yX4_nameOf ∈ lw_g := lw_g_of (List.mem_append_right _ (List.mem_of_getElem? (i := 850) (by decide +kernel))) (by decide +kernel)
theorem mw_X4_nearest : sv_MW M_X4_nearest := ⟨wc_X4_nearest, wn_X4, Nat.le_of_ble_eq_true rfl, by decide +kernel, by decide +kernel⟩
theorem wv_X4_nearest : Cond.selects yX4_nearest.cls yX4_nearest yX4_nearest ∈ lw_g := lw_g_of (List.mem_append_right _ (List.mem_of_getElem? (i := 858) (by decide +kernel))) (by decide +kernel)
theorem mw_X4_nearestOf : sv_MW M_X4_nearestOf := ⟨wc_X4_nearestOf, wn_X4, Nat.le_of_ble_eq_true rfl, by decide +kernel, by decide +kernel⟩
theorem wv_X4_nearestOf : Cond.selects yX4_nearestOf.cls yX4_nearestOf yX4_nearestOf ∈ lw_g := lw_g_of (List.mem_append_left _ (by decide +kernel)) (by decide +kernel)
theorem mw_X4_openError : sv_MW M_X4_openError := ⟨wc_X4_openError, wn_X4, Nat.le_of_ble_eq_true rfl, by decide +kernel, by decide +kernel⟩
theorem wv_X4_openError : Cond.selects yX4_openError.cls yX4_openError yX4_openError ∈ lw_g := lw_g_of (List.mem_append_left _ (by decide +kernel)) (by decide +kernel)
theorem mw_X4_others : sv_MW M_X4_others := ⟨wc_X4_others, wn_X4, Nat.le_of_ble_eq_true rfl, by decide +kernel, by decide +kernel⟩
theorem wv_X4_others : Cond.selects yX4_others.cls yX4_others yX4_others ∈ lw_g := lw_g_of (List.mem_append_left _ (by decide +kernel)) (by decide +kernel)
theorem mw_X4_outside : sv_MW M_X4_outside := ⟨wc_X4_outside, wn_X4, Nat.le_of_ble_eq_true rfl, by decide +kernel, by decide +kernel⟩
theorem mw_X4_passes : sv_MW M_X4_passes := ⟨wc_X4_passes, wn_X4, Nat.le_of_ble_eq_true rfl, by decide +kernel, by decide +kernel⟩
theorem wv_X4_passes : Cond.selects yX4_passes.cls yX4_passes yX4_passes ∈ lw_g := lw_g_of (List.mem_append_left _ (by decide +kernel)) (by decide +kernel)
theorem mw_X4_perform : sv_MW M_X4_perform := ⟨wc_X4_perform, wn_X4, Nat.le_of_ble_eq_true rfl, by decide +kernel, by decide +kernel⟩
theorem wv_X4_perform : Cond.selects yX4_perform.cls yX4_perform yX4_perform ∈ lw_g := lw_g_of (List.mem_append_right _ (List.mem_of_getElem? (i := 802) (by decide +kernel))) (by decide +kernel)
theorem mw_X4_read : sv_MW M_X4_read := ⟨wc_X4_read, wn_X4, Nat.le_of_ble_eq_true rfl, by decide +kernel, by decide +kernel⟩
theorem wv_X4_read : Cond.selects yX4_read.cls yX4_read yX4_read ∈ lw_g := lw_g_of (List.mem_append_right _ (List.mem_of_getElem? (i := 680) (by decide +kernel))) (by decide +kernel)
theorem mw_X4_readKey : sv_MW M_X4_readKey := ⟨wc_X4_readKey, wn_X4, Nat.le_of_ble_eq_true rfl, by decide +kernel, by decide +kernel⟩
theorem wv_X4_readKey : Cond.selects yX4_readKey.cls yX4_readKey yX4_readKey ∈ lw_g := lw_g_of (List.mem_append_left _ (by decide +kernel)) (by decide +kernel)
theorem mw_X4_readName : sv_MW M_X4_readName := ⟨wc_X4_readName, wn_X4, Nat.le_of_ble_eq_true rfl, by decide +kernel, by decide +kernel⟩
theorem wv_X4_readName : Cond.selects yX4_readName.cls yX4_readName yX4_readName ∈ lw_g := lw_g_of (List.mem_append_left _ (by decide +kernel)) (by decide +kernel)
theorem mw_X4_readNumber : sv_MW M_X4_readNumber := ⟨wc_X4_readNumber, wn_X4, Nat.le_of_ble_eq_true rfl, by decide +kernel, by decide +kernel⟩
theorem wv_X4_readNumber : Cond.selects yX4_readNumber.cls yX4_readNumber yX4_readNumber ∈ lw_g := lw_g_of (List.mem_append_left _ (by decide +kernel)) (by decide +kernel)
theorem mw_X4_readOrder : sv_MW M_X4_readOrder := ⟨wc_X4_readOrder, wn_X4, Nat.le_of_ble_eq_true rfl, by decide +kernel, by decide +kernel⟩
theorem wv_X4_readOrder : Cond.selects yX4_readOrder.cls yX4_readOrder yX4_readOrder ∈ lw_g := lw_g_of (List.mem_append_left _ (by decide +kernel)) (by decide +kernel)
theorem mw_X4_readText : sv_MW M_X4_readText := ⟨wc_X4_readText, wn_X4, Nat.le_of_ble_eq_true rfl, by decide +kernel, by decide +kernel⟩
theorem wv_X4_readText : Cond.selects yX4_readText.cls yX4_readText yX4_readText ∈ lw_g := lw_g_of (List.mem_append_left _ (by decide +kernel)) (by decide +kernel)
theorem mw_X4_record : sv_MW M_X4_record := ⟨wc_X4_record, wn_X4, Nat.le_of_ble_eq_true rfl, by decide +kernel, by decide +kernel⟩
theorem wv_X4_record : Cond.selects yX4_record.cls yX4_record yX4_record ∈ lw_g := lw_g_of (List.mem_append_left _ (by decide +kernel)) (by decide +kernel)
theorem mw_X4_release : sv_MW M_X4_release := ⟨wc_X4_release, wn_X4, Nat.le_of_ble_eq_true rfl, by decide +kernel, by decide +kernel⟩
theorem wv_X4_release : Cond.selects yX4_release.cls yX4_release yX4_release ∈ lw_g := lw_g_of (List.mem_append_right _ (List.mem_of_getElem? (i := 672) (by decide +kernel))) (by decide +kernel)
theorem mw_X4_restore : sv_MW M_X4_restore := ⟨wc_X4_restore, wn_X4, Nat.le_of_ble_eq_true rfl, by decide +kernel, by decide +kernel⟩
theorem wv_X4_restore : Cond.selects yX4_restore.cls yX4_restore yX4_restore ∈ lw_g := lw_g_of (List.mem_append_right _ (List.mem_of_getElem? (i := 818) (by decide +kernel))) (by decide +kernel)
theorem mw_X4_rollback : sv_MW M_X4_rollback := ⟨wc_X4_rollback, wn_X4, Nat.le_of_ble_eq_true rfl, by decide +kernel, by decide +kernel⟩
theorem wv_X4_rollback : Cond.selects yX4_rollback.cls yX4_rollback yX4_rollback ∈ lw_g := lw_g_of (List.mem_append_right _ (List.mem_of_getElem? (i := 615) (by decide +kernel))) (by decide +kernel)
theorem mw_X4_save : sv_MW M_X4_save := ⟨wc_X4_save, wn_X4, Nat.le_of_ble_eq_true rfl, by decide +kernel, by decide +kernel⟩
theorem wv_X4_save : Cond.selects yX4_save.cls yX4_save yX4_save ∈ lw_g := lw_g_of (List.mem_append_right _ (List.mem_of_getElem? (i := 810) (by decide +kernel))) (by decide +kernel)
theorem mw_X4_savepoint : sv_MW M_X4_savepoint := ⟨wc_X4_savepoint, wn_X4, Nat.le_of_ble_eq_true rfl, by decide +kernel, by decide +kernel⟩
theorem wv_X4_savepoint : Cond.selects yX4_savepoint.cls yX4_savepoint yX4_savepoint ∈ lw_g := lw_g_of (List.mem_append_right _ (List.mem_of_getElem? (i := 641) (by decide +kernel))) (by decide +kernel)
theorem mw_X4_savepointError : sv_MW M_X4_savepointError := ⟨wc_X4_savepointError, wn_X4, Nat.le_of_ble_eq_true rfl, by decide +kernel, by decide +kernel⟩
theorem wv_X4_savepointError : Cond.selects yX4_savepointError.cls yX4_savepointError yX4_savepointError ∈ lw_g := lw_g_of (List.mem_append_left _ (by decide +kernel)) (by decide +kernel)
theorem mw_X4_session : sv_MW M_X4_session := ⟨wc_X4_session, wn_X4, Nat.le_of_ble_eq_true rfl, by decide +kernel, by decide +kernel⟩
theorem wv_X4_session : Cond.selects yX4_session.cls yX4_session yX4_session ∈ lw_g := lw_g_of (List.mem_append_right _ (List.mem_of_getElem? (i := 842) (by decide +kernel))) (by decide +kernel)
theorem mw_X4_shift : sv_MW M_X4_shift := ⟨wc_X4_shift, wn_X4, Nat.le_of_ble_eq_true rfl, by decide +kernel, by decide +kernel⟩
theorem wv_X4_shift : Cond.selects yX4_shift.cls yX4_shift yX4_shift ∈ lw_g := lw_g_of (List.mem_append_right _ (List.mem_of_getElem? (i := 738) (by decide +kernel))) (by decide +kernel)
theorem mw_X4_since : sv_MW M_X4_since := ⟨wc_X4_since, wn_X4, Nat.le_of_ble_eq_true rfl, by decide +kernel, by decide +kernel⟩
theorem wv_X4_since : Cond.selects yX4_since.cls yX4_since yX4_since ∈ lw_g := lw_g_of (List.mem_append_left _ (by decide +kernel)) (by decide +kernel)
theorem mw_X4_takes : sv_MW M_X4_takes := ⟨wc_X4_takes, wn_X4, Nat.le_of_ble_eq_true rfl, by decide +kernel, by decide +kernel⟩
theorem wv_X4_takes : Cond.selects yX4_takes.cls yX4_takes yX4_takes ∈ lw_g := lw_g_of (List.mem_append_left _ (by decide +kernel)) (by decide +kernel)
theorem mw_X4_total : sv_MW M_X4_total := ⟨wc_X4_total, wn_X4, Nat.le_of_ble_eq_true rfl, by decide +kernel, by decide +kernel⟩
theorem wv_X4_total : Cond.selects yX4_total.cls yX4_total yX4_total ∈ lw_g := lw_g_of (List.mem_append_right _ (List.mem_of_getElem? (i := 870) (by decide +kernel))) (by decide +kernel)
theorem mw_X4_undo : sv_MW M_X4_undo := ⟨wc_X4_undo, wn_X4, Nat.le_of_ble_eq_true rfl, by decide +kernel, by decide +kernel⟩
theorem wv_X4_undo : Cond.selects yX4_undo.cls yX4_undo yX4_undo ∈ lw_g := lw_g_of (List.mem_append_right _ (List.mem_of_getElem? (i := 806) (by decide +kernel))) (by decide +kernel)
theorem mw_X4_undoTo : sv_MW M_X4_undoTo := ⟨wc_X4_undoTo, wn_X4, Nat.le_of_ble_eq_true rfl, by decide +kernel, by decide +kernel⟩
theorem wv_X4_undoTo : Cond.selects yX4_undoTo.cls yX4_undoTo yX4_undoTo ∈ lw_g := lw_g_of (List.mem_append_right _ (List.mem_of_getElem? (i := 656) (by decide +kernel))) (by decide +kernel)
theorem mw_X4_value : sv_MW M_X4_value := ⟨wc_X4_value, wn_X4, Nat.le_of_ble_eq_true rfl, by decide +kernel, by decide +kernel⟩
theorem wv_X4_value : Cond.selects yX4_value.cls yX4_value yX4_value ∈ lw_g := lw_g_of (List.mem_append_right _ (List.mem_of_getElem? (i := 822) (by decide +kernel))) (by decide +kernel)
theorem mw_X4_valued : sv_MW M_X4_valued := ⟨wc_X4_valued, wn_X4, Nat.le_of_ble_eq_true rfl, by decide +kernel, by decide +kernel⟩
theorem wv_X4_valued : Cond.selects yX4_valued.cls yX4_valued yX4_valued ∈ lw_g := lw_g_of (List.mem_append_left _ (by decide +kernel)) (by decide +kernel)
theorem mw_X4_withMode : sv_MW M_X4_withMode := ⟨wc_X4_withMode, wn_X4, Nat.le_of_ble_eq_true rfl, by decide +kernel, by decide +kernel⟩
theorem mw_X4_write : sv_MW M_X4_write := ⟨wc_X4_write, wn_X4, Nat.le_of_ble_eq_true rfl, by decide +kernel, by decide +kernel⟩
theorem wv_X4_write : Cond.selects yX4_write.cls yX4_write yX4_write ∈ lw_g := lw_g_of (List.mem_append_right _ (List.mem_of_getElem? (i := 718) (by decide +kernel))) (by decide +kernel)
theorem mw_X4_writeError : sv_MW M_X4_writeError := ⟨wc_X4_writeError, wn_X4, Nat.le_of_ble_eq_true rfl, by decide +kernel, by decide +kernel⟩
theorem wv_X4_writeError : Cond.selects yX4_writeError.cls yX4_writeError yX4_writeError ∈ lw_g := lw_g_of (List.mem_append_left _ (by decide +kernel)) (by decide +kernel)
theorem wx_native : Cond.native arraycopyName ∈ lw_g := lw_g_of (List.mem_append_right _ (List.mem_of_getElem? (i := 126) (by decide +kernel))) (by decide +kernel)
theorem wx_acs : Cond.static arraycopyName ∈ lw_g := lw_g_of (List.mem_append_right _ (List.mem_of_getElem? (i := 125) (by decide +kernel))) (by decide +kernel)
theorem wx_sys : Cond.initialized "java/lang/System" ∈ lw_g := lw_g_of (List.mem_append_right _ (List.mem_of_getElem? (i := 6) (by decide +kernel))) (by decide +kernel)
theorem wx_math : Cond.initialized "java/lang/Math" ∈ lw_g := lw_g_of (List.mem_append_right _ (List.mem_of_getElem? (i := 7) (by decide +kernel))) (by decide +kernel)
theorem wx_maxs : Cond.static Lib.Math.max.name ∈ lw_g := lw_g_of (List.mem_append_right _ (List.mem_of_getElem? (i := 175) (by decide +kernel))) (by decide +kernel)
theorem wx_maxc : Cond.code Lib.Math.max.name Lib.Math.max.code 2 (some .int) ∈ lw_g := lw_g_of (List.mem_append_right _ (List.mem_of_getElem? (i := 176) (by decide +kernel))) (by decide +kernel)
theorem wx_mins : Cond.static Lib.Math.min.name ∈ lw_g := lw_g_of (List.mem_append_right _ (List.mem_of_getElem? (i := 245) (by decide +kernel))) (by decide +kernel)
theorem wx_minc : Cond.code Lib.Math.min.name Lib.Math.min.code 2 (some .int) ∈ lw_g := lw_g_of (List.mem_append_right _ (List.mem_of_getElem? (i := 246) (by decide +kernel))) (by decide +kernel)
