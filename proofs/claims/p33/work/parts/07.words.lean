abbrev M_J6_bitCount_0f7a4 : sv_M := (yJ6_bitCount_0f7a4, cJ6_bitCount_0f7a4, 1, (some .int))
theorem wc_J6_bitCount_0f7a4 : Cond.code yJ6_bitCount_0f7a4 cJ6_bitCount_0f7a4 1 (some .int) ∈ lw_g := lw_g_of (List.mem_append_right _ (List.mem_of_getElem? (i := 178) (by decide +kernel))) (by decide +kernel)
theorem ws_J6_bitCount_0f7a4 : Cond.static yJ6_bitCount_0f7a4 ∈ lw_g := lw_g_of (List.mem_append_right _ (List.mem_of_getElem? (i := 177) (by decide +kernel))) (by decide +kernel)
abbrev M_J9_max_7cf53 : sv_M := (yJ9_max_7cf53, cJ9_max_7cf53, 2, (some .int))
theorem wc_J9_max_7cf53 : Cond.code yJ9_max_7cf53 cJ9_max_7cf53 2 (some .int) ∈ lw_g := lw_g_of (List.mem_append_right _ (List.mem_of_getElem? (i := 140) (by decide +kernel))) (by decide +kernel)
theorem ws_J9_max_7cf53 : Cond.static yJ9_max_7cf53 ∈ lw_g := lw_g_of (List.mem_append_right _ (List.mem_of_getElem? (i := 139) (by decide +kernel))) (by decide +kernel)
abbrev M_J9_min_7cf53 : sv_M := (yJ9_min_7cf53, cJ9_min_7cf53, 2, (some .int))
theorem wc_J9_min_7cf53 : Cond.code yJ9_min_7cf53 cJ9_min_7cf53 2 (some .int) ∈ lw_g := lw_g_of (List.mem_append_right _ (List.mem_of_getElem? (i := 322) (by decide +kernel))) (by decide +kernel)
theorem ws_J9_min_7cf53 : Cond.static yJ9_min_7cf53 ∈ lw_g := lw_g_of (List.mem_append_right _ (List.mem_of_getElem? (i := 321) (by decide +kernel))) (by decide +kernel)
abbrev M_L_act : sv_M := (yL_act, cL_act, 10, (some .boolean))
theorem wc_L_act : Cond.code yL_act cL_act 10 (some .boolean) ∈ lw_g := lw_g_of (List.mem_append_right _ (List.mem_of_getElem? (i := 222) (by decide +kernel))) (by decide +kernel)
theorem ws_L_act : Cond.static yL_act ∈ lw_g := lw_g_of (List.mem_append_right _ (List.mem_of_getElem? (i := 221) (by decide +kernel))) (by decide +kernel)
abbrev M_L_areValues : sv_M := (yL_areValues, cL_areValues, 4, (some .boolean))
theorem wc_L_areValues : Cond.code yL_areValues cL_areValues 4 (some .boolean) ∈ lw_g := lw_g_of (List.mem_append_right _ (List.mem_of_getElem? (i := 381) (by decide +kernel))) (by decide +kernel)
theorem ws_L_areValues : Cond.static yL_areValues ∈ lw_g := lw_g_of (List.mem_append_right _ (List.mem_of_getElem? (i := 380) (by decide +kernel))) (by decide +kernel)
abbrev M_L_cell : sv_M := (yL_cell, cL_cell, 2, (some .int))
theorem wc_L_cell : Cond.code yL_cell cL_cell 2 (some .int) ∈ lw_g := lw_g_of (List.mem_append_right _ (List.mem_of_getElem? (i := 106) (by decide +kernel))) (by decide +kernel)
theorem ws_L_cell : Cond.static yL_cell ∈ lw_g := lw_g_of (List.mem_append_right _ (List.mem_of_getElem? (i := 105) (by decide +kernel))) (by decide +kernel)
abbrev M_L_closes : sv_M := (yL_closes, cL_closes, 10, (some .boolean))
theorem wc_L_closes : Cond.code yL_closes cL_closes 10 (some .boolean) ∈ lw_g := lw_g_of (List.mem_append_right _ (List.mem_of_getElem? (i := 431) (by decide +kernel))) (by decide +kernel)
theorem ws_L_closes : Cond.static yL_closes ∈ lw_g := lw_g_of (List.mem_append_right _ (List.mem_of_getElem? (i := 430) (by decide +kernel))) (by decide +kernel)
abbrev M_L_doneBy : sv_M := (yL_doneBy, cL_doneBy, 5, (some .int))
theorem wc_L_doneBy : Cond.code yL_doneBy cL_doneBy 5 (some .int) ∈ lw_g := lw_g_of (List.mem_append_right _ (List.mem_of_getElem? (i := 248) (by decide +kernel))) (by decide +kernel)
theorem ws_L_doneBy : Cond.static yL_doneBy ∈ lw_g := lw_g_of (List.mem_append_right _ (List.mem_of_getElem? (i := 247) (by decide +kernel))) (by decide +kernel)
abbrev M_L_holds : sv_M := (yL_holds, cL_holds, 7, (some .boolean))
theorem wc_L_holds : Cond.code yL_holds cL_holds 7 (some .boolean) ∈ lw_g := lw_g_of (List.mem_append_right _ (List.mem_of_getElem? (i := 111) (by decide +kernel))) (by decide +kernel)
theorem ws_L_holds : Cond.static yL_holds ∈ lw_g := lw_g_of (List.mem_append_right _ (List.mem_of_getElem? (i := 110) (by decide +kernel))) (by decide +kernel)
abbrev M_L_isSession : sv_M := (yL_isSession, cL_isSession, 11, (some .boolean))
theorem wc_L_isSession : Cond.code yL_isSession cL_isSession 11 (some .boolean) ∈ lw_g := lw_g_of (List.mem_append_right _ (List.mem_of_getElem? (i := 159) (by decide +kernel))) (by decide +kernel)
theorem ws_L_isSession : Cond.static yL_isSession ∈ lw_g := lw_g_of (List.mem_append_right _ (List.mem_of_getElem? (i := 158) (by decide +kernel))) (by decide +kernel)
abbrev M_L_look : sv_M := (yL_look, cL_look, 5, none)
theorem wc_L_look : Cond.code yL_look cL_look 5 none ∈ lw_g := lw_g_of (List.mem_append_right _ (List.mem_of_getElem? (i := 229) (by decide +kernel))) (by decide +kernel)
theorem ws_L_look : Cond.static yL_look ∈ lw_g := lw_g_of (List.mem_append_right _ (List.mem_of_getElem? (i := 228) (by decide +kernel))) (by decide +kernel)
abbrev M_L_low : sv_M := (yL_low, cL_low, 2, (some .int))
theorem wc_L_low : Cond.code yL_low cL_low 2 (some .int) ∈ lw_g := lw_g_of (List.mem_append_right _ (List.mem_of_getElem? (i := 225) (by decide +kernel))) (by decide +kernel)
theorem ws_L_low : Cond.static yL_low ∈ lw_g := lw_g_of (List.mem_append_right _ (List.mem_of_getElem? (i := 224) (by decide +kernel))) (by decide +kernel)
abbrev M_L_otherModes : sv_M := (yL_otherModes, cL_otherModes, 5, (some .int))
theorem wc_L_otherModes : Cond.code yL_otherModes cL_otherModes 5 (some .int) ∈ lw_g := lw_g_of (List.mem_append_right _ (List.mem_of_getElem? (i := 384) (by decide +kernel))) (by decide +kernel)
theorem ws_L_otherModes : Cond.static yL_otherModes ∈ lw_g := lw_g_of (List.mem_append_right _ (List.mem_of_getElem? (i := 383) (by decide +kernel))) (by decide +kernel)
abbrev M_L_states : sv_M := (yL_states, cL_states, 15, (some .boolean))
theorem wc_L_states : Cond.code yL_states cL_states 15 (some .boolean) ∈ lw_g := lw_g_of (List.mem_append_right _ (List.mem_of_getElem? (i := 232) (by decide +kernel))) (by decide +kernel)
theorem ws_L_states : Cond.static yL_states ∈ lw_g := lw_g_of (List.mem_append_right _ (List.mem_of_getElem? (i := 231) (by decide +kernel))) (by decide +kernel)
abbrev M_L_undoes : sv_M := (yL_undoes, cL_undoes, 13, (some .boolean))
theorem wc_L_undoes : Cond.code yL_undoes cL_undoes 13 (some .boolean) ∈ lw_g := lw_g_of (List.mem_append_right _ (List.mem_of_getElem? (i := 396) (by decide +kernel))) (by decide +kernel)
theorem ws_L_undoes : Cond.static yL_undoes ∈ lw_g := lw_g_of (List.mem_append_right _ (List.mem_of_getElem? (i := 395) (by decide +kernel))) (by decide +kernel)
abbrev M_X0_init : sv_M := (yX0_init, cX0_init, 1, none)
theorem wc_X0_init : Cond.code yX0_init cX0_init 1 none ∈ lw_g := lw_g_of (List.mem_append_right _ (List.mem_of_getElem? (i := 74) (by decide +kernel))) (by decide +kernel)
theorem wi_X0_init : Cond.instanceMethod yX0_init ∈ lw_g := lw_g_of (List.mem_append_right _ (List.mem_of_getElem? (i := 73) (by decide +kernel))) (by decide +kernel)
abbrev M_X1_addToValue : sv_M := (yX1_addToValue, cX1_addToValue, 6, (some .int))
theorem wc_X1_addToValue : Cond.code yX1_addToValue cX1_addToValue 6 (some .int) ∈ lw_g := lw_g_of (List.mem_append_right _ (List.mem_of_getElem? (i := 370) (by decide +kernel))) (by decide +kernel)
theorem wi_X1_addToValue : Cond.instanceMethod yX1_addToValue ∈ lw_g := lw_g_of (List.mem_append_right _ (List.mem_of_getElem? (i := 369) (by decide +kernel))) (by decide +kernel)
abbrev M_X1_commitTransaction : sv_M := (yX1_commitTransaction, cX1_commitTransaction, 5, (some .int))
theorem wc_X1_commitTransaction : Cond.code yX1_commitTransaction cX1_commitTransaction 5 (some .int) ∈ lw_g := lw_g_of (List.mem_append_right _ (List.mem_of_getElem? (i := 439) (by decide +kernel))) (by decide +kernel)
theorem wi_X1_commitTransaction : Cond.instanceMethod yX1_commitTransaction ∈ lw_g := lw_g_of (List.mem_append_right _ (List.mem_of_getElem? (i := 438) (by decide +kernel))) (by decide +kernel)
abbrev M_X1_committedValue : sv_M := (yX1_committedValue, cX1_committedValue, 4, (some .int))
theorem wc_X1_committedValue : Cond.code yX1_committedValue cX1_committedValue 4 (some .int) ∈ lw_g := lw_g_of (List.mem_append_right _ (List.mem_of_getElem? (i := 133) (by decide +kernel))) (by decide +kernel)
theorem wi_X1_committedValue : Cond.instanceMethod yX1_committedValue ∈ lw_g := lw_g_of (List.mem_append_right _ (List.mem_of_getElem? (i := 132) (by decide +kernel))) (by decide +kernel)
abbrev M_X1_copyFrom : sv_M := (yX1_copyFrom, cX1_copyFrom, 3, none)
theorem wc_X1_copyFrom : Cond.code yX1_copyFrom cX1_copyFrom 3 none ∈ lw_g := lw_g_of (List.mem_append_right _ (List.mem_of_getElem? (i := 264) (by decide +kernel))) (by decide +kernel)
theorem wi_X1_copyFrom : Cond.instanceMethod yX1_copyFrom ∈ lw_g := lw_g_of (List.mem_append_right _ (List.mem_of_getElem? (i := 263) (by decide +kernel))) (by decide +kernel)
abbrev M_X1_endStatement : sv_M := (yX1_endStatement, cX1_endStatement, 5, (some .int))
theorem wc_X1_endStatement : Cond.code yX1_endStatement cX1_endStatement 5 (some .int) ∈ lw_g := lw_g_of (List.mem_append_right _ (List.mem_of_getElem? (i := 299) (by decide +kernel))) (by decide +kernel)
theorem wi_X1_endStatement : Cond.instanceMethod yX1_endStatement ∈ lw_g := lw_g_of (List.mem_append_right _ (List.mem_of_getElem? (i := 298) (by decide +kernel))) (by decide +kernel)
abbrev M_X1_eraseKey : sv_M := (yX1_eraseKey, cX1_eraseKey, 4, (some .int))
theorem wc_X1_eraseKey : Cond.code yX1_eraseKey cX1_eraseKey 4 (some .int) ∈ lw_g := lw_g_of (List.mem_append_right _ (List.mem_of_getElem? (i := 337) (by decide +kernel))) (by decide +kernel)
theorem wi_X1_eraseKey : Cond.instanceMethod yX1_eraseKey ∈ lw_g := lw_g_of (List.mem_append_right _ (List.mem_of_getElem? (i := 336) (by decide +kernel))) (by decide +kernel)
abbrev M_X1_hasSavepoint : sv_M := (yX1_hasSavepoint, cX1_hasSavepoint, 3, (some .boolean))
theorem wc_X1_hasSavepoint : Cond.code yX1_hasSavepoint cX1_hasSavepoint 3 (some .boolean) ∈ lw_g := lw_g_of (List.mem_append_right _ (List.mem_of_getElem? (i := 194) (by decide +kernel))) (by decide +kernel)
theorem wi_X1_hasSavepoint : Cond.instanceMethod yX1_hasSavepoint ∈ lw_g := lw_g_of (List.mem_append_right _ (List.mem_of_getElem? (i := 193) (by decide +kernel))) (by decide +kernel)
abbrev M_X1_init : sv_M := (yX1_init, cX1_init, 2, none)
theorem wc_X1_init : Cond.code yX1_init cX1_init 2 none ∈ lw_g := lw_g_of (List.mem_append_right _ (List.mem_of_getElem? (i := 20) (by decide +kernel))) (by decide +kernel)
theorem wi_X1_init : Cond.instanceMethod yX1_init ∈ lw_g := lw_g_of (List.mem_append_right _ (List.mem_of_getElem? (i := 19) (by decide +kernel))) (by decide +kernel)
abbrev M_X1_isBusy : sv_M := (yX1_isBusy, cX1_isBusy, 6, (some .boolean))
theorem wc_X1_isBusy : Cond.code yX1_isBusy cX1_isBusy 6 (some .boolean) ∈ lw_g := lw_g_of (List.mem_append_right _ (List.mem_of_getElem? (i := 240) (by decide +kernel))) (by decide +kernel)
theorem wi_X1_isBusy : Cond.instanceMethod yX1_isBusy ∈ lw_g := lw_g_of (List.mem_append_right _ (List.mem_of_getElem? (i := 239) (by decide +kernel))) (by decide +kernel)
abbrev M_X1_moveAmount : sv_M := (yX1_moveAmount, cX1_moveAmount, 8, (some .int))
theorem wc_X1_moveAmount : Cond.code yX1_moveAmount cX1_moveAmount 8 (some .int) ∈ lw_g := lw_g_of (List.mem_append_right _ (List.mem_of_getElem? (i := 378) (by decide +kernel))) (by decide +kernel)
theorem wi_X1_moveAmount : Cond.instanceMethod yX1_moveAmount ∈ lw_g := lw_g_of (List.mem_append_right _ (List.mem_of_getElem? (i := 377) (by decide +kernel))) (by decide +kernel)
abbrev M_X1_openTransaction : sv_M := (yX1_openTransaction, cX1_openTransaction, 4, (some .int))
theorem wc_X1_openTransaction : Cond.code yX1_openTransaction cX1_openTransaction 4 (some .int) ∈ lw_g := lw_g_of (List.mem_append_right _ (List.mem_of_getElem? (i := 459) (by decide +kernel))) (by decide +kernel)
theorem wi_X1_openTransaction : Cond.instanceMethod yX1_openTransaction ∈ lw_g := lw_g_of (List.mem_append_right _ (List.mem_of_getElem? (i := 458) (by decide +kernel))) (by decide +kernel)
abbrev M_X1_readKey : sv_M := (yX1_readKey, cX1_readKey, 5, (some .int))
theorem wc_X1_readKey : Cond.code yX1_readKey cX1_readKey 5 (some .int) ∈ lw_g := lw_g_of (List.mem_append_right _ (List.mem_of_getElem? (i := 276) (by decide +kernel))) (by decide +kernel)
theorem wi_X1_readKey : Cond.instanceMethod yX1_readKey ∈ lw_g := lw_g_of (List.mem_append_right _ (List.mem_of_getElem? (i := 275) (by decide +kernel))) (by decide +kernel)
abbrev M_X1_releaseName : sv_M := (yX1_releaseName, cX1_releaseName, 6, (some .int))
theorem wc_X1_releaseName : Cond.code yX1_releaseName cX1_releaseName 6 (some .int) ∈ lw_g := lw_g_of (List.mem_append_right _ (List.mem_of_getElem? (i := 418) (by decide +kernel))) (by decide +kernel)
theorem wi_X1_releaseName : Cond.instanceMethod yX1_releaseName ∈ lw_g := lw_g_of (List.mem_append_right _ (List.mem_of_getElem? (i := 417) (by decide +kernel))) (by decide +kernel)
abbrev M_X1_replaceValue : sv_M := (yX1_replaceValue, cX1_replaceValue, 5, (some .int))
theorem wc_X1_replaceValue : Cond.code yX1_replaceValue cX1_replaceValue 5 (some .int) ∈ lw_g := lw_g_of (List.mem_append_right _ (List.mem_of_getElem? (i := 341) (by decide +kernel))) (by decide +kernel)
theorem wi_X1_replaceValue : Cond.instanceMethod yX1_replaceValue ∈ lw_g := lw_g_of (List.mem_append_right _ (List.mem_of_getElem? (i := 340) (by decide +kernel))) (by decide +kernel)
abbrev M_X1_rollTransactionBack : sv_M := (yX1_rollTransactionBack, cX1_rollTransactionBack, 4, (some .int))
theorem wc_X1_rollTransactionBack : Cond.code yX1_rollTransactionBack cX1_rollTransactionBack 4 (some .int) ∈ lw_g := lw_g_of (List.mem_append_right _ (List.mem_of_getElem? (i := 451) (by decide +kernel))) (by decide +kernel)
theorem wi_X1_rollTransactionBack : Cond.instanceMethod yX1_rollTransactionBack ∈ lw_g := lw_g_of (List.mem_append_right _ (List.mem_of_getElem? (i := 450) (by decide +kernel))) (by decide +kernel)
abbrev M_X1_savepointOrError : sv_M := (yX1_savepointOrError, cX1_savepointOrError, 5, (some .int))
theorem wc_X1_savepointOrError : Cond.code yX1_savepointOrError cX1_savepointOrError 5 (some .int) ∈ lw_g := lw_g_of (List.mem_append_right _ (List.mem_of_getElem? (i := 408) (by decide +kernel))) (by decide +kernel)
theorem wi_X1_savepointOrError : Cond.instanceMethod yX1_savepointOrError ∈ lw_g := lw_g_of (List.mem_append_right _ (List.mem_of_getElem? (i := 407) (by decide +kernel))) (by decide +kernel)
abbrev M_X1_setSavepoint : sv_M := (yX1_setSavepoint, cX1_setSavepoint, 6, (some .int))
theorem wc_X1_setSavepoint : Cond.code yX1_setSavepoint cX1_setSavepoint 6 (some .int) ∈ lw_g := lw_g_of (List.mem_append_right _ (List.mem_of_getElem? (i := 392) (by decide +kernel))) (by decide +kernel)
theorem wi_X1_setSavepoint : Cond.instanceMethod yX1_setSavepoint ∈ lw_g := lw_g_of (List.mem_append_right _ (List.mem_of_getElem? (i := 391) (by decide +kernel))) (by decide +kernel)
abbrev M_X1_shiftKeys : sv_M := (yX1_shiftKeys, cX1_shiftKeys, 9, (some .int))
theorem wc_X1_shiftKeys : Cond.code yX1_shiftKeys cX1_shiftKeys 9 (some .int) ∈ lw_g := lw_g_of (List.mem_append_right _ (List.mem_of_getElem? (i := 364) (by decide +kernel))) (by decide +kernel)
theorem wi_X1_shiftKeys : Cond.instanceMethod yX1_shiftKeys ∈ lw_g := lw_g_of (List.mem_append_right _ (List.mem_of_getElem? (i := 363) (by decide +kernel))) (by decide +kernel)
abbrev M_X1_takeLock : sv_M := (yX1_takeLock, cX1_takeLock, 4, (some .boolean))
theorem wc_X1_takeLock : Cond.code yX1_takeLock cX1_takeLock 4 (some .boolean) ∈ lw_g := lw_g_of (List.mem_append_right _ (List.mem_of_getElem? (i := 290) (by decide +kernel))) (by decide +kernel)
theorem wi_X1_takeLock : Cond.instanceMethod yX1_takeLock ∈ lw_g := lw_g_of (List.mem_append_right _ (List.mem_of_getElem? (i := 289) (by decide +kernel))) (by decide +kernel)
abbrev M_X1_undoToMoment : sv_M := (yX1_undoToMoment, cX1_undoToMoment, 6, (some .int))
theorem wc_X1_undoToMoment : Cond.code yX1_undoToMoment cX1_undoToMoment 6 (some .int) ∈ lw_g := lw_g_of (List.mem_append_right _ (List.mem_of_getElem? (i := 303) (by decide +kernel))) (by decide +kernel)
theorem wi_X1_undoToMoment : Cond.instanceMethod yX1_undoToMoment ∈ lw_g := lw_g_of (List.mem_append_right _ (List.mem_of_getElem? (i := 302) (by decide +kernel))) (by decide +kernel)
abbrev M_X1_undoToName : sv_M := (yX1_undoToName, cX1_undoToName, 6, (some .int))
theorem wc_X1_undoToName : Cond.code yX1_undoToName cX1_undoToName 6 (some .int) ∈ lw_g := lw_g_of (List.mem_append_right _ (List.mem_of_getElem? (i := 404) (by decide +kernel))) (by decide +kernel)
theorem wi_X1_undoToName : Cond.instanceMethod yX1_undoToName ∈ lw_g := lw_g_of (List.mem_append_right _ (List.mem_of_getElem? (i := 403) (by decide +kernel))) (by decide +kernel)
abbrev M_X1_valueCount : sv_M := (yX1_valueCount, cX1_valueCount, 3, (some .int))
theorem wc_X1_valueCount : Cond.code yX1_valueCount cX1_valueCount 3 (some .int) ∈ lw_g := lw_g_of (List.mem_append_right _ (List.mem_of_getElem? (i := 152) (by decide +kernel))) (by decide +kernel)
theorem wi_X1_valueCount : Cond.instanceMethod yX1_valueCount ∈ lw_g := lw_g_of (List.mem_append_right _ (List.mem_of_getElem? (i := 151) (by decide +kernel))) (by decide +kernel)
abbrev M_X1_valueSum : sv_M := (yX1_valueSum, cX1_valueSum, 3, (some .int))
theorem wc_X1_valueSum : Cond.code yX1_valueSum cX1_valueSum 3 (some .int) ∈ lw_g := lw_g_of (List.mem_append_right _ (List.mem_of_getElem? (i := 156) (by decide +kernel))) (by decide +kernel)
theorem wi_X1_valueSum : Cond.instanceMethod yX1_valueSum ∈ lw_g := lw_g_of (List.mem_append_right _ (List.mem_of_getElem? (i := 155) (by decide +kernel))) (by decide +kernel)
abbrev M_X1_whyImpossible : sv_M := (yX1_whyImpossible, cX1_whyImpossible, 4, (some .int))
theorem wc_X1_whyImpossible : Cond.code yX1_whyImpossible cX1_whyImpossible 4 (some .int) ∈ lw_g := lw_g_of (List.mem_append_right _ (List.mem_of_getElem? (i := 281) (by decide +kernel))) (by decide +kernel)
theorem wi_X1_whyImpossible : Cond.instanceMethod yX1_whyImpossible ∈ lw_g := lw_g_of (List.mem_append_right _ (List.mem_of_getElem? (i := 280) (by decide +kernel))) (by decide +kernel)
abbrev M_X1_writeKey : sv_M := (yX1_writeKey, cX1_writeKey, 5, (some .int))
theorem wc_X1_writeKey : Cond.code yX1_writeKey cX1_writeKey 5 (some .int) ∈ lw_g := lw_g_of (List.mem_append_right _ (List.mem_of_getElem? (i := 353) (by decide +kernel))) (by decide +kernel)
theorem wi_X1_writeKey : Cond.instanceMethod yX1_writeKey ∈ lw_g := lw_g_of (List.mem_append_right _ (List.mem_of_getElem? (i := 352) (by decide +kernel))) (by decide +kernel)
abbrev M_X2_addMoment : sv_M := (yX2_addMoment, cX2_addMoment, 1, none)
theorem wc_X2_addMoment : Cond.code yX2_addMoment cX2_addMoment 1 none ∈ lw_g := lw_g_of (List.mem_append_right _ (List.mem_of_getElem? (i := 286) (by decide +kernel))) (by decide +kernel)
theorem wi_X2_addMoment : Cond.instanceMethod yX2_addMoment ∈ lw_g := lw_g_of (List.mem_append_right _ (List.mem_of_getElem? (i := 285) (by decide +kernel))) (by decide +kernel)
abbrev M_X2_close : sv_M := (yX2_close, cX2_close, 1, none)
theorem wc_X2_close : Cond.code yX2_close cX2_close 1 none ∈ lw_g := lw_g_of (List.mem_append_right _ (List.mem_of_getElem? (i := 443) (by decide +kernel))) (by decide +kernel)
theorem wi_X2_close : Cond.instanceMethod yX2_close ∈ lw_g := lw_g_of (List.mem_append_right _ (List.mem_of_getElem? (i := 442) (by decide +kernel))) (by decide +kernel)
abbrev M_X2_copyFrom : sv_M := (yX2_copyFrom, cX2_copyFrom, 3, none)
theorem wc_X2_copyFrom : Cond.code yX2_copyFrom cX2_copyFrom 3 none ∈ lw_g := lw_g_of (List.mem_append_right _ (List.mem_of_getElem? (i := 271) (by decide +kernel))) (by decide +kernel)
theorem wi_X2_copyFrom : Cond.instanceMethod yX2_copyFrom ∈ lw_g := lw_g_of (List.mem_append_right _ (List.mem_of_getElem? (i := 270) (by decide +kernel))) (by decide +kernel)
abbrev M_X2_dropMomentsAfter : sv_M := (yX2_dropMomentsAfter, cX2_dropMomentsAfter, 4, none)
theorem wc_X2_dropMomentsAfter : Cond.code yX2_dropMomentsAfter cX2_dropMomentsAfter 4 none ∈ lw_g := lw_g_of (List.mem_append_right _ (List.mem_of_getElem? (i := 315) (by decide +kernel))) (by decide +kernel)
theorem wi_X2_dropMomentsAfter : Cond.instanceMethod yX2_dropMomentsAfter ∈ lw_g := lw_g_of (List.mem_append_right _ (List.mem_of_getElem? (i := 314) (by decide +kernel))) (by decide +kernel)
abbrev M_X2_forgetChangesSince : sv_M := (yX2_forgetChangesSince, cX2_forgetChangesSince, 3, none)
theorem wc_X2_forgetChangesSince : Cond.code yX2_forgetChangesSince cX2_forgetChangesSince 3 none ∈ lw_g := lw_g_of (List.mem_append_right _ (List.mem_of_getElem? (i := 307) (by decide +kernel))) (by decide +kernel)
theorem wi_X2_forgetChangesSince : Cond.instanceMethod yX2_forgetChangesSince ∈ lw_g := lw_g_of (List.mem_append_right _ (List.mem_of_getElem? (i := 306) (by decide +kernel))) (by decide +kernel)
abbrev M_X2_init : sv_M := (yX2_init, cX2_init, 1, none)
theorem wc_X2_init : Cond.code yX2_init cX2_init 1 none ∈ lw_g := lw_g_of (List.mem_append_right _ (List.mem_of_getElem? (i := 27) (by decide +kernel))) (by decide +kernel)
theorem wi_X2_init : Cond.instanceMethod yX2_init ∈ lw_g := lw_g_of (List.mem_append_right _ (List.mem_of_getElem? (i := 26) (by decide +kernel))) (by decide +kernel)
abbrev M_X2_isOpen : sv_M := (yX2_isOpen, cX2_isOpen, 1, (some .boolean))
theorem wc_X2_isOpen : Cond.code yX2_isOpen cX2_isOpen 1 (some .boolean) ∈ lw_g := lw_g_of (List.mem_append_right _ (List.mem_of_getElem? (i := 167) (by decide +kernel))) (by decide +kernel)
theorem wi_X2_isOpen : Cond.instanceMethod yX2_isOpen ∈ lw_g := lw_g_of (List.mem_append_right _ (List.mem_of_getElem? (i := 166) (by decide +kernel))) (by decide +kernel)
abbrev M_X2_keysChangedSince : sv_M := (yX2_keysChangedSince, cX2_keysChangedSince, 4, (some .int))
theorem wc_X2_keysChangedSince : Cond.code yX2_keysChangedSince cX2_keysChangedSince 4 (some .int) ∈ lw_g := lw_g_of (List.mem_append_right _ (List.mem_of_getElem? (i := 175) (by decide +kernel))) (by decide +kernel)
theorem wi_X2_keysChangedSince : Cond.instanceMethod yX2_keysChangedSince ∈ lw_g := lw_g_of (List.mem_append_right _ (List.mem_of_getElem? (i := 174) (by decide +kernel))) (by decide +kernel)
abbrev M_X2_lockCount : sv_M := (yX2_lockCount, cX2_lockCount, 4, (some .int))
theorem wc_X2_lockCount : Cond.code yX2_lockCount cX2_lockCount 4 (some .int) ∈ lw_g := lw_g_of (List.mem_append_right _ (List.mem_of_getElem? (i := 185) (by decide +kernel))) (by decide +kernel)
theorem wi_X2_lockCount : Cond.instanceMethod yX2_lockCount ∈ lw_g := lw_g_of (List.mem_append_right _ (List.mem_of_getElem? (i := 184) (by decide +kernel))) (by decide +kernel)
abbrev M_X2_lockMode : sv_M := (yX2_lockMode, cX2_lockMode, 2, (some .int))
theorem wc_X2_lockMode : Cond.code yX2_lockMode cX2_lockMode 2 (some .int) ∈ lw_g := lw_g_of (List.mem_append_right _ (List.mem_of_getElem? (i := 125) (by decide +kernel))) (by decide +kernel)
theorem wi_X2_lockMode : Cond.instanceMethod yX2_lockMode ∈ lw_g := lw_g_of (List.mem_append_right _ (List.mem_of_getElem? (i := 124) (by decide +kernel))) (by decide +kernel)
abbrev M_X2_locksChangedSince : sv_M := (yX2_locksChangedSince, cX2_locksChangedSince, 5, (some .int))
theorem wc_X2_locksChangedSince : Cond.code yX2_locksChangedSince cX2_locksChangedSince 5 (some .int) ∈ lw_g := lw_g_of (List.mem_append_right _ (List.mem_of_getElem? (i := 203) (by decide +kernel))) (by decide +kernel)
theorem wi_X2_locksChangedSince : Cond.instanceMethod yX2_locksChangedSince ∈ lw_g := lw_g_of (List.mem_append_right _ (List.mem_of_getElem? (i := 202) (by decide +kernel))) (by decide +kernel)
abbrev M_X2_nearestSavepoint : sv_M := (yX2_nearestSavepoint, cX2_nearestSavepoint, 3, (some .int))
theorem wc_X2_nearestSavepoint : Cond.code yX2_nearestSavepoint cX2_nearestSavepoint 3 (some .int) ∈ lw_g := lw_g_of (List.mem_append_right _ (List.mem_of_getElem? (i := 218) (by decide +kernel))) (by decide +kernel)
theorem wi_X2_nearestSavepoint : Cond.instanceMethod yX2_nearestSavepoint ∈ lw_g := lw_g_of (List.mem_append_right _ (List.mem_of_getElem? (i := 217) (by decide +kernel))) (by decide +kernel)
abbrev M_X2_noteChange : sv_M := (yX2_noteChange, cX2_noteChange, 4, none)
theorem wc_X2_noteChange : Cond.code yX2_noteChange cX2_noteChange 4 none ∈ lw_g := lw_g_of (List.mem_append_right _ (List.mem_of_getElem? (i := 345) (by decide +kernel))) (by decide +kernel)
theorem wi_X2_noteChange : Cond.instanceMethod yX2_noteChange ∈ lw_g := lw_g_of (List.mem_append_right _ (List.mem_of_getElem? (i := 344) (by decide +kernel))) (by decide +kernel)
abbrev M_X2_noteChangeAt : sv_M := (yX2_noteChangeAt, cX2_noteChangeAt, 5, none)
theorem wc_X2_noteChangeAt : Cond.code yX2_noteChangeAt cX2_noteChangeAt 5 none ∈ lw_g := lw_g_of (List.mem_append_right _ (List.mem_of_getElem? (i := 319) (by decide +kernel))) (by decide +kernel)
theorem wi_X2_noteChangeAt : Cond.instanceMethod yX2_noteChangeAt ∈ lw_g := lw_g_of (List.mem_append_right _ (List.mem_of_getElem? (i := 318) (by decide +kernel))) (by decide +kernel)
abbrev M_X2_savepointCount : sv_M := (yX2_savepointCount, cX2_savepointCount, 1, (some .int))
theorem wc_X2_savepointCount : Cond.code yX2_savepointCount cX2_savepointCount 1 (some .int) ∈ lw_g := lw_g_of (List.mem_append_right _ (List.mem_of_getElem? (i := 171) (by decide +kernel))) (by decide +kernel)
theorem wi_X2_savepointCount : Cond.instanceMethod yX2_savepointCount ∈ lw_g := lw_g_of (List.mem_append_right _ (List.mem_of_getElem? (i := 170) (by decide +kernel))) (by decide +kernel)
abbrev M_X2_setLockMode : sv_M := (yX2_setLockMode, cX2_setLockMode, 4, none)
theorem wc_X2_setLockMode : Cond.code yX2_setLockMode cX2_setLockMode 4 none ∈ lw_g := lw_g_of (List.mem_append_right _ (List.mem_of_getElem? (i := 295) (by decide +kernel))) (by decide +kernel)
theorem wi_X2_setLockMode : Cond.instanceMethod yX2_setLockMode ∈ lw_g := lw_g_of (List.mem_append_right _ (List.mem_of_getElem? (i := 294) (by decide +kernel))) (by decide +kernel)
abbrev M_X2_undoLocks : sv_M := (yX2_undoLocks, cX2_undoLocks, 2, none)
theorem wc_X2_undoLocks : Cond.code yX2_undoLocks cX2_undoLocks 2 none ∈ lw_g := lw_g_of (List.mem_append_right _ (List.mem_of_getElem? (i := 311) (by decide +kernel))) (by decide +kernel)
theorem wi_X2_undoLocks : Cond.instanceMethod yX2_undoLocks ∈ lw_g := lw_g_of (List.mem_append_right _ (List.mem_of_getElem? (i := 310) (by decide +kernel))) (by decide +kernel)
abbrev M_X2_valueAt : sv_M := (yX2_valueAt, cX2_valueAt, 5, (some .int))
theorem wc_X2_valueAt : Cond.code yX2_valueAt cX2_valueAt 5 (some .int) ∈ lw_g := lw_g_of (List.mem_append_right _ (List.mem_of_getElem? (i := 137) (by decide +kernel))) (by decide +kernel)
theorem wi_X2_valueAt : Cond.instanceMethod yX2_valueAt ∈ lw_g := lw_g_of (List.mem_append_right _ (List.mem_of_getElem? (i := 136) (by decide +kernel))) (by decide +kernel)
abbrev M_X3_begin : sv_M := (yX3_begin, cX3_begin, 2, (some .int))
theorem wc_X3_begin : Cond.code yX3_begin cX3_begin 2 (some .int) ∈ lw_g := lw_g_of (List.mem_append_right _ (List.mem_of_getElem? (i := 455) (by decide +kernel))) (by decide +kernel)
theorem wi_X3_begin : Cond.instanceMethod yX3_begin ∈ lw_g := lw_g_of (List.mem_append_right _ (List.mem_of_getElem? (i := 453) (by decide +kernel))) (by decide +kernel)
abbrev M_X3_busyFor : sv_M := (yX3_busyFor, cX3_busyFor, 5, (some .int))
theorem wc_X3_busyFor : Cond.code yX3_busyFor cX3_busyFor 5 (some .int) ∈ lw_g := lw_g_of (List.mem_append_right _ (List.mem_of_getElem? (i := 236) (by decide +kernel))) (by decide +kernel)
theorem wi_X3_busyFor : Cond.instanceMethod yX3_busyFor ∈ lw_g := lw_g_of (List.mem_append_right _ (List.mem_of_getElem? (i := 234) (by decide +kernel))) (by decide +kernel)
abbrev M_X3_changedSince : sv_M := (yX3_changedSince, cX3_changedSince, 6, (some .int))
theorem wc_X3_changedSince : Cond.code yX3_changedSince cX3_changedSince 6 (some .int) ∈ lw_g := lw_g_of (List.mem_append_right _ (List.mem_of_getElem? (i := 190) (by decide +kernel))) (by decide +kernel)
theorem wi_X3_changedSince : Cond.instanceMethod yX3_changedSince ∈ lw_g := lw_g_of (List.mem_append_right _ (List.mem_of_getElem? (i := 188) (by decide +kernel))) (by decide +kernel)
abbrev M_X3_commit : sv_M := (yX3_commit, cX3_commit, 2, (some .int))
theorem wc_X3_commit : Cond.code yX3_commit cX3_commit 2 (some .int) ∈ lw_g := lw_g_of (List.mem_append_right _ (List.mem_of_getElem? (i := 435) (by decide +kernel))) (by decide +kernel)
theorem wi_X3_commit : Cond.instanceMethod yX3_commit ∈ lw_g := lw_g_of (List.mem_append_right _ (List.mem_of_getElem? (i := 433) (by decide +kernel))) (by decide +kernel)
abbrev M_X3_committed : sv_M := (yX3_committed, cX3_committed, 2, (some .int))
theorem wc_X3_committed : Cond.code yX3_committed cX3_committed 2 (some .int) ∈ lw_g := lw_g_of (List.mem_append_right _ (List.mem_of_getElem? (i := 129) (by decide +kernel))) (by decide +kernel)
theorem wi_X3_committed : Cond.instanceMethod yX3_committed ∈ lw_g := lw_g_of (List.mem_append_right _ (List.mem_of_getElem? (i := 127) (by decide +kernel))) (by decide +kernel)
abbrev M_X3_erase : sv_M := (yX3_erase, cX3_erase, 3, (some .int))
theorem wc_X3_erase : Cond.code yX3_erase cX3_erase 3 (some .int) ∈ lw_g := lw_g_of (List.mem_append_right _ (List.mem_of_getElem? (i := 333) (by decide +kernel))) (by decide +kernel)
theorem wi_X3_erase : Cond.instanceMethod yX3_erase ∈ lw_g := lw_g_of (List.mem_append_right _ (List.mem_of_getElem? (i := 331) (by decide +kernel))) (by decide +kernel)
abbrev M_X3_ifUndone : sv_M := (yX3_ifUndone, cX3_ifUndone, 5, (some .int))
theorem wc_X3_ifUndone : Cond.code yX3_ifUndone cX3_ifUndone 5 (some .int) ∈ lw_g := lw_g_of (List.mem_append_right _ (List.mem_of_getElem? (i := 422) (by decide +kernel))) (by decide +kernel)
theorem wi_X3_ifUndone : Cond.instanceMethod yX3_ifUndone ∈ lw_g := lw_g_of (List.mem_append_right _ (List.mem_of_getElem? (i := 420) (by decide +kernel))) (by decide +kernel)
abbrev M_X3_init : sv_M := (yX3_init, cX3_init, 2, none)
theorem wc_X3_init : Cond.code yX3_init cX3_init 2 none ∈ lw_g := lw_g_of (List.mem_append_right _ (List.mem_of_getElem? (i := 12) (by decide +kernel))) (by decide +kernel)
theorem wi_X3_init : Cond.instanceMethod yX3_init ∈ lw_g := lw_g_of (List.mem_append_right _ (List.mem_of_getElem? (i := 11) (by decide +kernel))) (by decide +kernel)
abbrev M_X3_isError : sv_M := (yX3_isError, cX3_isError, 1, (some .boolean))
theorem wc_X3_isError : Cond.code yX3_isError cX3_isError 1 (some .boolean) ∈ lw_g := lw_g_of (List.mem_append_right _ (List.mem_of_getElem? (i := 329) (by decide +kernel))) (by decide +kernel)
theorem ws_X3_isError : Cond.static yX3_isError ∈ lw_g := lw_g_of (List.mem_append_right _ (List.mem_of_getElem? (i := 328) (by decide +kernel))) (by decide +kernel)
abbrev M_X3_isKey : sv_M := (yX3_isKey, cX3_isKey, 1, (some .boolean))
theorem wc_X3_isKey : Cond.code yX3_isKey cX3_isKey 1 (some .boolean) ∈ lw_g := lw_g_of (List.mem_append_right _ (List.mem_of_getElem? (i := 121) (by decide +kernel))) (by decide +kernel)
theorem ws_X3_isKey : Cond.static yX3_isKey ∈ lw_g := lw_g_of (List.mem_append_right _ (List.mem_of_getElem? (i := 120) (by decide +kernel))) (by decide +kernel)
abbrev M_X3_isName : sv_M := (yX3_isName, cX3_isName, 1, (some .boolean))
theorem wc_X3_isName : Cond.code yX3_isName cX3_isName 1 (some .boolean) ∈ lw_g := lw_g_of (List.mem_append_right _ (List.mem_of_getElem? (i := 214) (by decide +kernel))) (by decide +kernel)
theorem ws_X3_isName : Cond.static yX3_isName ∈ lw_g := lw_g_of (List.mem_append_right _ (List.mem_of_getElem? (i := 213) (by decide +kernel))) (by decide +kernel)
abbrev M_X3_isSession : sv_M := (yX3_isSession, cX3_isSession, 1, (some .boolean))
theorem wc_X3_isSession : Cond.code yX3_isSession cX3_isSession 1 (some .boolean) ∈ lw_g := lw_g_of (List.mem_append_right _ (List.mem_of_getElem? (i := 118) (by decide +kernel))) (by decide +kernel)
theorem ws_X3_isSession : Cond.static yX3_isSession ∈ lw_g := lw_g_of (List.mem_append_right _ (List.mem_of_getElem? (i := 117) (by decide +kernel))) (by decide +kernel)
abbrev M_X3_isValue : sv_M := (yX3_isValue, cX3_isValue, 1, (some .boolean))
theorem wc_X3_isValue : Cond.code yX3_isValue cX3_isValue 1 (some .boolean) ∈ lw_g := lw_g_of (List.mem_append_right _ (List.mem_of_getElem? (i := 356) (by decide +kernel))) (by decide +kernel)
theorem ws_X3_isValue : Cond.static yX3_isValue ∈ lw_g := lw_g_of (List.mem_append_right _ (List.mem_of_getElem? (i := 355) (by decide +kernel))) (by decide +kernel)
abbrev M_X3_keep : sv_M := (yX3_keep, cX3_keep, 3, (some .int))
theorem wc_X3_keep : Cond.code yX3_keep cX3_keep 3 (some .int) ∈ lw_g := lw_g_of (List.mem_append_right _ (List.mem_of_getElem? (i := 428) (by decide +kernel))) (by decide +kernel)
theorem wi_X3_keep : Cond.instanceMethod yX3_keep ∈ lw_g := lw_g_of (List.mem_append_right _ (List.mem_of_getElem? (i := 426) (by decide +kernel))) (by decide +kernel)
abbrev M_X3_mean : sv_M := (yX3_mean, cX3_mean, 2, (some .double))
theorem wc_X3_mean : Cond.code yX3_mean cX3_mean 2 (some .double) ∈ lw_g := lw_g_of (List.mem_append_right _ (List.mem_of_getElem? (i := 148) (by decide +kernel))) (by decide +kernel)
theorem wi_X3_mean : Cond.instanceMethod yX3_mean ∈ lw_g := lw_g_of (List.mem_append_right _ (List.mem_of_getElem? (i := 146) (by decide +kernel))) (by decide +kernel)
abbrev M_X3_mode : sv_M := (yX3_mode, cX3_mode, 3, (some .int))
theorem wc_X3_mode : Cond.code yX3_mode cX3_mode 3 (some .int) ∈ lw_g := lw_g_of (List.mem_append_right _ (List.mem_of_getElem? (i := 115) (by decide +kernel))) (by decide +kernel)
theorem wi_X3_mode : Cond.instanceMethod yX3_mode ∈ lw_g := lw_g_of (List.mem_append_right _ (List.mem_of_getElem? (i := 113) (by decide +kernel))) (by decide +kernel)
abbrev M_X3_momentOf : sv_M := (yX3_momentOf, cX3_momentOf, 1, (some .int))
theorem wc_X3_momentOf : Cond.code yX3_momentOf cX3_momentOf 1 (some .int) ∈ lw_g := lw_g_of (List.mem_append_right _ (List.mem_of_getElem? (i := 199) (by decide +kernel))) (by decide +kernel)
theorem ws_X3_momentOf : Cond.static yX3_momentOf ∈ lw_g := lw_g_of (List.mem_append_right _ (List.mem_of_getElem? (i := 198) (by decide +kernel))) (by decide +kernel)
abbrev M_X3_move : sv_M := (yX3_move, cX3_move, 5, (some .int))
theorem wc_X3_move : Cond.code yX3_move cX3_move 5 (some .int) ∈ lw_g := lw_g_of (List.mem_append_right _ (List.mem_of_getElem? (i := 374) (by decide +kernel))) (by decide +kernel)
theorem wi_X3_move : Cond.instanceMethod yX3_move ∈ lw_g := lw_g_of (List.mem_append_right _ (List.mem_of_getElem? (i := 372) (by decide +kernel))) (by decide +kernel)
abbrev M_X3_nameOf : sv_M := (yX3_nameOf, cX3_nameOf, 3, (some .int))
theorem wc_X3_nameOf : Cond.code yX3_nameOf cX3_nameOf 3 (some .int) ∈ lw_g := lw_g_of (List.mem_append_right _ (List.mem_of_getElem? (i := 207) (by decide +kernel))) (by decide +kernel)
theorem wi_X3_nameOf : Cond.instanceMethod yX3_nameOf ∈ lw_g := lw_g_of (List.mem_append_right _ (List.mem_of_getElem? (i := 205) (by decide +kernel))) (by decide +kernel)
abbrev M_X3_nearest : sv_M := (yX3_nearest, cX3_nearest, 3, (some .int))
theorem wc_X3_nearest : Cond.code yX3_nearest cX3_nearest 3 (some .int) ∈ lw_g := lw_g_of (List.mem_append_right _ (List.mem_of_getElem? (i := 211) (by decide +kernel))) (by decide +kernel)
theorem wi_X3_nearest : Cond.instanceMethod yX3_nearest ∈ lw_g := lw_g_of (List.mem_append_right _ (List.mem_of_getElem? (i := 209) (by decide +kernel))) (by decide +kernel)
abbrev M_X3_read : sv_M := (yX3_read, cX3_read, 3, (some .int))
theorem wc_X3_read : Cond.code yX3_read cX3_read 3 (some .int) ∈ lw_g := lw_g_of (List.mem_append_right _ (List.mem_of_getElem? (i := 252) (by decide +kernel))) (by decide +kernel)
theorem wi_X3_read : Cond.instanceMethod yX3_read ∈ lw_g := lw_g_of (List.mem_append_right _ (List.mem_of_getElem? (i := 250) (by decide +kernel))) (by decide +kernel)
abbrev M_X3_recordUnlessError : sv_M := (yX3_recordUnlessError, cX3_recordUnlessError, 2, (some .int))
theorem wc_X3_recordUnlessError : Cond.code yX3_recordUnlessError cX3_recordUnlessError 2 (some .int) ∈ lw_g := lw_g_of (List.mem_append_right _ (List.mem_of_getElem? (i := 326) (by decide +kernel))) (by decide +kernel)
theorem wi_X3_recordUnlessError : Cond.instanceMethod yX3_recordUnlessError ∈ lw_g := lw_g_of (List.mem_append_right _ (List.mem_of_getElem? (i := 325) (by decide +kernel))) (by decide +kernel)
abbrev M_X3_release : sv_M := (yX3_release, cX3_release, 3, (some .int))
theorem wc_X3_release : Cond.code yX3_release cX3_release 3 (some .int) ∈ lw_g := lw_g_of (List.mem_append_right _ (List.mem_of_getElem? (i := 414) (by decide +kernel))) (by decide +kernel)
theorem wi_X3_release : Cond.instanceMethod yX3_release ∈ lw_g := lw_g_of (List.mem_append_right _ (List.mem_of_getElem? (i := 412) (by decide +kernel))) (by decide +kernel)
abbrev M_X3_rememberState : sv_M := (yX3_rememberState, cX3_rememberState, 1, none)
theorem wc_X3_rememberState : Cond.code yX3_rememberState cX3_rememberState 1 none ∈ lw_g := lw_g_of (List.mem_append_right _ (List.mem_of_getElem? (i := 256) (by decide +kernel))) (by decide +kernel)
theorem wi_X3_rememberState : Cond.instanceMethod yX3_rememberState ∈ lw_g := lw_g_of (List.mem_append_right _ (List.mem_of_getElem? (i := 255) (by decide +kernel))) (by decide +kernel)
abbrev M_X3_rollback : sv_M := (yX3_rollback, cX3_rollback, 2, (some .int))
theorem wc_X3_rollback : Cond.code yX3_rollback cX3_rollback 2 (some .int) ∈ lw_g := lw_g_of (List.mem_append_right _ (List.mem_of_getElem? (i := 447) (by decide +kernel))) (by decide +kernel)
theorem wi_X3_rollback : Cond.instanceMethod yX3_rollback ∈ lw_g := lw_g_of (List.mem_append_right _ (List.mem_of_getElem? (i := 445) (by decide +kernel))) (by decide +kernel)
abbrev M_X3_savepoint : sv_M := (yX3_savepoint, cX3_savepoint, 3, (some .int))
theorem wc_X3_savepoint : Cond.code yX3_savepoint cX3_savepoint 3 (some .int) ∈ lw_g := lw_g_of (List.mem_append_right _ (List.mem_of_getElem? (i := 388) (by decide +kernel))) (by decide +kernel)
theorem wi_X3_savepoint : Cond.instanceMethod yX3_savepoint ∈ lw_g := lw_g_of (List.mem_append_right _ (List.mem_of_getElem? (i := 386) (by decide +kernel))) (by decide +kernel)
abbrev M_X3_session : sv_M := (yX3_session, cX3_session, 4, (some .int))
theorem wc_X3_session : Cond.code yX3_session cX3_session 4 (some .int) ∈ lw_g := lw_g_of (List.mem_append_right _ (List.mem_of_getElem? (i := 163) (by decide +kernel))) (by decide +kernel)
theorem wi_X3_session : Cond.instanceMethod yX3_session ∈ lw_g := lw_g_of (List.mem_append_right _ (List.mem_of_getElem? (i := 161) (by decide +kernel))) (by decide +kernel)
abbrev M_X3_shift : sv_M := (yX3_shift, cX3_shift, 4, (some .int))
theorem wc_X3_shift : Cond.code yX3_shift cX3_shift 4 (some .int) ∈ lw_g := lw_g_of (List.mem_append_right _ (List.mem_of_getElem? (i := 360) (by decide +kernel))) (by decide +kernel)
theorem wi_X3_shift : Cond.instanceMethod yX3_shift ∈ lw_g := lw_g_of (List.mem_append_right _ (List.mem_of_getElem? (i := 358) (by decide +kernel))) (by decide +kernel)
abbrev M_X3_slotBehindHistory : sv_M := (yX3_slotBehindHistory, cX3_slotBehindHistory, 1, (some .int))
theorem wc_X3_slotBehindHistory : Cond.code yX3_slotBehindHistory cX3_slotBehindHistory 1 (some .int) ∈ lw_g := lw_g_of (List.mem_append_right _ (List.mem_of_getElem? (i := 260) (by decide +kernel))) (by decide +kernel)
theorem wi_X3_slotBehindHistory : Cond.instanceMethod yX3_slotBehindHistory ∈ lw_g := lw_g_of (List.mem_append_right _ (List.mem_of_getElem? (i := 259) (by decide +kernel))) (by decide +kernel)
abbrev M_X3_total : sv_M := (yX3_total, cX3_total, 2, (some .int))
theorem wc_X3_total : Cond.code yX3_total cX3_total 2 (some .int) ∈ lw_g := lw_g_of (List.mem_append_right _ (List.mem_of_getElem? (i := 245) (by decide +kernel))) (by decide +kernel)
theorem wi_X3_total : Cond.instanceMethod yX3_total ∈ lw_g := lw_g_of (List.mem_append_right _ (List.mem_of_getElem? (i := 243) (by decide +kernel))) (by decide +kernel)
abbrev M_X3_undoTo : sv_M := (yX3_undoTo, cX3_undoTo, 3, (some .int))
theorem wc_X3_undoTo : Cond.code yX3_undoTo cX3_undoTo 3 (some .int) ∈ lw_g := lw_g_of (List.mem_append_right _ (List.mem_of_getElem? (i := 400) (by decide +kernel))) (by decide +kernel)
theorem wi_X3_undoTo : Cond.instanceMethod yX3_undoTo ∈ lw_g := lw_g_of (List.mem_append_right _ (List.mem_of_getElem? (i := 398) (by decide +kernel))) (by decide +kernel)
abbrev M_X3_value : sv_M := (yX3_value, cX3_value, 2, (some .int))
theorem wc_X3_value : Cond.code yX3_value cX3_value 2 (some .int) ∈ lw_g := lw_g_of (List.mem_append_right _ (List.mem_of_getElem? (i := 144) (by decide +kernel))) (by decide +kernel)
theorem wi_X3_value : Cond.instanceMethod yX3_value ∈ lw_g := lw_g_of (List.mem_append_right _ (List.mem_of_getElem? (i := 142) (by decide +kernel))) (by decide +kernel)
abbrev M_X3_write : sv_M := (yX3_write, cX3_write, 4, (some .int))
theorem wc_X3_write : Cond.code yX3_write cX3_write 4 (some .int) ∈ lw_g := lw_g_of (List.mem_append_right _ (List.mem_of_getElem? (i := 349) (by decide +kernel))) (by decide +kernel)
theorem wi_X3_write : Cond.instanceMethod yX3_write ∈ lw_g := lw_g_of (List.mem_append_right _ (List.mem_of_getElem? (i := 347) (by decide +kernel))) (by decide +kernel)
theorem wn_X0 : Cond.initialized RX0 ∈ lw_g := lw_g_of (List.mem_append_right _ (List.mem_of_getElem? (i := 4) (by decide +kernel))) (by decide +kernel)
theorem wn_X1 : Cond.initialized RX1 ∈ lw_g := lw_g_of (List.mem_append_right _ (List.mem_of_getElem? (i := 2) (by decide +kernel))) (by decide +kernel)
theorem wn_X2 : Cond.initialized RX2 ∈ lw_g := lw_g_of (List.mem_append_right _ (List.mem_of_getElem? (i := 3) (by decide +kernel))) (by decide +kernel)
theorem wn_X3 : Cond.initialized RX3 ∈ lw_g := lw_g_of (List.mem_append_right _ (List.mem_of_getElem? (i := 1) (by decide +kernel))) (by decide +kernel)
theorem wn_L : Cond.initialized RL ∈ lw_g := lw_g_of (List.mem_append_right _ (List.mem_of_getElem? (i := 0) (by decide +kernel))) (by decide +kernel)
theorem wn_J6 : Cond.initialized RJ6 ∈ lw_g := lw_g_of (List.mem_append_right _ (List.mem_of_getElem? (i := 6) (by decide +kernel))) (by decide +kernel)
theorem wn_J9 : Cond.initialized RJ9 ∈ lw_g := lw_g_of (List.mem_append_right _ (List.mem_of_getElem? (i := 5) (by decide +kernel))) (by decide +kernel)
theorem wn_J10 : Cond.initialized RJ10 ∈ lw_g := lw_g_of (List.mem_append_right _ (List.mem_of_getElem? (i := 7) (by decide +kernel))) (by decide +kernel)
theorem mw_J6_bitCount_0f7a4 : sv_MW M_J6_bitCount_0f7a4 := ⟨wc_J6_bitCount_0f7a4, wn_J6, Nat.le_of_ble_eq_true rfl, by decide +kernel, by decide +kernel⟩
theorem mw_J9_max_7cf53 : sv_MW M_J9_max_7cf53 := ⟨wc_J9_max_7cf53, wn_J9, Nat.le_of_ble_eq_true rfl, by decide +kernel, by decide +kernel⟩
theorem mw_J9_min_7cf53 : sv_MW M_J9_min_7cf53 := ⟨wc_J9_min_7cf53, wn_J9, Nat.le_of_ble_eq_true rfl, by decide +kernel, by decide +kernel⟩
theorem mw_L_act : sv_MW M_L_act := ⟨wc_L_act, wn_L, Nat.le_of_ble_eq_true rfl, by decide +kernel, by decide +kernel⟩
theorem mw_L_areValues : sv_MW M_L_areValues := ⟨wc_L_areValues, wn_L, Nat.le_of_ble_eq_true rfl, by decide +kernel, by decide +kernel⟩
theorem mw_L_cell : sv_MW M_L_cell := ⟨wc_L_cell, wn_L, Nat.le_of_ble_eq_true rfl, by decide +kernel, by decide +kernel⟩
theorem mw_L_closes : sv_MW M_L_closes := ⟨wc_L_closes, wn_L, Nat.le_of_ble_eq_true rfl, by decide +kernel, by decide +kernel⟩
theorem mw_L_doneBy : sv_MW M_L_doneBy := ⟨wc_L_doneBy, wn_L, Nat.le_of_ble_eq_true rfl, by decide +kernel, by decide +kernel⟩
theorem mw_L_holds : sv_MW M_L_holds := ⟨wc_L_holds, wn_L, Nat.le_of_ble_eq_true rfl, by decide +kernel, by decide +kernel⟩
theorem mw_L_isSession : sv_MW M_L_isSession := ⟨wc_L_isSession, wn_L, Nat.le_of_ble_eq_true rfl, by decide +kernel, by decide +kernel⟩
theorem mw_L_look : sv_MW M_L_look := ⟨wc_L_look, wn_L, Nat.le_of_ble_eq_true rfl, by decide +kernel, by decide +kernel⟩
theorem mw_L_low : sv_MW M_L_low := ⟨wc_L_low, wn_L, Nat.le_of_ble_eq_true rfl, by decide +kernel, by decide +kernel⟩
theorem mw_L_otherModes : sv_MW M_L_otherModes := ⟨wc_L_otherModes, wn_L, Nat.le_of_ble_eq_true rfl, by decide +kernel, by decide +kernel⟩
theorem mw_L_states : sv_MW M_L_states := ⟨wc_L_states, wn_L, Nat.le_of_ble_eq_true rfl, by decide +kernel, by decide +kernel⟩
theorem mw_L_undoes : sv_MW M_L_undoes := ⟨wc_L_undoes, wn_L, Nat.le_of_ble_eq_true rfl, by decide +kernel, by decide +kernel⟩
theorem mw_X0_init : sv_MW M_X0_init := ⟨wc_X0_init, wn_X0, Nat.le_of_ble_eq_true rfl, by decide +kernel, by decide +kernel⟩
theorem mw_X1_addToValue : sv_MW M_X1_addToValue := ⟨wc_X1_addToValue, wn_X1, Nat.le_of_ble_eq_true rfl, by decide +kernel, by decide +kernel⟩
theorem wv_X1_addToValue : Cond.selects yX1_addToValue.cls yX1_addToValue yX1_addToValue ∈ lw_g := lw_g_of (List.mem_append_left _ (by decide +kernel)) (by decide +kernel)
theorem mw_X1_commitTransaction : sv_MW M_X1_commitTransaction := ⟨wc_X1_commitTransaction, wn_X1, Nat.le_of_ble_eq_true rfl, by decide +kernel, by decide +kernel⟩
theorem wv_X1_commitTransaction : Cond.selects yX1_commitTransaction.cls yX1_commitTransaction yX1_commitTransaction ∈ lw_g := lw_g_of (List.mem_append_left _ (by decide +kernel)) (by decide +kernel)
theorem mw_X1_committedValue : sv_MW M_X1_committedValue := ⟨wc_X1_committedValue, wn_X1, Nat.le_of_ble_eq_true rfl, by decide +kernel, by decide +kernel⟩
theorem wv_X1_committedValue : Cond.selects yX1_committedValue.cls yX1_committedValue yX1_committedValue ∈ lw_g := lw_g_of (List.mem_append_left _ (by decide +kernel)) (by decide +kernel)
theorem mw_X1_copyFrom : sv_MW M_X1_copyFrom := ⟨wc_X1_copyFrom, wn_X1, Nat.le_of_ble_eq_true rfl, by decide +kernel, by decide +kernel⟩
theorem wv_X1_copyFrom : Cond.selects yX1_copyFrom.cls yX1_copyFrom yX1_copyFrom ∈ lw_g := lw_g_of (List.mem_append_left _ (by decide +kernel)) (by decide +kernel)
theorem mw_X1_endStatement : sv_MW M_X1_endStatement := ⟨wc_X1_endStatement, wn_X1, Nat.le_of_ble_eq_true rfl, by decide +kernel, by decide +kernel⟩
theorem wv_X1_endStatement : Cond.selects yX1_endStatement.cls yX1_endStatement yX1_endStatement ∈ lw_g := lw_g_of (List.mem_append_left _ (by decide +kernel)) (by decide +kernel)
theorem mw_X1_eraseKey : sv_MW M_X1_eraseKey := ⟨wc_X1_eraseKey, wn_X1, Nat.le_of_ble_eq_true rfl, by decide +kernel, by decide +kernel⟩
theorem wv_X1_eraseKey : Cond.selects yX1_eraseKey.cls yX1_eraseKey yX1_eraseKey ∈ lw_g := lw_g_of (List.mem_append_left _ (by decide +kernel)) (by decide +kernel)
theorem mw_X1_hasSavepoint : sv_MW M_X1_hasSavepoint := ⟨wc_X1_hasSavepoint, wn_X1, Nat.le_of_ble_eq_true rfl, by decide +kernel, by decide +kernel⟩
theorem wv_X1_hasSavepoint : Cond.selects yX1_hasSavepoint.cls yX1_hasSavepoint yX1_hasSavepoint ∈ lw_g := lw_g_of (List.mem_append_left _ (by decide +kernel)) (by decide +kernel)
theorem mw_X1_init : sv_MW M_X1_init := ⟨wc_X1_init, wn_X1, Nat.le_of_ble_eq_true rfl, by decide +kernel, by decide +kernel⟩
theorem mw_X1_isBusy : sv_MW M_X1_isBusy := ⟨wc_X1_isBusy, wn_X1, Nat.le_of_ble_eq_true rfl, by decide +kernel, by decide +kernel⟩
theorem wv_X1_isBusy : Cond.selects yX1_isBusy.cls yX1_isBusy yX1_isBusy ∈ lw_g := lw_g_of (List.mem_append_left _ (by decide +kernel)) (by decide +kernel)
theorem mw_X1_moveAmount : sv_MW M_X1_moveAmount := ⟨wc_X1_moveAmount, wn_X1, Nat.le_of_ble_eq_true rfl, by decide +kernel, by decide +kernel⟩
theorem wv_X1_moveAmount : Cond.selects yX1_moveAmount.cls yX1_moveAmount yX1_moveAmount ∈ lw_g := lw_g_of (List.mem_append_left _ (by decide +kernel)) (by decide +kernel)
theorem mw_X1_openTransaction : sv_MW M_X1_openTransaction := ⟨wc_X1_openTransaction, wn_X1, Nat.le_of_ble_eq_true rfl, by decide +kernel, by decide +kernel⟩
theorem wv_X1_openTransaction : Cond.selects yX1_openTransaction.cls yX1_openTransaction yX1_openTransaction ∈ lw_g := lw_g_of (List.mem_append_left _ (by decide +kernel)) (by decide +kernel)
theorem mw_X1_readKey : sv_MW M_X1_readKey := ⟨wc_X1_readKey, wn_X1, Nat.le_of_ble_eq_true rfl, by decide +kernel, by decide +kernel⟩
theorem wv_X1_readKey : Cond.selects yX1_readKey.cls yX1_readKey yX1_readKey ∈ lw_g := lw_g_of (List.mem_append_left _ (by decide +kernel)) (by decide +kernel)
theorem mw_X1_releaseName : sv_MW M_X1_releaseName := ⟨wc_X1_releaseName, wn_X1, Nat.le_of_ble_eq_true rfl, by decide +kernel, by decide +kernel⟩
theorem wv_X1_releaseName : Cond.selects yX1_releaseName.cls yX1_releaseName yX1_releaseName ∈ lw_g := lw_g_of (List.mem_append_left _ (by decide +kernel)) (by decide +kernel)
theorem mw_X1_replaceValue : sv_MW M_X1_replaceValue := ⟨wc_X1_replaceValue, wn_X1, Nat.le_of_ble_eq_true rfl, by decide +kernel, by decide +kernel⟩
theorem wv_X1_replaceValue : Cond.selects yX1_replaceValue.cls yX1_replaceValue yX1_replaceValue ∈ lw_g := lw_g_of (List.mem_append_left _ (by decide +kernel)) (by decide +kernel)
theorem mw_X1_rollTransactionBack : sv_MW M_X1_rollTransactionBack := ⟨wc_X1_rollTransactionBack, wn_X1, Nat.le_of_ble_eq_true rfl, by decide +kernel, by decide +kernel⟩
theorem wv_X1_rollTransactionBack : Cond.selects yX1_rollTransactionBack.cls yX1_rollTransactionBack yX1_rollTransactionBack ∈ lw_g := lw_g_of (List.mem_append_left _ (by decide +kernel)) (by decide +kernel)
theorem mw_X1_savepointOrError : sv_MW M_X1_savepointOrError := ⟨wc_X1_savepointOrError, wn_X1, Nat.le_of_ble_eq_true rfl, by decide +kernel, by decide +kernel⟩
theorem wv_X1_savepointOrError : Cond.selects yX1_savepointOrError.cls yX1_savepointOrError yX1_savepointOrError ∈ lw_g := lw_g_of (List.mem_append_left _ (by decide +kernel)) (by decide +kernel)
theorem mw_X1_setSavepoint : sv_MW M_X1_setSavepoint := ⟨wc_X1_setSavepoint, wn_X1, Nat.le_of_ble_eq_true rfl, by decide +kernel, by decide +kernel⟩
theorem wv_X1_setSavepoint : Cond.selects yX1_setSavepoint.cls yX1_setSavepoint yX1_setSavepoint ∈ lw_g := lw_g_of (List.mem_append_left _ (by decide +kernel)) (by decide +kernel)
theorem mw_X1_shiftKeys : sv_MW M_X1_shiftKeys := ⟨wc_X1_shiftKeys, wn_X1, Nat.le_of_ble_eq_true rfl, by decide +kernel, by decide +kernel⟩
theorem wv_X1_shiftKeys : Cond.selects yX1_shiftKeys.cls yX1_shiftKeys yX1_shiftKeys ∈ lw_g := lw_g_of (List.mem_append_left _ (by decide +kernel)) (by decide +kernel)
theorem mw_X1_takeLock : sv_MW M_X1_takeLock := ⟨wc_X1_takeLock, wn_X1, Nat.le_of_ble_eq_true rfl, by decide +kernel, by decide +kernel⟩
theorem wv_X1_takeLock : Cond.selects yX1_takeLock.cls yX1_takeLock yX1_takeLock ∈ lw_g := lw_g_of (List.mem_append_left _ (by decide +kernel)) (by decide +kernel)
theorem mw_X1_undoToMoment : sv_MW M_X1_undoToMoment := ⟨wc_X1_undoToMoment, wn_X1, Nat.le_of_ble_eq_true rfl, by decide +kernel, by decide +kernel⟩
theorem wv_X1_undoToMoment : Cond.selects yX1_undoToMoment.cls yX1_undoToMoment yX1_undoToMoment ∈ lw_g := lw_g_of (List.mem_append_left _ (by decide +kernel)) (by decide +kernel)
theorem mw_X1_undoToName : sv_MW M_X1_undoToName := ⟨wc_X1_undoToName, wn_X1, Nat.le_of_ble_eq_true rfl, by decide +kernel, by decide +kernel⟩
theorem wv_X1_undoToName : Cond.selects yX1_undoToName.cls yX1_undoToName yX1_undoToName ∈ lw_g := lw_g_of (List.mem_append_left _ (by decide +kernel)) (by decide +kernel)
theorem mw_X1_valueCount : sv_MW M_X1_valueCount := ⟨wc_X1_valueCount, wn_X1, Nat.le_of_ble_eq_true rfl, by decide +kernel, by decide +kernel⟩
theorem wv_X1_valueCount : Cond.selects yX1_valueCount.cls yX1_valueCount yX1_valueCount ∈ lw_g := lw_g_of (List.mem_append_left _ (by decide +kernel)) (by decide +kernel)
theorem mw_X1_valueSum : sv_MW M_X1_valueSum := ⟨wc_X1_valueSum, wn_X1, Nat.le_of_ble_eq_true rfl, by decide +kernel, by decide +kernel⟩
theorem wv_X1_valueSum : Cond.selects yX1_valueSum.cls yX1_valueSum yX1_valueSum ∈ lw_g := lw_g_of (List.mem_append_left _ (by decide +kernel)) (by decide +kernel)
theorem mw_X1_whyImpossible : sv_MW M_X1_whyImpossible := ⟨wc_X1_whyImpossible, wn_X1, Nat.le_of_ble_eq_true rfl, by decide +kernel, by decide +kernel⟩
theorem wv_X1_whyImpossible : Cond.selects yX1_whyImpossible.cls yX1_whyImpossible yX1_whyImpossible ∈ lw_g := lw_g_of (List.mem_append_left _ (by decide +kernel)) (by decide +kernel)
theorem mw_X1_writeKey : sv_MW M_X1_writeKey := ⟨wc_X1_writeKey, wn_X1, Nat.le_of_ble_eq_true rfl, by decide +kernel, by decide +kernel⟩
theorem wv_X1_writeKey : Cond.selects yX1_writeKey.cls yX1_writeKey yX1_writeKey ∈ lw_g := lw_g_of (List.mem_append_left _ (by decide +kernel)) (by decide +kernel)
theorem mw_X2_addMoment : sv_MW M_X2_addMoment := ⟨wc_X2_addMoment, wn_X2, Nat.le_of_ble_eq_true rfl, by decide +kernel, by decide +kernel⟩
theorem wv_X2_addMoment : Cond.selects yX2_addMoment.cls yX2_addMoment yX2_addMoment ∈ lw_g := lw_g_of (List.mem_append_left _ (by decide +kernel)) (by decide +kernel)
theorem mw_X2_close : sv_MW M_X2_close := ⟨wc_X2_close, wn_X2, Nat.le_of_ble_eq_true rfl, by decide +kernel, by decide +kernel⟩
theorem wv_X2_close : Cond.selects yX2_close.cls yX2_close yX2_close ∈ lw_g := lw_g_of (List.mem_append_left _ (by decide +kernel)) (by decide +kernel)
theorem mw_X2_copyFrom : sv_MW M_X2_copyFrom := ⟨wc_X2_copyFrom, wn_X2, Nat.le_of_ble_eq_true rfl, by decide +kernel, by decide +kernel⟩
theorem wv_X2_copyFrom : Cond.selects yX2_copyFrom.cls yX2_copyFrom yX2_copyFrom ∈ lw_g := lw_g_of (List.mem_append_left _ (by decide +kernel)) (by decide +kernel)
theorem mw_X2_dropMomentsAfter : sv_MW M_X2_dropMomentsAfter := ⟨wc_X2_dropMomentsAfter, wn_X2, Nat.le_of_ble_eq_true rfl, by decide +kernel, by decide +kernel⟩
theorem wv_X2_dropMomentsAfter : Cond.selects yX2_dropMomentsAfter.cls yX2_dropMomentsAfter yX2_dropMomentsAfter ∈ lw_g := lw_g_of (List.mem_append_left _ (by decide +kernel)) (by decide +kernel)
theorem mw_X2_forgetChangesSince : sv_MW M_X2_forgetChangesSince := ⟨wc_X2_forgetChangesSince, wn_X2, Nat.le_of_ble_eq_true rfl, by decide +kernel, by decide +kernel⟩
theorem wv_X2_forgetChangesSince : Cond.selects yX2_forgetChangesSince.cls yX2_forgetChangesSince yX2_forgetChangesSince ∈ lw_g := lw_g_of (List.mem_append_left _ (by decide +kernel)) (by decide +kernel)
theorem mw_X2_init : sv_MW M_X2_init := ⟨wc_X2_init, wn_X2, Nat.le_of_ble_eq_true rfl, by decide +kernel, by decide +kernel⟩
theorem mw_X2_isOpen : sv_MW M_X2_isOpen := ⟨wc_X2_isOpen, wn_X2, Nat.le_of_ble_eq_true rfl, by decide +kernel, by decide +kernel⟩
theorem wv_X2_isOpen : Cond.selects yX2_isOpen.cls yX2_isOpen yX2_isOpen ∈ lw_g := lw_g_of (List.mem_append_left _ (by decide +kernel)) (by decide +kernel)
theorem mw_X2_keysChangedSince : sv_MW M_X2_keysChangedSince := ⟨wc_X2_keysChangedSince, wn_X2, Nat.le_of_ble_eq_true rfl, by decide +kernel, by decide +kernel⟩
theorem wv_X2_keysChangedSince : Cond.selects yX2_keysChangedSince.cls yX2_keysChangedSince yX2_keysChangedSince ∈ lw_g := lw_g_of (List.mem_append_left _ (by decide +kernel)) (by decide +kernel)
theorem mw_X2_lockCount : sv_MW M_X2_lockCount := ⟨wc_X2_lockCount, wn_X2, Nat.le_of_ble_eq_true rfl, by decide +kernel, by decide +kernel⟩
theorem wv_X2_lockCount : Cond.selects yX2_lockCount.cls yX2_lockCount yX2_lockCount ∈ lw_g := lw_g_of (List.mem_append_left _ (by decide +kernel)) (by decide +kernel)
theorem mw_X2_lockMode : sv_MW M_X2_lockMode := ⟨wc_X2_lockMode, wn_X2, Nat.le_of_ble_eq_true rfl, by decide +kernel, by decide +kernel⟩
theorem wv_X2_lockMode : Cond.selects yX2_lockMode.cls yX2_lockMode yX2_lockMode ∈ lw_g := lw_g_of (List.mem_append_left _ (by decide +kernel)) (by decide +kernel)
theorem mw_X2_locksChangedSince : sv_MW M_X2_locksChangedSince := ⟨wc_X2_locksChangedSince, wn_X2, Nat.le_of_ble_eq_true rfl, by decide +kernel, by decide +kernel⟩
theorem wv_X2_locksChangedSince : Cond.selects yX2_locksChangedSince.cls yX2_locksChangedSince yX2_locksChangedSince ∈ lw_g := lw_g_of (List.mem_append_left _ (by decide +kernel)) (by decide +kernel)
theorem mw_X2_nearestSavepoint : sv_MW M_X2_nearestSavepoint := ⟨wc_X2_nearestSavepoint, wn_X2, Nat.le_of_ble_eq_true rfl, by decide +kernel, by decide +kernel⟩
theorem wv_X2_nearestSavepoint : Cond.selects yX2_nearestSavepoint.cls yX2_nearestSavepoint yX2_nearestSavepoint ∈ lw_g := lw_g_of (List.mem_append_left _ (by decide +kernel)) (by decide +kernel)
theorem mw_X2_noteChange : sv_MW M_X2_noteChange := ⟨wc_X2_noteChange, wn_X2, Nat.le_of_ble_eq_true rfl, by decide +kernel, by decide +kernel⟩
theorem wv_X2_noteChange : Cond.selects yX2_noteChange.cls yX2_noteChange yX2_noteChange ∈ lw_g := lw_g_of (List.mem_append_left _ (by decide +kernel)) (by decide +kernel)
theorem mw_X2_noteChangeAt : sv_MW M_X2_noteChangeAt := ⟨wc_X2_noteChangeAt, wn_X2, Nat.le_of_ble_eq_true rfl, by decide +kernel, by decide +kernel⟩
theorem wv_X2_noteChangeAt : Cond.selects yX2_noteChangeAt.cls yX2_noteChangeAt yX2_noteChangeAt ∈ lw_g := lw_g_of (List.mem_append_left _ (by decide +kernel)) (by decide +kernel)
theorem mw_X2_savepointCount : sv_MW M_X2_savepointCount := ⟨wc_X2_savepointCount, wn_X2, Nat.le_of_ble_eq_true rfl, by decide +kernel, by decide +kernel⟩
theorem wv_X2_savepointCount : Cond.selects yX2_savepointCount.cls yX2_savepointCount yX2_savepointCount ∈ lw_g := lw_g_of (List.mem_append_left _ (by decide +kernel)) (by decide +kernel)
theorem mw_X2_setLockMode : sv_MW M_X2_setLockMode := ⟨wc_X2_setLockMode, wn_X2, Nat.le_of_ble_eq_true rfl, by decide +kernel, by decide +kernel⟩
theorem wv_X2_setLockMode : Cond.selects yX2_setLockMode.cls yX2_setLockMode yX2_setLockMode ∈ lw_g := lw_g_of (List.mem_append_left _ (by decide +kernel)) (by decide +kernel)
theorem mw_X2_undoLocks : sv_MW M_X2_undoLocks := ⟨wc_X2_undoLocks, wn_X2, Nat.le_of_ble_eq_true rfl, by decide +kernel, by decide +kernel⟩
theorem wv_X2_undoLocks : Cond.selects yX2_undoLocks.cls yX2_undoLocks yX2_undoLocks ∈ lw_g := lw_g_of (List.mem_append_left _ (by decide +kernel)) (by decide +kernel)
theorem mw_X2_valueAt : sv_MW M_X2_valueAt := ⟨wc_X2_valueAt, wn_X2, Nat.le_of_ble_eq_true rfl, by decide +kernel, by decide +kernel⟩
theorem wv_X2_valueAt : Cond.selects yX2_valueAt.cls yX2_valueAt yX2_valueAt ∈ lw_g := lw_g_of (List.mem_append_left _ (by decide +kernel)) (by decide +kernel)
theorem mw_X3_begin : sv_MW M_X3_begin := ⟨wc_X3_begin, wn_X3, Nat.le_of_ble_eq_true rfl, by decide +kernel, by decide +kernel⟩
theorem wv_X3_begin : Cond.selects yX3_begin.cls yX3_begin yX3_begin ∈ lw_g := lw_g_of (List.mem_append_right _ (List.mem_of_getElem? (i := 454) (by decide +kernel))) (by decide +kernel)
theorem mw_X3_busyFor : sv_MW M_X3_busyFor := ⟨wc_X3_busyFor, wn_X3, Nat.le_of_ble_eq_true rfl, by decide +kernel, by decide +kernel⟩
theorem wv_X3_busyFor : Cond.selects yX3_busyFor.cls yX3_busyFor yX3_busyFor ∈ lw_g := lw_g_of (List.mem_append_right _ (List.mem_of_getElem? (i := 235) (by decide +kernel))) (by decide +kernel)
theorem mw_X3_changedSince : sv_MW M_X3_changedSince := ⟨wc_X3_changedSince, wn_X3, Nat.le_of_ble_eq_true rfl, by decide +kernel, by decide +kernel⟩
theorem wv_X3_changedSince : Cond.selects yX3_changedSince.cls yX3_changedSince yX3_changedSince ∈ lw_g := lw_g_of (List.mem_append_right _ (List.mem_of_getElem? (i := 189) (by decide +kernel))) (by decide +kernel)
theorem mw_X3_commit : sv_MW M_X3_commit := ⟨wc_X3_commit, wn_X3, Nat.le_of_ble_eq_true rfl, by decide +kernel, by decide +kernel⟩
theorem wv_X3_commit : Cond.selects yX3_commit.cls yX3_commit yX3_commit ∈ lw_g := lw_g_of (List.mem_append_right _ (List.mem_of_getElem? (i := 434) (by decide +kernel))) (by decide +kernel)
theorem mw_X3_committed : sv_MW M_X3_committed := ⟨wc_X3_committed, wn_X3, Nat.le_of_ble_eq_true rfl, by decide +kernel, by decide +kernel⟩
theorem wv_X3_committed : Cond.selects yX3_committed.cls yX3_committed yX3_committed ∈ lw_g := lw_g_of (List.mem_append_right _ (List.mem_of_getElem? (i := 128) (by decide +kernel))) (by decide +kernel)
theorem mw_X3_erase : sv_MW M_X3_erase := ⟨wc_X3_erase, wn_X3, Nat.le_of_ble_eq_true rfl, by decide +kernel, by decide +kernel⟩
theorem wv_X3_erase : Cond.selects yX3_erase.cls yX3_erase yX3_erase ∈ lw_g := lw_g_of (List.mem_append_right _ (List.mem_of_getElem? (i := 332) (by decide +kernel))) (by decide +kernel)
theorem mw_X3_ifUndone : sv_MW M_X3_ifUndone := ⟨wc_X3_ifUndone, wn_X3, Nat.le_of_ble_eq_true rfl, by decide +kernel, by decide +kernel⟩
theorem wv_X3_ifUndone : Cond.selects yX3_ifUndone.cls yX3_ifUndone yX3_ifUndone ∈ lw_g := lw_g_of (List.mem_append_right _ (List.mem_of_getElem? (i := 421) (by decide +kernel))) (by decide +kernel)
theorem mw_X3_init : sv_MW M_X3_init := ⟨wc_X3_init, wn_X3, Nat.le_of_ble_eq_true rfl, by decide +kernel, by decide +kernel⟩
theorem mw_X3_isError : sv_MW M_X3_isError := ⟨wc_X3_isError, wn_X3, Nat.le_of_ble_eq_true rfl, by decide +kernel, by decide +kernel⟩
theorem mw_X3_isKey : sv_MW M_X3_isKey := ⟨wc_X3_isKey, wn_X3, Nat.le_of_ble_eq_true rfl, by decide +kernel, by decide +kernel⟩
theorem mw_X3_isName : sv_MW M_X3_isName := ⟨wc_X3_isName, wn_X3, Nat.le_of_ble_eq_true rfl, by decide +kernel, by decide +kernel⟩
theorem mw_X3_isSession : sv_MW M_X3_isSession := ⟨wc_X3_isSession, wn_X3, Nat.le_of_ble_eq_true rfl, by decide +kernel, by decide +kernel⟩
theorem mw_X3_isValue : sv_MW M_X3_isValue := ⟨wc_X3_isValue, wn_X3, Nat.le_of_ble_eq_true rfl, by decide +kernel, by decide +kernel⟩
theorem mw_X3_keep : sv_MW M_X3_keep := ⟨wc_X3_keep, wn_X3, Nat.le_of_ble_eq_true rfl, by decide +kernel, by decide +kernel⟩
theorem wv_X3_keep : Cond.selects yX3_keep.cls yX3_keep yX3_keep ∈ lw_g := lw_g_of (List.mem_append_right _ (List.mem_of_getElem? (i := 427) (by decide +kernel))) (by decide +kernel)
theorem mw_X3_mean : sv_MW M_X3_mean := ⟨wc_X3_mean, wn_X3, Nat.le_of_ble_eq_true rfl, by decide +kernel, by decide +kernel⟩
theorem wv_X3_mean : Cond.selects yX3_mean.cls yX3_mean yX3_mean ∈ lw_g := lw_g_of (List.mem_append_right _ (List.mem_of_getElem? (i := 147) (by decide +kernel))) (by decide +kernel)
theorem mw_X3_mode : sv_MW M_X3_mode := ⟨wc_X3_mode, wn_X3, Nat.le_of_ble_eq_true rfl, by decide +kernel, by decide +kernel⟩
theorem wv_X3_mode : Cond.selects yX3_mode.cls yX3_mode yX3_mode ∈ lw_g := lw_g_of (List.mem_append_right _ (List.mem_of_getElem? (i := 114) (by decide +kernel))) (by decide +kernel)
theorem mw_X3_momentOf : sv_MW M_X3_momentOf := ⟨wc_X3_momentOf, wn_X3, Nat.le_of_ble_eq_true rfl, by decide +kernel, by decide +kernel⟩
theorem mw_X3_move : sv_MW M_X3_move := ⟨wc_X3_move, wn_X3, Nat.le_of_ble_eq_true rfl, by decide +kernel, by decide +kernel⟩
theorem wv_X3_move : Cond.selects yX3_move.cls yX3_move yX3_move ∈ lw_g := lw_g_of (List.mem_append_right _ (List.mem_of_getElem? (i := 373) (by decide +kernel))) (by decide +kernel)
theorem mw_X3_nameOf : sv_MW M_X3_nameOf := ⟨wc_X3_nameOf, wn_X3, Nat.le_of_ble_eq_true rfl, by decide +kernel, by decide +kernel⟩
theorem wv_X3_nameOf : Cond.selects yX3_nameOf.cls yX3_nameOf yX3_nameOf ∈ lw_g := lw_g_of (List.mem_append_right _ (List.mem_of_getElem? (i := 206) (by decide +kernel))) (by decide +kernel)
theorem mw_X3_nearest : sv_MW M_X3_nearest := ⟨wc_X3_nearest, wn_X3, Nat.le_of_ble_eq_true rfl, by decide +kernel, by decide +kernel⟩
theorem wv_X3_nearest : Cond.selects yX3_nearest.cls yX3_nearest yX3_nearest ∈ lw_g := lw_g_of (List.mem_append_right _ (List.mem_of_getElem? (i := 210) (by decide +kernel))) (by decide +kernel)
theorem mw_X3_read : sv_MW M_X3_read := ⟨wc_X3_read, wn_X3, Nat.le_of_ble_eq_true rfl, by decide +kernel, by decide +kernel⟩
theorem wv_X3_read : Cond.selects yX3_read.cls yX3_read yX3_read ∈ lw_g := lw_g_of (List.mem_append_right _ (List.mem_of_getElem? (i := 251) (by decide +kernel))) (by decide +kernel)
theorem mw_X3_recordUnlessError : sv_MW M_X3_recordUnlessError := ⟨wc_X3_recordUnlessError, wn_X3, Nat.le_of_ble_eq_true rfl, by decide +kernel, by decide +kernel⟩
theorem wv_X3_recordUnlessError : Cond.selects yX3_recordUnlessError.cls yX3_recordUnlessError yX3_recordUnlessError ∈ lw_g := lw_g_of (List.mem_append_left _ (by decide +kernel)) (by decide +kernel)
theorem mw_X3_release : sv_MW M_X3_release := ⟨wc_X3_release, wn_X3, Nat.le_of_ble_eq_true rfl, by decide +kernel, by decide +kernel⟩
theorem wv_X3_release : Cond.selects yX3_release.cls yX3_release yX3_release ∈ lw_g := lw_g_of (List.mem_append_right _ (List.mem_of_getElem? (i := 413) (by decide +kernel))) (by decide +kernel)
theorem mw_X3_rememberState : sv_MW M_X3_rememberState := ⟨wc_X3_rememberState, wn_X3, Nat.le_of_ble_eq_true rfl, by decide +kernel, by decide +kernel⟩
theorem wv_X3_rememberState : Cond.selects yX3_rememberState.cls yX3_rememberState yX3_rememberState ∈ lw_g := lw_g_of (List.mem_append_left _ (by decide +kernel)) (by decide +kernel)
theorem mw_X3_rollback : sv_MW M_X3_rollback := ⟨wc_X3_rollback, wn_X3, Nat.le_of_ble_eq_true rfl, by decide +kernel, by decide +kernel⟩
theorem wv_X3_rollback : Cond.selects yX3_rollback.cls yX3_rollback yX3_rollback ∈ lw_g := lw_g_of (List.mem_append_right _ (List.mem_of_getElem? (i := 446) (by decide +kernel))) (by decide +kernel)
theorem mw_X3_savepoint : sv_MW M_X3_savepoint := ⟨wc_X3_savepoint, wn_X3, Nat.le_of_ble_eq_true rfl, by decide +kernel, by decide +kernel⟩
theorem wv_X3_savepoint : Cond.selects yX3_savepoint.cls yX3_savepoint yX3_savepoint ∈ lw_g := lw_g_of (List.mem_append_right _ (List.mem_of_getElem? (i := 387) (by decide +kernel))) (by decide +kernel)
theorem mw_X3_session : sv_MW M_X3_session := ⟨wc_X3_session, wn_X3, Nat.le_of_ble_eq_true rfl, by decide +kernel, by decide +kernel⟩
theorem wv_X3_session : Cond.selects yX3_session.cls yX3_session yX3_session ∈ lw_g := lw_g_of (List.mem_append_right _ (List.mem_of_getElem? (i := 162) (by decide +kernel))) (by decide +kernel)
theorem mw_X3_shift : sv_MW M_X3_shift := ⟨wc_X3_shift, wn_X3, Nat.le_of_ble_eq_true rfl, by decide +kernel, by decide +kernel⟩
theorem wv_X3_shift : Cond.selects yX3_shift.cls yX3_shift yX3_shift ∈ lw_g := lw_g_of (List.mem_append_right _ (List.mem_of_getElem? (i := 359) (by decide +kernel))) (by decide +kernel)
theorem mw_X3_slotBehindHistory : sv_MW M_X3_slotBehindHistory := ⟨wc_X3_slotBehindHistory, wn_X3, Nat.le_of_ble_eq_true rfl, by decide +kernel, by decide +kernel⟩
theorem wv_X3_slotBehindHistory : Cond.selects yX3_slotBehindHistory.cls yX3_slotBehindHistory yX3_slotBehindHistory ∈ lw_g := lw_g_of (List.mem_append_left _ (by decide +kernel)) (by decide +kernel)
theorem mw_X3_total : sv_MW M_X3_total := ⟨wc_X3_total, wn_X3, Nat.le_of_ble_eq_true rfl, by decide +kernel, by decide +kernel⟩
theorem wv_X3_total : Cond.selects yX3_total.cls yX3_total yX3_total ∈ lw_g := lw_g_of (List.mem_append_right _ (List.mem_of_getElem? (i := 244) (by decide +kernel))) (by decide +kernel)
theorem mw_X3_undoTo : sv_MW M_X3_undoTo := ⟨wc_X3_undoTo, wn_X3, Nat.le_of_ble_eq_true rfl, by decide +kernel, by decide +kernel⟩
theorem wv_X3_undoTo : Cond.selects yX3_undoTo.cls yX3_undoTo yX3_undoTo ∈ lw_g := lw_g_of (List.mem_append_right _ (List.mem_of_getElem? (i := 399) (by decide +kernel))) (by decide +kernel)
theorem mw_X3_value : sv_MW M_X3_value := ⟨wc_X3_value, wn_X3, Nat.le_of_ble_eq_true rfl, by decide +kernel, by decide +kernel⟩
theorem wv_X3_value : Cond.selects yX3_value.cls yX3_value yX3_value ∈ lw_g := lw_g_of (List.mem_append_right _ (List.mem_of_getElem? (i := 143) (by decide +kernel))) (by decide +kernel)
theorem mw_X3_write : sv_MW M_X3_write := ⟨wc_X3_write, wn_X3, Nat.le_of_ble_eq_true rfl, by decide +kernel, by decide +kernel⟩
theorem wv_X3_write : Cond.selects yX3_write.cls yX3_write yX3_write ∈ lw_g := lw_g_of (List.mem_append_right _ (List.mem_of_getElem? (i := 348) (by decide +kernel))) (by decide +kernel)
theorem wx_native : Cond.native arraycopyName ∈ lw_g := lw_g_of (List.mem_append_right _ (List.mem_of_getElem? (i := 267) (by decide +kernel))) (by decide +kernel)
theorem wx_acs : Cond.static arraycopyName ∈ lw_g := lw_g_of (List.mem_append_right _ (List.mem_of_getElem? (i := 266) (by decide +kernel))) (by decide +kernel)
theorem wx_sys : Cond.initialized "java/lang/System" ∈ lw_g := lw_g_of (List.mem_append_right _ (List.mem_of_getElem? (i := 7) (by decide +kernel))) (by decide +kernel)
theorem wx_math : Cond.initialized "java/lang/Math" ∈ lw_g := lw_g_of (List.mem_append_right _ (List.mem_of_getElem? (i := 5) (by decide +kernel))) (by decide +kernel)
theorem wx_maxs : Cond.static Lib.Math.max.name ∈ lw_g := lw_g_of (List.mem_append_right _ (List.mem_of_getElem? (i := 139) (by decide +kernel))) (by decide +kernel)
theorem wx_maxc : Cond.code Lib.Math.max.name Lib.Math.max.code 2 (some .int) ∈ lw_g := lw_g_of (List.mem_append_right _ (List.mem_of_getElem? (i := 140) (by decide +kernel))) (by decide +kernel)
theorem wx_mins : Cond.static Lib.Math.min.name ∈ lw_g := lw_g_of (List.mem_append_right _ (List.mem_of_getElem? (i := 321) (by decide +kernel))) (by decide +kernel)
theorem wx_minc : Cond.code Lib.Math.min.name Lib.Math.min.code 2 (some .int) ∈ lw_g := lw_g_of (List.mem_append_right _ (List.mem_of_getElem? (i := 322) (by decide +kernel))) (by decide +kernel)
