-- ===== PART A: goes FIRST, ahead of the names: the tables' words, and 'selects' of the private methods out of them =====
/-- a private method of a class that the tables say can be made, by its rows of tables_1 -/
def lw_okq (q : MethodName × Nat) : Prop := (q.1.cls ≠ "java/lang/invoke/MethodHandle" ∧ q.1.cls ≠ "java/lang/invoke/VarHandle") ∧ Cond.instantiable q.1.cls q.2 ∈ tables_1 ∧ Cond.privateMethod q.1 ∈ tables_1 ∧ Cond.instanceMethod q.1 ∈ tables_1
theorem lw_p0 : lw_okq (⟨"SavepointStore", "rememberState", "()V"⟩, 7) := ⟨⟨by decide +kernel, by decide +kernel⟩, List.mem_of_getElem? (i := 10) (by decide +kernel), List.mem_of_getElem? (i := 113) (by decide +kernel), List.mem_of_getElem? (i := 114) (by decide +kernel)⟩
theorem lw_p1 : lw_okq (⟨"SavepointStore", "slotBehindHistory", "()I"⟩, 7) := ⟨⟨by decide +kernel, by decide +kernel⟩, List.mem_of_getElem? (i := 10) (by decide +kernel), List.mem_of_getElem? (i := 117) (by decide +kernel), List.mem_of_getElem? (i := 118) (by decide +kernel)⟩
theorem lw_p2 : lw_okq (⟨"SavepointStore$State", "copyFrom", "(LSavepointStore$State;)V"⟩, 4) := ⟨⟨by decide +kernel, by decide +kernel⟩, List.mem_of_getElem? (i := 18) (by decide +kernel), List.mem_of_getElem? (i := 121) (by decide +kernel), List.mem_of_getElem? (i := 122) (by decide +kernel)⟩
theorem lw_p3 : lw_okq (⟨"SavepointStore$Transaction", "copyFrom", "(LSavepointStore$Transaction;)V"⟩, 6) := ⟨⟨by decide +kernel, by decide +kernel⟩, List.mem_of_getElem? (i := 25) (by decide +kernel), List.mem_of_getElem? (i := 128) (by decide +kernel), List.mem_of_getElem? (i := 129) (by decide +kernel)⟩
theorem lw_p4 : lw_okq (⟨"SavepointStore", "recordUnlessError", "(I)I"⟩, 7) := ⟨⟨by decide +kernel, by decide +kernel⟩, List.mem_of_getElem? (i := 10) (by decide +kernel), List.mem_of_getElem? (i := 133) (by decide +kernel), List.mem_of_getElem? (i := 134) (by decide +kernel)⟩
theorem lw_p5 : lw_okq (⟨"SavepointStore$State", "openTransaction", "(I)I"⟩, 4) := ⟨⟨by decide +kernel, by decide +kernel⟩, List.mem_of_getElem? (i := 18) (by decide +kernel), List.mem_of_getElem? (i := 144) (by decide +kernel), List.mem_of_getElem? (i := 145) (by decide +kernel)⟩
theorem lw_p6 : lw_okq (⟨"SavepointStore$Transaction", "isOpen", "()Z"⟩, 6) := ⟨⟨by decide +kernel, by decide +kernel⟩, List.mem_of_getElem? (i := 25) (by decide +kernel), List.mem_of_getElem? (i := 151) (by decide +kernel), List.mem_of_getElem? (i := 152) (by decide +kernel)⟩
theorem lw_p7 : lw_okq (⟨"SavepointStore$Transaction", "addMoment", "()V"⟩, 6) := ⟨⟨by decide +kernel, by decide +kernel⟩, List.mem_of_getElem? (i := 25) (by decide +kernel), List.mem_of_getElem? (i := 155) (by decide +kernel), List.mem_of_getElem? (i := 156) (by decide +kernel)⟩
theorem lw_p8 : lw_okq (⟨"SavepointStore$State", "commitTransaction", "(I)I"⟩, 4) := ⟨⟨by decide +kernel, by decide +kernel⟩, List.mem_of_getElem? (i := 18) (by decide +kernel), List.mem_of_getElem? (i := 163) (by decide +kernel), List.mem_of_getElem? (i := 164) (by decide +kernel)⟩
theorem lw_p9 : lw_okq (⟨"SavepointStore$State", "whyImpossible", "(IZZ)I"⟩, 4) := ⟨⟨by decide +kernel, by decide +kernel⟩, List.mem_of_getElem? (i := 18) (by decide +kernel), List.mem_of_getElem? (i := 167) (by decide +kernel), List.mem_of_getElem? (i := 168) (by decide +kernel)⟩
theorem lw_p10 : lw_okq (⟨"SavepointStore$Transaction", "valueAt", "(III)I"⟩, 6) := ⟨⟨by decide +kernel, by decide +kernel⟩, List.mem_of_getElem? (i := 25) (by decide +kernel), List.mem_of_getElem? (i := 171) (by decide +kernel), List.mem_of_getElem? (i := 172) (by decide +kernel)⟩
theorem lw_p11 : lw_okq (⟨"SavepointStore$Transaction", "close", "()V"⟩, 6) := ⟨⟨by decide +kernel, by decide +kernel⟩, List.mem_of_getElem? (i := 25) (by decide +kernel), List.mem_of_getElem? (i := 178) (by decide +kernel), List.mem_of_getElem? (i := 179) (by decide +kernel)⟩
theorem lw_p12 : lw_okq (⟨"SavepointStore$State", "rollTransactionBack", "(I)I"⟩, 4) := ⟨⟨by decide +kernel, by decide +kernel⟩, List.mem_of_getElem? (i := 18) (by decide +kernel), List.mem_of_getElem? (i := 186) (by decide +kernel), List.mem_of_getElem? (i := 187) (by decide +kernel)⟩
theorem lw_p13 : lw_okq (⟨"SavepointStore$State", "undoToMoment", "(LSavepointStore$Transaction;I)I"⟩, 4) := ⟨⟨by decide +kernel, by decide +kernel⟩, List.mem_of_getElem? (i := 18) (by decide +kernel), List.mem_of_getElem? (i := 190) (by decide +kernel), List.mem_of_getElem? (i := 191) (by decide +kernel)⟩
theorem lw_p14 : lw_okq (⟨"SavepointStore$Transaction", "forgetChangesSince", "(I)V"⟩, 6) := ⟨⟨by decide +kernel, by decide +kernel⟩, List.mem_of_getElem? (i := 25) (by decide +kernel), List.mem_of_getElem? (i := 194) (by decide +kernel), List.mem_of_getElem? (i := 195) (by decide +kernel)⟩
theorem lw_p15 : lw_okq (⟨"SavepointStore$Transaction", "undoLocks", "(I)V"⟩, 6) := ⟨⟨by decide +kernel, by decide +kernel⟩, List.mem_of_getElem? (i := 25) (by decide +kernel), List.mem_of_getElem? (i := 198) (by decide +kernel), List.mem_of_getElem? (i := 199) (by decide +kernel)⟩
def lw_privs_1 : List (MethodName × Nat) := [(⟨"SavepointStore", "rememberState", "()V"⟩, 7), (⟨"SavepointStore", "slotBehindHistory", "()I"⟩, 7), (⟨"SavepointStore$State", "copyFrom", "(LSavepointStore$State;)V"⟩, 4), (⟨"SavepointStore$Transaction", "copyFrom", "(LSavepointStore$Transaction;)V"⟩, 6), (⟨"SavepointStore", "recordUnlessError", "(I)I"⟩, 7), (⟨"SavepointStore$State", "openTransaction", "(I)I"⟩, 4), (⟨"SavepointStore$Transaction", "isOpen", "()Z"⟩, 6), (⟨"SavepointStore$Transaction", "addMoment", "()V"⟩, 6), (⟨"SavepointStore$State", "commitTransaction", "(I)I"⟩, 4), (⟨"SavepointStore$State", "whyImpossible", "(IZZ)I"⟩, 4), (⟨"SavepointStore$Transaction", "valueAt", "(III)I"⟩, 6), (⟨"SavepointStore$Transaction", "close", "()V"⟩, 6), (⟨"SavepointStore$State", "rollTransactionBack", "(I)I"⟩, 4), (⟨"SavepointStore$State", "undoToMoment", "(LSavepointStore$Transaction;I)I"⟩, 4), (⟨"SavepointStore$Transaction", "forgetChangesSince", "(I)V"⟩, 6), (⟨"SavepointStore$Transaction", "undoLocks", "(I)V"⟩, 6)]
theorem lw_r1 : ∀ q ∈ lw_privs_1, lw_okq q := List.forall_mem_cons.mpr ⟨lw_p0, List.forall_mem_cons.mpr ⟨lw_p1, List.forall_mem_cons.mpr ⟨lw_p2, List.forall_mem_cons.mpr ⟨lw_p3, List.forall_mem_cons.mpr ⟨lw_p4, List.forall_mem_cons.mpr ⟨lw_p5, List.forall_mem_cons.mpr ⟨lw_p6, List.forall_mem_cons.mpr ⟨lw_p7, List.forall_mem_cons.mpr ⟨lw_p8, List.forall_mem_cons.mpr ⟨lw_p9, List.forall_mem_cons.mpr ⟨lw_p10, List.forall_mem_cons.mpr ⟨lw_p11, List.forall_mem_cons.mpr ⟨lw_p12, List.forall_mem_cons.mpr ⟨lw_p13, List.forall_mem_cons.mpr ⟨lw_p14, List.forall_mem_cons.mpr ⟨lw_p15, fun _ h => absurd h List.not_mem_nil⟩⟩⟩⟩⟩⟩⟩⟩⟩⟩⟩⟩⟩⟩⟩⟩
theorem lw_p16 : lw_okq (⟨"SavepointStore$State", "setSavepoint", "(II)I"⟩, 4) := ⟨⟨by decide +kernel, by decide +kernel⟩, List.mem_of_getElem? (i := 18) (by decide +kernel), List.mem_of_getElem? (i := 206) (by decide +kernel), List.mem_of_getElem? (i := 207) (by decide +kernel)⟩
theorem lw_p17 : lw_okq (⟨"SavepointStore$Transaction", "savepointCount", "()I"⟩, 6) := ⟨⟨by decide +kernel, by decide +kernel⟩, List.mem_of_getElem? (i := 25) (by decide +kernel), List.mem_of_getElem? (i := 213) (by decide +kernel), List.mem_of_getElem? (i := 214) (by decide +kernel)⟩
theorem lw_p18 : lw_okq (⟨"SavepointStore$State", "undoToName", "(II)I"⟩, 4) := ⟨⟨by decide +kernel, by decide +kernel⟩, List.mem_of_getElem? (i := 18) (by decide +kernel), List.mem_of_getElem? (i := 221) (by decide +kernel), List.mem_of_getElem? (i := 222) (by decide +kernel)⟩
theorem lw_p19 : lw_okq (⟨"SavepointStore$State", "savepointOrError", "(II)I"⟩, 4) := ⟨⟨by decide +kernel, by decide +kernel⟩, List.mem_of_getElem? (i := 18) (by decide +kernel), List.mem_of_getElem? (i := 225) (by decide +kernel), List.mem_of_getElem? (i := 226) (by decide +kernel)⟩
theorem lw_p20 : lw_okq (⟨"SavepointStore$Transaction", "nearestSavepoint", "(I)I"⟩, 6) := ⟨⟨by decide +kernel, by decide +kernel⟩, List.mem_of_getElem? (i := 25) (by decide +kernel), List.mem_of_getElem? (i := 229) (by decide +kernel), List.mem_of_getElem? (i := 230) (by decide +kernel)⟩
theorem lw_p21 : lw_okq (⟨"SavepointStore$Transaction", "dropMomentsAfter", "(I)V"⟩, 6) := ⟨⟨by decide +kernel, by decide +kernel⟩, List.mem_of_getElem? (i := 25) (by decide +kernel), List.mem_of_getElem? (i := 237) (by decide +kernel), List.mem_of_getElem? (i := 238) (by decide +kernel)⟩
theorem lw_p22 : lw_okq (⟨"SavepointStore$Transaction", "noteChangeAt", "(III)V"⟩, 6) := ⟨⟨by decide +kernel, by decide +kernel⟩, List.mem_of_getElem? (i := 25) (by decide +kernel), List.mem_of_getElem? (i := 241) (by decide +kernel), List.mem_of_getElem? (i := 242) (by decide +kernel)⟩
theorem lw_p23 : lw_okq (⟨"SavepointStore$State", "releaseName", "(II)I"⟩, 4) := ⟨⟨by decide +kernel, by decide +kernel⟩, List.mem_of_getElem? (i := 18) (by decide +kernel), List.mem_of_getElem? (i := 252) (by decide +kernel), List.mem_of_getElem? (i := 253) (by decide +kernel)⟩
theorem lw_p24 : lw_okq (⟨"SavepointStore$State", "readKey", "(II)I"⟩, 4) := ⟨⟨by decide +kernel, by decide +kernel⟩, List.mem_of_getElem? (i := 18) (by decide +kernel), List.mem_of_getElem? (i := 260) (by decide +kernel), List.mem_of_getElem? (i := 261) (by decide +kernel)⟩
theorem lw_p25 : lw_okq (⟨"SavepointStore$State", "takeLock", "(III)Z"⟩, 4) := ⟨⟨by decide +kernel, by decide +kernel⟩, List.mem_of_getElem? (i := 18) (by decide +kernel), List.mem_of_getElem? (i := 267) (by decide +kernel), List.mem_of_getElem? (i := 268) (by decide +kernel)⟩
theorem lw_p26 : lw_okq (⟨"SavepointStore$State", "isBusy", "(III)Z"⟩, 4) := ⟨⟨by decide +kernel, by decide +kernel⟩, List.mem_of_getElem? (i := 18) (by decide +kernel), List.mem_of_getElem? (i := 271) (by decide +kernel), List.mem_of_getElem? (i := 272) (by decide +kernel)⟩
theorem lw_p27 : lw_okq (⟨"SavepointStore$Transaction", "lockMode", "(I)I"⟩, 6) := ⟨⟨by decide +kernel, by decide +kernel⟩, List.mem_of_getElem? (i := 25) (by decide +kernel), List.mem_of_getElem? (i := 275) (by decide +kernel), List.mem_of_getElem? (i := 276) (by decide +kernel)⟩
theorem lw_p28 : lw_okq (⟨"SavepointStore$Transaction", "setLockMode", "(II)V"⟩, 6) := ⟨⟨by decide +kernel, by decide +kernel⟩, List.mem_of_getElem? (i := 25) (by decide +kernel), List.mem_of_getElem? (i := 279) (by decide +kernel), List.mem_of_getElem? (i := 280) (by decide +kernel)⟩
theorem lw_p29 : lw_okq (⟨"SavepointStore$State", "endStatement", "(II)I"⟩, 4) := ⟨⟨by decide +kernel, by decide +kernel⟩, List.mem_of_getElem? (i := 18) (by decide +kernel), List.mem_of_getElem? (i := 283) (by decide +kernel), List.mem_of_getElem? (i := 284) (by decide +kernel)⟩
theorem lw_p30 : lw_okq (⟨"SavepointStore$State", "writeKey", "(III)I"⟩, 4) := ⟨⟨by decide +kernel, by decide +kernel⟩, List.mem_of_getElem? (i := 18) (by decide +kernel), List.mem_of_getElem? (i := 291) (by decide +kernel), List.mem_of_getElem? (i := 292) (by decide +kernel)⟩
theorem lw_p31 : lw_okq (⟨"SavepointStore$State", "replaceValue", "(III)I"⟩, 4) := ⟨⟨by decide +kernel, by decide +kernel⟩, List.mem_of_getElem? (i := 18) (by decide +kernel), List.mem_of_getElem? (i := 298) (by decide +kernel), List.mem_of_getElem? (i := 299) (by decide +kernel)⟩
def lw_privs_2 : List (MethodName × Nat) := [(⟨"SavepointStore$State", "setSavepoint", "(II)I"⟩, 4), (⟨"SavepointStore$Transaction", "savepointCount", "()I"⟩, 6), (⟨"SavepointStore$State", "undoToName", "(II)I"⟩, 4), (⟨"SavepointStore$State", "savepointOrError", "(II)I"⟩, 4), (⟨"SavepointStore$Transaction", "nearestSavepoint", "(I)I"⟩, 6), (⟨"SavepointStore$Transaction", "dropMomentsAfter", "(I)V"⟩, 6), (⟨"SavepointStore$Transaction", "noteChangeAt", "(III)V"⟩, 6), (⟨"SavepointStore$State", "releaseName", "(II)I"⟩, 4), (⟨"SavepointStore$State", "readKey", "(II)I"⟩, 4), (⟨"SavepointStore$State", "takeLock", "(III)Z"⟩, 4), (⟨"SavepointStore$State", "isBusy", "(III)Z"⟩, 4), (⟨"SavepointStore$Transaction", "lockMode", "(I)I"⟩, 6), (⟨"SavepointStore$Transaction", "setLockMode", "(II)V"⟩, 6), (⟨"SavepointStore$State", "endStatement", "(II)I"⟩, 4), (⟨"SavepointStore$State", "writeKey", "(III)I"⟩, 4), (⟨"SavepointStore$State", "replaceValue", "(III)I"⟩, 4)]
theorem lw_r2 : ∀ q ∈ lw_privs_2, lw_okq q := List.forall_mem_cons.mpr ⟨lw_p16, List.forall_mem_cons.mpr ⟨lw_p17, List.forall_mem_cons.mpr ⟨lw_p18, List.forall_mem_cons.mpr ⟨lw_p19, List.forall_mem_cons.mpr ⟨lw_p20, List.forall_mem_cons.mpr ⟨lw_p21, List.forall_mem_cons.mpr ⟨lw_p22, List.forall_mem_cons.mpr ⟨lw_p23, List.forall_mem_cons.mpr ⟨lw_p24, List.forall_mem_cons.mpr ⟨lw_p25, List.forall_mem_cons.mpr ⟨lw_p26, List.forall_mem_cons.mpr ⟨lw_p27, List.forall_mem_cons.mpr ⟨lw_p28, List.forall_mem_cons.mpr ⟨lw_p29, List.forall_mem_cons.mpr ⟨lw_p30, List.forall_mem_cons.mpr ⟨lw_p31, fun _ h => absurd h List.not_mem_nil⟩⟩⟩⟩⟩⟩⟩⟩⟩⟩⟩⟩⟩⟩⟩⟩
theorem lw_p32 : lw_okq (⟨"SavepointStore$Transaction", "noteChange", "(II)V"⟩, 6) := ⟨⟨by decide +kernel, by decide +kernel⟩, List.mem_of_getElem? (i := 25) (by decide +kernel), List.mem_of_getElem? (i := 302) (by decide +kernel), List.mem_of_getElem? (i := 303) (by decide +kernel)⟩
theorem lw_p33 : lw_okq (⟨"SavepointStore$State", "eraseKey", "(II)I"⟩, 4) := ⟨⟨by decide +kernel, by decide +kernel⟩, List.mem_of_getElem? (i := 18) (by decide +kernel), List.mem_of_getElem? (i := 310) (by decide +kernel), List.mem_of_getElem? (i := 311) (by decide +kernel)⟩
theorem lw_p34 : lw_okq (⟨"SavepointStore$State", "shiftKeys", "(III)I"⟩, 4) := ⟨⟨by decide +kernel, by decide +kernel⟩, List.mem_of_getElem? (i := 18) (by decide +kernel), List.mem_of_getElem? (i := 318) (by decide +kernel), List.mem_of_getElem? (i := 319) (by decide +kernel)⟩
theorem lw_p35 : lw_okq (⟨"SavepointStore$State", "addToValue", "(IIII)I"⟩, 4) := ⟨⟨by decide +kernel, by decide +kernel⟩, List.mem_of_getElem? (i := 18) (by decide +kernel), List.mem_of_getElem? (i := 329) (by decide +kernel), List.mem_of_getElem? (i := 330) (by decide +kernel)⟩
theorem lw_p36 : lw_okq (⟨"SavepointStore$State", "moveAmount", "(IIII)I"⟩, 4) := ⟨⟨by decide +kernel, by decide +kernel⟩, List.mem_of_getElem? (i := 18) (by decide +kernel), List.mem_of_getElem? (i := 337) (by decide +kernel), List.mem_of_getElem? (i := 338) (by decide +kernel)⟩
theorem lw_p37 : lw_okq (⟨"SavepointStore$Script", "addCharacter", "(C)I"⟩, 2) := ⟨⟨by decide +kernel, by decide +kernel⟩, List.mem_of_getElem? (i := 72) (by decide +kernel), List.mem_of_getElem? (i := 345) (by decide +kernel), List.mem_of_getElem? (i := 346) (by decide +kernel)⟩
theorem lw_p38 : lw_okq (⟨"SavepointStore$Script", "firstFault", "()I"⟩, 2) := ⟨⟨by decide +kernel, by decide +kernel⟩, List.mem_of_getElem? (i := 72) (by decide +kernel), List.mem_of_getElem? (i := 357) (by decide +kernel), List.mem_of_getElem? (i := 358) (by decide +kernel)⟩
theorem lw_p39 : lw_okq (⟨"SavepointStore$Script", "startsOrder", "(I)Z"⟩, 2) := ⟨⟨by decide +kernel, by decide +kernel⟩, List.mem_of_getElem? (i := 72) (by decide +kernel), List.mem_of_getElem? (i := 383) (by decide +kernel), List.mem_of_getElem? (i := 384) (by decide +kernel)⟩
theorem lw_p40 : lw_okq (⟨"SavepointStore$Script", "characterAt", "(I)C"⟩, 2) := ⟨⟨by decide +kernel, by decide +kernel⟩, List.mem_of_getElem? (i := 72) (by decide +kernel), List.mem_of_getElem? (i := 387) (by decide +kernel), List.mem_of_getElem? (i := 388) (by decide +kernel)⟩
theorem lw_p41 : lw_okq (⟨"SavepointStore", "performOrder", "(I)I"⟩, 7) := ⟨⟨by decide +kernel, by decide +kernel⟩, List.mem_of_getElem? (i := 10) (by decide +kernel), List.mem_of_getElem? (i := 391) (by decide +kernel), List.mem_of_getElem? (i := 392) (by decide +kernel)⟩
theorem lw_p42 : lw_okq (⟨"SavepointStore$Script", "numberAt", "(I)I"⟩, 2) := ⟨⟨by decide +kernel, by decide +kernel⟩, List.mem_of_getElem? (i := 72) (by decide +kernel), List.mem_of_getElem? (i := 396) (by decide +kernel), List.mem_of_getElem? (i := 397) (by decide +kernel)⟩
theorem lw_p43 : lw_okq (⟨"SavepointStore$Script", "endOfNumber", "(I)I"⟩, 2) := ⟨⟨by decide +kernel, by decide +kernel⟩, List.mem_of_getElem? (i := 72) (by decide +kernel), List.mem_of_getElem? (i := 400) (by decide +kernel), List.mem_of_getElem? (i := 401) (by decide +kernel)⟩
theorem lw_p44 : lw_okq (⟨"SavepointStore$State", "valueCount", "()I"⟩, 4) := ⟨⟨by decide +kernel, by decide +kernel⟩, List.mem_of_getElem? (i := 18) (by decide +kernel), List.mem_of_getElem? (i := 413) (by decide +kernel), List.mem_of_getElem? (i := 414) (by decide +kernel)⟩
theorem lw_p45 : lw_okq (⟨"SavepointStore$State", "committedValue", "(I)I"⟩, 4) := ⟨⟨by decide +kernel, by decide +kernel⟩, List.mem_of_getElem? (i := 18) (by decide +kernel), List.mem_of_getElem? (i := 430) (by decide +kernel), List.mem_of_getElem? (i := 431) (by decide +kernel)⟩
theorem lw_p46 : lw_okq (⟨"SavepointStore$Transaction", "keysChangedSince", "(I)I"⟩, 6) := ⟨⟨by decide +kernel, by decide +kernel⟩, List.mem_of_getElem? (i := 25) (by decide +kernel), List.mem_of_getElem? (i := 451) (by decide +kernel), List.mem_of_getElem? (i := 452) (by decide +kernel)⟩
theorem lw_p47 : lw_okq (⟨"SavepointStore$Transaction", "lockCount", "(I)I"⟩, 6) := ⟨⟨by decide +kernel, by decide +kernel⟩, List.mem_of_getElem? (i := 25) (by decide +kernel), List.mem_of_getElem? (i := 456) (by decide +kernel), List.mem_of_getElem? (i := 457) (by decide +kernel)⟩
def lw_privs_3 : List (MethodName × Nat) := [(⟨"SavepointStore$Transaction", "noteChange", "(II)V"⟩, 6), (⟨"SavepointStore$State", "eraseKey", "(II)I"⟩, 4), (⟨"SavepointStore$State", "shiftKeys", "(III)I"⟩, 4), (⟨"SavepointStore$State", "addToValue", "(IIII)I"⟩, 4), (⟨"SavepointStore$State", "moveAmount", "(IIII)I"⟩, 4), (⟨"SavepointStore$Script", "addCharacter", "(C)I"⟩, 2), (⟨"SavepointStore$Script", "firstFault", "()I"⟩, 2), (⟨"SavepointStore$Script", "startsOrder", "(I)Z"⟩, 2), (⟨"SavepointStore$Script", "characterAt", "(I)C"⟩, 2), (⟨"SavepointStore", "performOrder", "(I)I"⟩, 7), (⟨"SavepointStore$Script", "numberAt", "(I)I"⟩, 2), (⟨"SavepointStore$Script", "endOfNumber", "(I)I"⟩, 2), (⟨"SavepointStore$State", "valueCount", "()I"⟩, 4), (⟨"SavepointStore$State", "committedValue", "(I)I"⟩, 4), (⟨"SavepointStore$Transaction", "keysChangedSince", "(I)I"⟩, 6), (⟨"SavepointStore$Transaction", "lockCount", "(I)I"⟩, 6)]
theorem lw_r3 : ∀ q ∈ lw_privs_3, lw_okq q := List.forall_mem_cons.mpr ⟨lw_p32, List.forall_mem_cons.mpr ⟨lw_p33, List.forall_mem_cons.mpr ⟨lw_p34, List.forall_mem_cons.mpr ⟨lw_p35, List.forall_mem_cons.mpr ⟨lw_p36, List.forall_mem_cons.mpr ⟨lw_p37, List.forall_mem_cons.mpr ⟨lw_p38, List.forall_mem_cons.mpr ⟨lw_p39, List.forall_mem_cons.mpr ⟨lw_p40, List.forall_mem_cons.mpr ⟨lw_p41, List.forall_mem_cons.mpr ⟨lw_p42, List.forall_mem_cons.mpr ⟨lw_p43, List.forall_mem_cons.mpr ⟨lw_p44, List.forall_mem_cons.mpr ⟨lw_p45, List.forall_mem_cons.mpr ⟨lw_p46, List.forall_mem_cons.mpr ⟨lw_p47, fun _ h => absurd h List.not_mem_nil⟩⟩⟩⟩⟩⟩⟩⟩⟩⟩⟩⟩⟩⟩⟩⟩
theorem lw_p48 : lw_okq (⟨"SavepointStore$State", "hasSavepoint", "(II)Z"⟩, 4) := ⟨⟨by decide +kernel, by decide +kernel⟩, List.mem_of_getElem? (i := 18) (by decide +kernel), List.mem_of_getElem? (i := 465) (by decide +kernel), List.mem_of_getElem? (i := 466) (by decide +kernel)⟩
theorem lw_p49 : lw_okq (⟨"SavepointStore$Transaction", "locksChangedSince", "(I)I"⟩, 6) := ⟨⟨by decide +kernel, by decide +kernel⟩, List.mem_of_getElem? (i := 25) (by decide +kernel), List.mem_of_getElem? (i := 480) (by decide +kernel), List.mem_of_getElem? (i := 481) (by decide +kernel)⟩
theorem lw_p50 : lw_okq (⟨"SavepointStore$State", "valueSum", "()I"⟩, 4) := ⟨⟨by decide +kernel, by decide +kernel⟩, List.mem_of_getElem? (i := 18) (by decide +kernel), List.mem_of_getElem? (i := 498) (by decide +kernel), List.mem_of_getElem? (i := 499) (by decide +kernel)⟩
theorem lw_p51 : lw_okq (⟨"SavepointStoreModel", "record", "()V"⟩, 14) := ⟨⟨by decide +kernel, by decide +kernel⟩, List.mem_of_getElem? (i := 502) (by decide +kernel), List.mem_of_getElem? (i := 555) (by decide +kernel), List.mem_of_getElem? (i := 556) (by decide +kernel)⟩
theorem lw_p52 : lw_okq (⟨"SavepointStoreModel", "beginError", "(I)I"⟩, 14) := ⟨⟨by decide +kernel, by decide +kernel⟩, List.mem_of_getElem? (i := 502) (by decide +kernel), List.mem_of_getElem? (i := 563) (by decide +kernel), List.mem_of_getElem? (i := 564) (by decide +kernel)⟩
theorem lw_p53 : lw_okq (⟨"SavepointStoreModel", "isOpen", "(I)Z"⟩, 14) := ⟨⟨by decide +kernel, by decide +kernel⟩, List.mem_of_getElem? (i := 502) (by decide +kernel), List.mem_of_getElem? (i := 573) (by decide +kernel), List.mem_of_getElem? (i := 574) (by decide +kernel)⟩
theorem lw_p54 : lw_okq (⟨"SavepointStoreModel", "doBegin", "(I)I"⟩, 14) := ⟨⟨by decide +kernel, by decide +kernel⟩, List.mem_of_getElem? (i := 502) (by decide +kernel), List.mem_of_getElem? (i := 577) (by decide +kernel), List.mem_of_getElem? (i := 578) (by decide +kernel)⟩
theorem lw_p55 : lw_okq (⟨"SavepointStoreModel", "openError", "(I)I"⟩, 14) := ⟨⟨by decide +kernel, by decide +kernel⟩, List.mem_of_getElem? (i := 502) (by decide +kernel), List.mem_of_getElem? (i := 585) (by decide +kernel), List.mem_of_getElem? (i := 586) (by decide +kernel)⟩
theorem lw_p56 : lw_okq (⟨"SavepointStoreModel", "doCommit", "(I)I"⟩, 14) := ⟨⟨by decide +kernel, by decide +kernel⟩, List.mem_of_getElem? (i := 502) (by decide +kernel), List.mem_of_getElem? (i := 589) (by decide +kernel), List.mem_of_getElem? (i := 590) (by decide +kernel)⟩
theorem lw_p57 : lw_okq (⟨"SavepointStoreModel", "others", "(II)I"⟩, 14) := ⟨⟨by decide +kernel, by decide +kernel⟩, List.mem_of_getElem? (i := 502) (by decide +kernel), List.mem_of_getElem? (i := 593) (by decide +kernel), List.mem_of_getElem? (i := 594) (by decide +kernel)⟩
theorem lw_p58 : lw_okq (⟨"SavepointStoreModel", "before", "(III)I"⟩, 14) := ⟨⟨by decide +kernel, by decide +kernel⟩, List.mem_of_getElem? (i := 502) (by decide +kernel), List.mem_of_getElem? (i := 597) (by decide +kernel), List.mem_of_getElem? (i := 598) (by decide +kernel)⟩
theorem lw_p59 : lw_okq (⟨"SavepointStoreModel", "close", "(I)V"⟩, 14) := ⟨⟨by decide +kernel, by decide +kernel⟩, List.mem_of_getElem? (i := 502) (by decide +kernel), List.mem_of_getElem? (i := 607) (by decide +kernel), List.mem_of_getElem? (i := 608) (by decide +kernel)⟩
theorem lw_p60 : lw_okq (⟨"SavepointStoreModel", "doRollback", "(I)I"⟩, 14) := ⟨⟨by decide +kernel, by decide +kernel⟩, List.mem_of_getElem? (i := 502) (by decide +kernel), List.mem_of_getElem? (i := 618) (by decide +kernel), List.mem_of_getElem? (i := 619) (by decide +kernel)⟩
theorem lw_p61 : lw_okq (⟨"SavepointStoreModel", "goBack", "(II)V"⟩, 14) := ⟨⟨by decide +kernel, by decide +kernel⟩, List.mem_of_getElem? (i := 502) (by decide +kernel), List.mem_of_getElem? (i := 622) (by decide +kernel), List.mem_of_getElem? (i := 623) (by decide +kernel)⟩
theorem lw_p62 : lw_okq (⟨"SavepointStoreModel", "modeBefore", "(III)I"⟩, 14) := ⟨⟨by decide +kernel, by decide +kernel⟩, List.mem_of_getElem? (i := 502) (by decide +kernel), List.mem_of_getElem? (i := 626) (by decide +kernel), List.mem_of_getElem? (i := 627) (by decide +kernel)⟩
theorem lw_p63 : lw_okq (⟨"SavepointStoreModel", "modeOf", "(II)I"⟩, 14) := ⟨⟨by decide +kernel, by decide +kernel⟩, List.mem_of_getElem? (i := 502) (by decide +kernel), List.mem_of_getElem? (i := 630) (by decide +kernel), List.mem_of_getElem? (i := 631) (by decide +kernel)⟩
def lw_privs_4 : List (MethodName × Nat) := [(⟨"SavepointStore$State", "hasSavepoint", "(II)Z"⟩, 4), (⟨"SavepointStore$Transaction", "locksChangedSince", "(I)I"⟩, 6), (⟨"SavepointStore$State", "valueSum", "()I"⟩, 4), (⟨"SavepointStoreModel", "record", "()V"⟩, 14), (⟨"SavepointStoreModel", "beginError", "(I)I"⟩, 14), (⟨"SavepointStoreModel", "isOpen", "(I)Z"⟩, 14), (⟨"SavepointStoreModel", "doBegin", "(I)I"⟩, 14), (⟨"SavepointStoreModel", "openError", "(I)I"⟩, 14), (⟨"SavepointStoreModel", "doCommit", "(I)I"⟩, 14), (⟨"SavepointStoreModel", "others", "(II)I"⟩, 14), (⟨"SavepointStoreModel", "before", "(III)I"⟩, 14), (⟨"SavepointStoreModel", "close", "(I)V"⟩, 14), (⟨"SavepointStoreModel", "doRollback", "(I)I"⟩, 14), (⟨"SavepointStoreModel", "goBack", "(II)V"⟩, 14), (⟨"SavepointStoreModel", "modeBefore", "(III)I"⟩, 14), (⟨"SavepointStoreModel", "modeOf", "(II)I"⟩, 14)]
theorem lw_r4 : ∀ q ∈ lw_privs_4, lw_okq q := List.forall_mem_cons.mpr ⟨lw_p48, List.forall_mem_cons.mpr ⟨lw_p49, List.forall_mem_cons.mpr ⟨lw_p50, List.forall_mem_cons.mpr ⟨lw_p51, List.forall_mem_cons.mpr ⟨lw_p52, List.forall_mem_cons.mpr ⟨lw_p53, List.forall_mem_cons.mpr ⟨lw_p54, List.forall_mem_cons.mpr ⟨lw_p55, List.forall_mem_cons.mpr ⟨lw_p56, List.forall_mem_cons.mpr ⟨lw_p57, List.forall_mem_cons.mpr ⟨lw_p58, List.forall_mem_cons.mpr ⟨lw_p59, List.forall_mem_cons.mpr ⟨lw_p60, List.forall_mem_cons.mpr ⟨lw_p61, List.forall_mem_cons.mpr ⟨lw_p62, List.forall_mem_cons.mpr ⟨lw_p63, fun _ h => absurd h List.not_mem_nil⟩⟩⟩⟩⟩⟩⟩⟩⟩⟩⟩⟩⟩⟩⟩⟩
theorem lw_p64 : lw_okq (⟨"SavepointStoreModel", "savepointError", "(II)I"⟩, 14) := ⟨⟨by decide +kernel, by decide +kernel⟩, List.mem_of_getElem? (i := 502) (by decide +kernel), List.mem_of_getElem? (i := 644) (by decide +kernel), List.mem_of_getElem? (i := 645) (by decide +kernel)⟩
theorem lw_p65 : lw_okq (⟨"SavepointStoreModel", "doSavepoint", "(II)I"⟩, 14) := ⟨⟨by decide +kernel, by decide +kernel⟩, List.mem_of_getElem? (i := 502) (by decide +kernel), List.mem_of_getElem? (i := 651) (by decide +kernel), List.mem_of_getElem? (i := 652) (by decide +kernel)⟩
theorem lw_p66 : lw_okq (⟨"SavepointStoreModel", "nameError", "(II)I"⟩, 14) := ⟨⟨by decide +kernel, by decide +kernel⟩, List.mem_of_getElem? (i := 502) (by decide +kernel), List.mem_of_getElem? (i := 659) (by decide +kernel), List.mem_of_getElem? (i := 660) (by decide +kernel)⟩
theorem lw_p67 : lw_okq (⟨"SavepointStoreModel", "nearestOf", "(II)I"⟩, 14) := ⟨⟨by decide +kernel, by decide +kernel⟩, List.mem_of_getElem? (i := 502) (by decide +kernel), List.mem_of_getElem? (i := 663) (by decide +kernel), List.mem_of_getElem? (i := 664) (by decide +kernel)⟩
theorem lw_p68 : lw_okq (⟨"SavepointStoreModel", "doUndoTo", "(II)I"⟩, 14) := ⟨⟨by decide +kernel, by decide +kernel⟩, List.mem_of_getElem? (i := 502) (by decide +kernel), List.mem_of_getElem? (i := 667) (by decide +kernel), List.mem_of_getElem? (i := 668) (by decide +kernel)⟩
theorem lw_p69 : lw_okq (⟨"SavepointStoreModel", "doRelease", "(II)I"⟩, 14) := ⟨⟨by decide +kernel, by decide +kernel⟩, List.mem_of_getElem? (i := 502) (by decide +kernel), List.mem_of_getElem? (i := 675) (by decide +kernel), List.mem_of_getElem? (i := 676) (by decide +kernel)⟩
theorem lw_p70 : lw_okq (⟨"SavepointStoreModel", "keyError", "(II)I"⟩, 14) := ⟨⟨by decide +kernel, by decide +kernel⟩, List.mem_of_getElem? (i := 502) (by decide +kernel), List.mem_of_getElem? (i := 683) (by decide +kernel), List.mem_of_getElem? (i := 684) (by decide +kernel)⟩
theorem lw_p71 : lw_okq (⟨"SavepointStoreModel", "doRead", "(II)I"⟩, 14) := ⟨⟨by decide +kernel, by decide +kernel⟩, List.mem_of_getElem? (i := 502) (by decide +kernel), List.mem_of_getElem? (i := 690) (by decide +kernel), List.mem_of_getElem? (i := 691) (by decide +kernel)⟩
theorem lw_p72 : lw_okq (⟨"SavepointStoreModel", "beginStatement", "()V"⟩, 14) := ⟨⟨by decide +kernel, by decide +kernel⟩, List.mem_of_getElem? (i := 502) (by decide +kernel), List.mem_of_getElem? (i := 694) (by decide +kernel), List.mem_of_getElem? (i := 695) (by decide +kernel)⟩
theorem lw_p73 : lw_okq (⟨"SavepointStoreModel", "takes", "(III)Z"⟩, 14) := ⟨⟨by decide +kernel, by decide +kernel⟩, List.mem_of_getElem? (i := 502) (by decide +kernel), List.mem_of_getElem? (i := 698) (by decide +kernel), List.mem_of_getElem? (i := 699) (by decide +kernel)⟩
theorem lw_p74 : lw_okq (⟨"SavepointStoreModel", "isBusy", "(III)Z"⟩, 14) := ⟨⟨by decide +kernel, by decide +kernel⟩, List.mem_of_getElem? (i := 502) (by decide +kernel), List.mem_of_getElem? (i := 702) (by decide +kernel), List.mem_of_getElem? (i := 703) (by decide +kernel)⟩
theorem lw_p75 : lw_okq (⟨"SavepointStoreModel", "endWell", "(II)I"⟩, 14) := ⟨⟨by decide +kernel, by decide +kernel⟩, List.mem_of_getElem? (i := 502) (by decide +kernel), List.mem_of_getElem? (i := 709) (by decide +kernel), List.mem_of_getElem? (i := 710) (by decide +kernel)⟩
theorem lw_p76 : lw_okq (⟨"SavepointStoreModel", "endBadly", "(II)I"⟩, 14) := ⟨⟨by decide +kernel, by decide +kernel⟩, List.mem_of_getElem? (i := 502) (by decide +kernel), List.mem_of_getElem? (i := 713) (by decide +kernel), List.mem_of_getElem? (i := 714) (by decide +kernel)⟩
theorem lw_p77 : lw_okq (⟨"SavepointStoreModel", "writeError", "(III)I"⟩, 14) := ⟨⟨by decide +kernel, by decide +kernel⟩, List.mem_of_getElem? (i := 502) (by decide +kernel), List.mem_of_getElem? (i := 721) (by decide +kernel), List.mem_of_getElem? (i := 722) (by decide +kernel)⟩
theorem lw_p78 : lw_okq (⟨"SavepointStoreModel", "doWrite", "(III)I"⟩, 14) := ⟨⟨by decide +kernel, by decide +kernel⟩, List.mem_of_getElem? (i := 502) (by decide +kernel), List.mem_of_getElem? (i := 725) (by decide +kernel), List.mem_of_getElem? (i := 726) (by decide +kernel)⟩
theorem lw_p79 : lw_okq (⟨"SavepointStoreModel", "change", "(II)V"⟩, 14) := ⟨⟨by decide +kernel, by decide +kernel⟩, List.mem_of_getElem? (i := 502) (by decide +kernel), List.mem_of_getElem? (i := 729) (by decide +kernel), List.mem_of_getElem? (i := 730) (by decide +kernel)⟩
def lw_privs_5 : List (MethodName × Nat) := [(⟨"SavepointStoreModel", "savepointError", "(II)I"⟩, 14), (⟨"SavepointStoreModel", "doSavepoint", "(II)I"⟩, 14), (⟨"SavepointStoreModel", "nameError", "(II)I"⟩, 14), (⟨"SavepointStoreModel", "nearestOf", "(II)I"⟩, 14), (⟨"SavepointStoreModel", "doUndoTo", "(II)I"⟩, 14), (⟨"SavepointStoreModel", "doRelease", "(II)I"⟩, 14), (⟨"SavepointStoreModel", "keyError", "(II)I"⟩, 14), (⟨"SavepointStoreModel", "doRead", "(II)I"⟩, 14), (⟨"SavepointStoreModel", "beginStatement", "()V"⟩, 14), (⟨"SavepointStoreModel", "takes", "(III)Z"⟩, 14), (⟨"SavepointStoreModel", "isBusy", "(III)Z"⟩, 14), (⟨"SavepointStoreModel", "endWell", "(II)I"⟩, 14), (⟨"SavepointStoreModel", "endBadly", "(II)I"⟩, 14), (⟨"SavepointStoreModel", "writeError", "(III)I"⟩, 14), (⟨"SavepointStoreModel", "doWrite", "(III)I"⟩, 14), (⟨"SavepointStoreModel", "change", "(II)V"⟩, 14)]
theorem lw_r5 : ∀ q ∈ lw_privs_5, lw_okq q := List.forall_mem_cons.mpr ⟨lw_p64, List.forall_mem_cons.mpr ⟨lw_p65, List.forall_mem_cons.mpr ⟨lw_p66, List.forall_mem_cons.mpr ⟨lw_p67, List.forall_mem_cons.mpr ⟨lw_p68, List.forall_mem_cons.mpr ⟨lw_p69, List.forall_mem_cons.mpr ⟨lw_p70, List.forall_mem_cons.mpr ⟨lw_p71, List.forall_mem_cons.mpr ⟨lw_p72, List.forall_mem_cons.mpr ⟨lw_p73, List.forall_mem_cons.mpr ⟨lw_p74, List.forall_mem_cons.mpr ⟨lw_p75, List.forall_mem_cons.mpr ⟨lw_p76, List.forall_mem_cons.mpr ⟨lw_p77, List.forall_mem_cons.mpr ⟨lw_p78, List.forall_mem_cons.mpr ⟨lw_p79, fun _ h => absurd h List.not_mem_nil⟩⟩⟩⟩⟩⟩⟩⟩⟩⟩⟩⟩⟩⟩⟩⟩
theorem lw_p80 : lw_okq (⟨"SavepointStoreModel", "add", "(IIIZ)I"⟩, 14) := ⟨⟨by decide +kernel, by decide +kernel⟩, List.mem_of_getElem? (i := 502) (by decide +kernel), List.mem_of_getElem? (i := 742) (by decide +kernel), List.mem_of_getElem? (i := 743) (by decide +kernel)⟩
theorem lw_p81 : lw_okq (⟨"SavepointStoreModel", "readText", "(Z)Z"⟩, 14) := ⟨⟨by decide +kernel, by decide +kernel⟩, List.mem_of_getElem? (i := 502) (by decide +kernel), List.mem_of_getElem? (i := 765) (by decide +kernel), List.mem_of_getElem? (i := 766) (by decide +kernel)⟩
theorem lw_p82 : lw_okq (⟨"SavepointStoreModel", "readOrder", "()Z"⟩, 14) := ⟨⟨by decide +kernel, by decide +kernel⟩, List.mem_of_getElem? (i := 502) (by decide +kernel), List.mem_of_getElem? (i := 769) (by decide +kernel), List.mem_of_getElem? (i := 770) (by decide +kernel)⟩
theorem lw_p83 : lw_okq (⟨"SavepointStoreModel", "isNext", "(II)Z"⟩, 14) := ⟨⟨by decide +kernel, by decide +kernel⟩, List.mem_of_getElem? (i := 502) (by decide +kernel), List.mem_of_getElem? (i := 773) (by decide +kernel), List.mem_of_getElem? (i := 774) (by decide +kernel)⟩
theorem lw_p84 : lw_okq (⟨"SavepointStoreModel", "readName", "()Z"⟩, 14) := ⟨⟨by decide +kernel, by decide +kernel⟩, List.mem_of_getElem? (i := 502) (by decide +kernel), List.mem_of_getElem? (i := 777) (by decide +kernel), List.mem_of_getElem? (i := 778) (by decide +kernel)⟩
theorem lw_p85 : lw_okq (⟨"SavepointStoreModel", "readKey", "()Z"⟩, 14) := ⟨⟨by decide +kernel, by decide +kernel⟩, List.mem_of_getElem? (i := 502) (by decide +kernel), List.mem_of_getElem? (i := 781) (by decide +kernel), List.mem_of_getElem? (i := 782) (by decide +kernel)⟩
theorem lw_p86 : lw_okq (⟨"SavepointStoreModel", "readNumber", "(I)I"⟩, 14) := ⟨⟨by decide +kernel, by decide +kernel⟩, List.mem_of_getElem? (i := 502) (by decide +kernel), List.mem_of_getElem? (i := 785) (by decide +kernel), List.mem_of_getElem? (i := 786) (by decide +kernel)⟩
theorem lw_p87 : lw_okq (⟨"SavepointStoreModel", "passes", "(I)Z"⟩, 14) := ⟨⟨by decide +kernel, by decide +kernel⟩, List.mem_of_getElem? (i := 502) (by decide +kernel), List.mem_of_getElem? (i := 789) (by decide +kernel), List.mem_of_getElem? (i := 790) (by decide +kernel)⟩
theorem lw_p88 : lw_okq (⟨"SavepointStoreModel", "errorOfOrder", "()I"⟩, 14) := ⟨⟨by decide +kernel, by decide +kernel⟩, List.mem_of_getElem? (i := 502) (by decide +kernel), List.mem_of_getElem? (i := 793) (by decide +kernel), List.mem_of_getElem? (i := 794) (by decide +kernel)⟩
theorem lw_p89 : lw_okq (⟨"SavepointStoreModel", "carryOut", "()I"⟩, 14) := ⟨⟨by decide +kernel, by decide +kernel⟩, List.mem_of_getElem? (i := 502) (by decide +kernel), List.mem_of_getElem? (i := 797) (by decide +kernel), List.mem_of_getElem? (i := 798) (by decide +kernel)⟩
theorem lw_p90 : lw_okq (⟨"SavepointStoreModel", "valued", "()I"⟩, 14) := ⟨⟨by decide +kernel, by decide +kernel⟩, List.mem_of_getElem? (i := 502) (by decide +kernel), List.mem_of_getElem? (i := 813) (by decide +kernel), List.mem_of_getElem? (i := 814) (by decide +kernel)⟩
theorem lw_p91 : lw_okq (⟨"SavepointStoreModel", "since", "(III)I"⟩, 14) := ⟨⟨by decide +kernel, by decide +kernel⟩, List.mem_of_getElem? (i := 502) (by decide +kernel), List.mem_of_getElem? (i := 829) (by decide +kernel), List.mem_of_getElem? (i := 830) (by decide +kernel)⟩
theorem lw_p92 : lw_okq (⟨"SavepointStoreModel", "keysWith", "(II)I"⟩, 14) := ⟨⟨by decide +kernel, by decide +kernel⟩, List.mem_of_getElem? (i := 502) (by decide +kernel), List.mem_of_getElem? (i := 845) (by decide +kernel), List.mem_of_getElem? (i := 846) (by decide +kernel)⟩
theorem lw_p93 : lw_okq (⟨"SavepointStoreModel", "isSavepoint", "(II)Z"⟩, 14) := ⟨⟨by decide +kernel, by decide +kernel⟩, List.mem_of_getElem? (i := 502) (by decide +kernel), List.mem_of_getElem? (i := 853) (by decide +kernel), List.mem_of_getElem? (i := 854) (by decide +kernel)⟩
def lw_privs_6 : List (MethodName × Nat) := [(⟨"SavepointStoreModel", "add", "(IIIZ)I"⟩, 14), (⟨"SavepointStoreModel", "readText", "(Z)Z"⟩, 14), (⟨"SavepointStoreModel", "readOrder", "()Z"⟩, 14), (⟨"SavepointStoreModel", "isNext", "(II)Z"⟩, 14), (⟨"SavepointStoreModel", "readName", "()Z"⟩, 14), (⟨"SavepointStoreModel", "readKey", "()Z"⟩, 14), (⟨"SavepointStoreModel", "readNumber", "(I)I"⟩, 14), (⟨"SavepointStoreModel", "passes", "(I)Z"⟩, 14), (⟨"SavepointStoreModel", "errorOfOrder", "()I"⟩, 14), (⟨"SavepointStoreModel", "carryOut", "()I"⟩, 14), (⟨"SavepointStoreModel", "valued", "()I"⟩, 14), (⟨"SavepointStoreModel", "since", "(III)I"⟩, 14), (⟨"SavepointStoreModel", "keysWith", "(II)I"⟩, 14), (⟨"SavepointStoreModel", "isSavepoint", "(II)Z"⟩, 14)]
theorem lw_r6 : ∀ q ∈ lw_privs_6, lw_okq q := List.forall_mem_cons.mpr ⟨lw_p80, List.forall_mem_cons.mpr ⟨lw_p81, List.forall_mem_cons.mpr ⟨lw_p82, List.forall_mem_cons.mpr ⟨lw_p83, List.forall_mem_cons.mpr ⟨lw_p84, List.forall_mem_cons.mpr ⟨lw_p85, List.forall_mem_cons.mpr ⟨lw_p86, List.forall_mem_cons.mpr ⟨lw_p87, List.forall_mem_cons.mpr ⟨lw_p88, List.forall_mem_cons.mpr ⟨lw_p89, List.forall_mem_cons.mpr ⟨lw_p90, List.forall_mem_cons.mpr ⟨lw_p91, List.forall_mem_cons.mpr ⟨lw_p92, List.forall_mem_cons.mpr ⟨lw_p93, fun _ h => absurd h List.not_mem_nil⟩⟩⟩⟩⟩⟩⟩⟩⟩⟩⟩⟩⟩⟩
def lw_privs : List (MethodName × Nat) := lw_privs_1 ++ (lw_privs_2 ++ (lw_privs_3 ++ (lw_privs_4 ++ (lw_privs_5 ++ (lw_privs_6)))))
def lw_tbl : List Cond := k2_sels lw_privs ++ tables_1
theorem lw_privs_ok : ∀ q ∈ lw_privs, lw_okq q := by
  show ∀ q ∈ lw_privs_1 ++ (lw_privs_2 ++ (lw_privs_3 ++ (lw_privs_4 ++ (lw_privs_5 ++ (lw_privs_6))))), lw_okq q
  exact List.forall_mem_append.mpr ⟨lw_r1, List.forall_mem_append.mpr ⟨lw_r2, List.forall_mem_append.mpr ⟨lw_r3, List.forall_mem_append.mpr ⟨lw_r4, List.forall_mem_append.mpr ⟨lw_r5, lw_r6⟩⟩⟩⟩⟩
/-- the streams that the claim lets the run draw from -/
abbrev lw_cs : List Choice := [Jvm.Choice.named "NaN.bits"]
theorem lw_bits : nanBits ∈ lw_cs := by first | decide | exact List.mem_cons_self | simp [lw_cs, nanBits]
-- ===== end of PART A; then your names; then what follows =====
def RX0 : String := "SavepointStore$Script"
def TX0 : u_T := fun k => match k with
  | 0 => ("SavepointStore$Script", "text", "[C", true)
  | _ => ("SavepointStore$Script", "length", "I", false)
def tyX0 : Nat → FieldType := fun k => match k with
  | 0 => .array .char
  | _ => .int
theorem nmX0 : ∀ a, a < 2 → ∀ b, b < 2 → a ≠ b → (TX0 a).2.1 ≠ (TX0 b).2.1 := by decide +kernel
theorem tyX0_ok : ∀ k, k < 2 → parseFieldDescriptor (TX0 k).2.2.1 = some (tyX0 k) := by decide +kernel
abbrev cX0_init : ByteArray := prog_2_method_1_code
def yX0_init : MethodName := ⟨RX0, "<init>", "()V"⟩
abbrev cX0_addCharacter : ByteArray := prog_2_method_2_code
def yX0_addCharacter : MethodName := ⟨RX0, "addCharacter", "(C)I"⟩
abbrev cX0_firstFault : ByteArray := prog_2_method_3_code
def yX0_firstFault : MethodName := ⟨RX0, "firstFault", "()I"⟩
abbrev cX0_canEndOrder : ByteArray := prog_2_method_4_code
def yX0_canEndOrder : MethodName := ⟨RX0, "canEndOrder", "(I)Z"⟩
abbrev cX0_placeAfter : ByteArray := prog_2_method_5_code
def yX0_placeAfter : MethodName := ⟨RX0, "placeAfter", "(IC)I"⟩
abbrev cX0_placeAfterKind : ByteArray := prog_2_method_6_code
def yX0_placeAfterKind : MethodName := ⟨RX0, "placeAfterKind", "(C)I"⟩
abbrev cX0_placeAfterKeyDigit : ByteArray := prog_2_method_7_code
def yX0_placeAfterKeyDigit : MethodName := ⟨RX0, "placeAfterKeyDigit", "(CII)I"⟩
abbrev cX0_placeInValue : ByteArray := prog_2_method_8_code
def yX0_placeInValue : MethodName := ⟨RX0, "placeInValue", "(IC)I"⟩
abbrev cX0_isBetween : ByteArray := prog_2_method_9_code
def yX0_isBetween : MethodName := ⟨RX0, "isBetween", "(CCC)Z"⟩
abbrev cX0_characterAt : ByteArray := prog_2_method_10_code
def yX0_characterAt : MethodName := ⟨RX0, "characterAt", "(I)C"⟩
abbrev cX0_startsOrder : ByteArray := prog_2_method_11_code
def yX0_startsOrder : MethodName := ⟨RX0, "startsOrder", "(I)Z"⟩
abbrev cX0_endOfNumber : ByteArray := prog_2_method_12_code
def yX0_endOfNumber : MethodName := ⟨RX0, "endOfNumber", "(I)I"⟩
abbrev cX0_numberAt : ByteArray := prog_2_method_13_code
def yX0_numberAt : MethodName := ⟨RX0, "numberAt", "(I)I"⟩
def RX1 : String := "SavepointStore$State"
def TX1 : u_T := fun k => match k with
  | 0 => ("SavepointStore$State", "isKept", "Z", false)
  | 1 => ("SavepointStore$State", "values", "[I", true)
  | 2 => ("SavepointStore$State", "transactions", "[LSavepointStore$Transaction;", true)
  | _ => ("SavepointStore$State", "totals", "[I", true)
def tyX1 : Nat → FieldType := fun k => match k with
  | 0 => .boolean
  | 1 => .array .int
  | 2 => .array (.object "SavepointStore$Transaction")
  | _ => .array .int
theorem nmX1 : ∀ a, a < 4 → ∀ b, b < 4 → a ≠ b → (TX1 a).2.1 ≠ (TX1 b).2.1 := by decide +kernel
theorem tyX1_ok : ∀ k, k < 4 → parseFieldDescriptor (TX1 k).2.2.1 = some (tyX1 k) := by decide +kernel
abbrev cX1_init : ByteArray := prog_3_method_1_code
def yX1_init : MethodName := ⟨RX1, "<init>", "()V"⟩
abbrev cX1_copyFrom : ByteArray := prog_3_method_2_code
def yX1_copyFrom : MethodName := ⟨RX1, "copyFrom", "(LSavepointStore$State;)V"⟩
abbrev cX1_valueCount : ByteArray := prog_3_method_3_code
def yX1_valueCount : MethodName := ⟨RX1, "valueCount", "()I"⟩
abbrev cX1_valueSum : ByteArray := prog_3_method_4_code
def yX1_valueSum : MethodName := ⟨RX1, "valueSum", "()I"⟩
abbrev cX1_committedValue : ByteArray := prog_3_method_5_code
def yX1_committedValue : MethodName := ⟨RX1, "committedValue", "(I)I"⟩
abbrev cX1_hasSavepoint : ByteArray := prog_3_method_6_code
def yX1_hasSavepoint : MethodName := ⟨RX1, "hasSavepoint", "(II)Z"⟩
abbrev cX1_openTransaction : ByteArray := prog_3_method_7_code
def yX1_openTransaction : MethodName := ⟨RX1, "openTransaction", "(I)I"⟩
abbrev cX1_commitTransaction : ByteArray := prog_3_method_8_code
def yX1_commitTransaction : MethodName := ⟨RX1, "commitTransaction", "(I)I"⟩
abbrev cX1_rollTransactionBack : ByteArray := prog_3_method_9_code
def yX1_rollTransactionBack : MethodName := ⟨RX1, "rollTransactionBack", "(I)I"⟩
abbrev cX1_setSavepoint : ByteArray := prog_3_method_10_code
def yX1_setSavepoint : MethodName := ⟨RX1, "setSavepoint", "(II)I"⟩
abbrev cX1_undoToName : ByteArray := prog_3_method_11_code
def yX1_undoToName : MethodName := ⟨RX1, "undoToName", "(II)I"⟩
abbrev cX1_releaseName : ByteArray := prog_3_method_12_code
def yX1_releaseName : MethodName := ⟨RX1, "releaseName", "(II)I"⟩
abbrev cX1_savepointOrError : ByteArray := prog_3_method_13_code
def yX1_savepointOrError : MethodName := ⟨RX1, "savepointOrError", "(II)I"⟩
abbrev cX1_readKey : ByteArray := prog_3_method_14_code
def yX1_readKey : MethodName := ⟨RX1, "readKey", "(II)I"⟩
abbrev cX1_writeKey : ByteArray := prog_3_method_15_code
def yX1_writeKey : MethodName := ⟨RX1, "writeKey", "(III)I"⟩
abbrev cX1_eraseKey : ByteArray := prog_3_method_16_code
def yX1_eraseKey : MethodName := ⟨RX1, "eraseKey", "(II)I"⟩
abbrev cX1_shiftKeys : ByteArray := prog_3_method_17_code
def yX1_shiftKeys : MethodName := ⟨RX1, "shiftKeys", "(III)I"⟩
abbrev cX1_moveAmount : ByteArray := prog_3_method_18_code
def yX1_moveAmount : MethodName := ⟨RX1, "moveAmount", "(IIII)I"⟩
abbrev cX1_whyImpossible : ByteArray := prog_3_method_19_code
def yX1_whyImpossible : MethodName := ⟨RX1, "whyImpossible", "(IZZ)I"⟩
abbrev cX1_endStatement : ByteArray := prog_3_method_20_code
def yX1_endStatement : MethodName := ⟨RX1, "endStatement", "(II)I"⟩
abbrev cX1_replaceValue : ByteArray := prog_3_method_21_code
def yX1_replaceValue : MethodName := ⟨RX1, "replaceValue", "(III)I"⟩
abbrev cX1_addToValue : ByteArray := prog_3_method_22_code
def yX1_addToValue : MethodName := ⟨RX1, "addToValue", "(IIII)I"⟩
abbrev cX1_takeLock : ByteArray := prog_3_method_23_code
def yX1_takeLock : MethodName := ⟨RX1, "takeLock", "(III)Z"⟩
abbrev cX1_isBusy : ByteArray := prog_3_method_24_code
def yX1_isBusy : MethodName := ⟨RX1, "isBusy", "(III)Z"⟩
abbrev cX1_undoToMoment : ByteArray := prog_3_method_25_code
def yX1_undoToMoment : MethodName := ⟨RX1, "undoToMoment", "(LSavepointStore$Transaction;I)I"⟩
def RX2 : String := "SavepointStore$Transaction"
def TX2 : u_T := fun k => match k with
  | 0 => ("SavepointStore$Transaction", "momentCount", "I", false)
  | 1 => ("SavepointStore$Transaction", "locks", "I", false)
  | 2 => ("SavepointStore$Transaction", "locksAt", "[I", true)
  | 3 => ("SavepointStore$Transaction", "names", "[I", true)
  | 4 => ("SavepointStore$Transaction", "changedKeys", "[I", true)
  | _ => ("SavepointStore$Transaction", "valuesBefore", "[I", true)
def tyX2 : Nat → FieldType := fun k => match k with
  | 0 => .int
  | 1 => .int
  | 2 => .array .int
  | 3 => .array .int
  | 4 => .array .int
  | _ => .array .int
theorem nmX2 : ∀ a, a < 6 → ∀ b, b < 6 → a ≠ b → (TX2 a).2.1 ≠ (TX2 b).2.1 := by decide +kernel
theorem tyX2_ok : ∀ k, k < 6 → parseFieldDescriptor (TX2 k).2.2.1 = some (tyX2 k) := by decide +kernel
abbrev cX2_init : ByteArray := prog_4_method_1_code
def yX2_init : MethodName := ⟨RX2, "<init>", "()V"⟩
abbrev cX2_isOpen : ByteArray := prog_4_method_2_code
def yX2_isOpen : MethodName := ⟨RX2, "isOpen", "()Z"⟩
abbrev cX2_savepointCount : ByteArray := prog_4_method_3_code
def yX2_savepointCount : MethodName := ⟨RX2, "savepointCount", "()I"⟩
abbrev cX2_addMoment : ByteArray := prog_4_method_4_code
def yX2_addMoment : MethodName := ⟨RX2, "addMoment", "()V"⟩
abbrev cX2_close : ByteArray := prog_4_method_5_code
def yX2_close : MethodName := ⟨RX2, "close", "()V"⟩
abbrev cX2_nearestSavepoint : ByteArray := prog_4_method_6_code
def yX2_nearestSavepoint : MethodName := ⟨RX2, "nearestSavepoint", "(I)I"⟩
abbrev cX2_lockMode : ByteArray := prog_4_method_7_code
def yX2_lockMode : MethodName := ⟨RX2, "lockMode", "(I)I"⟩
abbrev cX2_setLockMode : ByteArray := prog_4_method_8_code
def yX2_setLockMode : MethodName := ⟨RX2, "setLockMode", "(II)V"⟩
abbrev cX2_lockCount : ByteArray := prog_4_method_9_code
def yX2_lockCount : MethodName := ⟨RX2, "lockCount", "(I)I"⟩
abbrev cX2_locksChangedSince : ByteArray := prog_4_method_10_code
def yX2_locksChangedSince : MethodName := ⟨RX2, "locksChangedSince", "(I)I"⟩
abbrev cX2_undoLocks : ByteArray := prog_4_method_11_code
def yX2_undoLocks : MethodName := ⟨RX2, "undoLocks", "(I)V"⟩
abbrev cX2_noteChange : ByteArray := prog_4_method_12_code
def yX2_noteChange : MethodName := ⟨RX2, "noteChange", "(II)V"⟩
abbrev cX2_noteChangeAt : ByteArray := prog_4_method_13_code
def yX2_noteChangeAt : MethodName := ⟨RX2, "noteChangeAt", "(III)V"⟩
abbrev cX2_keysChangedSince : ByteArray := prog_4_method_14_code
def yX2_keysChangedSince : MethodName := ⟨RX2, "keysChangedSince", "(I)I"⟩
abbrev cX2_valueAt : ByteArray := prog_4_method_15_code
def yX2_valueAt : MethodName := ⟨RX2, "valueAt", "(III)I"⟩
abbrev cX2_forgetChangesSince : ByteArray := prog_4_method_16_code
def yX2_forgetChangesSince : MethodName := ⟨RX2, "forgetChangesSince", "(I)V"⟩
abbrev cX2_dropMomentsAfter : ByteArray := prog_4_method_17_code
def yX2_dropMomentsAfter : MethodName := ⟨RX2, "dropMomentsAfter", "(I)V"⟩
abbrev cX2_copyFrom : ByteArray := prog_4_method_18_code
def yX2_copyFrom : MethodName := ⟨RX2, "copyFrom", "(LSavepointStore$Transaction;)V"⟩
def RX3 : String := "SavepointStore"
def TX3 : u_T := fun k => match k with
  | 0 => ("SavepointStore", "now", "LSavepointStore$State;", true)
  | 1 => ("SavepointStore", "snapshot", "LSavepointStore$State;", true)
  | 2 => ("SavepointStore", "hasSnapshot", "Z", false)
  | 3 => ("SavepointStore", "history", "[LSavepointStore$State;", true)
  | 4 => ("SavepointStore", "oldestSlot", "I", false)
  | 5 => ("SavepointStore", "historyLength", "I", false)
  | _ => ("SavepointStore", "script", "LSavepointStore$Script;", true)
def tyX3 : Nat → FieldType := fun k => match k with
  | 0 => .object "SavepointStore$State"
  | 1 => .object "SavepointStore$State"
  | 2 => .boolean
  | 3 => .array (.object "SavepointStore$State")
  | 4 => .int
  | 5 => .int
  | _ => .object "SavepointStore$Script"
theorem nmX3 : ∀ a, a < 7 → ∀ b, b < 7 → a ≠ b → (TX3 a).2.1 ≠ (TX3 b).2.1 := by decide +kernel
theorem tyX3_ok : ∀ k, k < 7 → parseFieldDescriptor (TX3 k).2.2.1 = some (tyX3 k) := by decide +kernel
abbrev cX3_init : ByteArray := prog_1_method_1_code
def yX3_init : MethodName := ⟨RX3, "<init>", "()V"⟩
abbrev cX3_keep : ByteArray := prog_1_method_2_code
def yX3_keep : MethodName := ⟨RX3, "keep", "(Z)I"⟩
abbrev cX3_begin : ByteArray := prog_1_method_3_code
def yX3_begin : MethodName := ⟨RX3, "begin", "(I)I"⟩
abbrev cX3_commit : ByteArray := prog_1_method_4_code
def yX3_commit : MethodName := ⟨RX3, "commit", "(I)I"⟩
abbrev cX3_rollback : ByteArray := prog_1_method_5_code
def yX3_rollback : MethodName := ⟨RX3, "rollback", "(I)I"⟩
abbrev cX3_savepoint : ByteArray := prog_1_method_6_code
def yX3_savepoint : MethodName := ⟨RX3, "savepoint", "(II)I"⟩
abbrev cX3_undoTo : ByteArray := prog_1_method_7_code
def yX3_undoTo : MethodName := ⟨RX3, "undoTo", "(II)I"⟩
abbrev cX3_release : ByteArray := prog_1_method_8_code
def yX3_release : MethodName := ⟨RX3, "release", "(II)I"⟩
abbrev cX3_read : ByteArray := prog_1_method_9_code
def yX3_read : MethodName := ⟨RX3, "read", "(II)I"⟩
abbrev cX3_write : ByteArray := prog_1_method_10_code
def yX3_write : MethodName := ⟨RX3, "write", "(III)I"⟩
abbrev cX3_erase : ByteArray := prog_1_method_11_code
def yX3_erase : MethodName := ⟨RX3, "erase", "(II)I"⟩
abbrev cX3_shift : ByteArray := prog_1_method_12_code
def yX3_shift : MethodName := ⟨RX3, "shift", "(III)I"⟩
abbrev cX3_move : ByteArray := prog_1_method_13_code
def yX3_move : MethodName := ⟨RX3, "move", "(IIII)I"⟩
abbrev cX3_append : ByteArray := prog_1_method_14_code
def yX3_append : MethodName := ⟨RX3, "append", "(I)I"⟩
abbrev cX3_clearText : ByteArray := prog_1_method_15_code
def yX3_clearText : MethodName := ⟨RX3, "clearText", "()I"⟩
abbrev cX3_fault : ByteArray := prog_1_method_16_code
def yX3_fault : MethodName := ⟨RX3, "fault", "()I"⟩
abbrev cX3_perform : ByteArray := prog_1_method_17_code
def yX3_perform : MethodName := ⟨RX3, "perform", "()I"⟩
abbrev cX3_undo : ByteArray := prog_1_method_18_code
def yX3_undo : MethodName := ⟨RX3, "undo", "()I"⟩
abbrev cX3_save : ByteArray := prog_1_method_19_code
def yX3_save : MethodName := ⟨RX3, "save", "()I"⟩
abbrev cX3_restore : ByteArray := prog_1_method_20_code
def yX3_restore : MethodName := ⟨RX3, "restore", "()I"⟩
abbrev cX3_value : ByteArray := prog_1_method_21_code
def yX3_value : MethodName := ⟨RX3, "value", "(I)I"⟩
abbrev cX3_committed : ByteArray := prog_1_method_22_code
def yX3_committed : MethodName := ⟨RX3, "committed", "(I)I"⟩
abbrev cX3_mode : ByteArray := prog_1_method_23_code
def yX3_mode : MethodName := ⟨RX3, "mode", "(II)I"⟩
abbrev cX3_busyFor : ByteArray := prog_1_method_24_code
def yX3_busyFor : MethodName := ⟨RX3, "busyFor", "(II)I"⟩
abbrev cX3_session : ByteArray := prog_1_method_25_code
def yX3_session : MethodName := ⟨RX3, "session", "(II)I"⟩
abbrev cX3_nameOf : ByteArray := prog_1_method_26_code
def yX3_nameOf : MethodName := ⟨RX3, "nameOf", "(II)I"⟩
abbrev cX3_nearest : ByteArray := prog_1_method_27_code
def yX3_nearest : MethodName := ⟨RX3, "nearest", "(II)I"⟩
abbrev cX3_changedSince : ByteArray := prog_1_method_28_code
def yX3_changedSince : MethodName := ⟨RX3, "changedSince", "(IIZ)I"⟩
abbrev cX3_ifUndone : ByteArray := prog_1_method_29_code
def yX3_ifUndone : MethodName := ⟨RX3, "ifUndone", "(III)I"⟩
abbrev cX3_total : ByteArray := prog_1_method_30_code
def yX3_total : MethodName := ⟨RX3, "total", "(I)I"⟩
abbrev cX3_mean : ByteArray := prog_1_method_31_code
def yX3_mean : MethodName := ⟨RX3, "mean", "()D"⟩
abbrev cX3_slotBehindHistory : ByteArray := prog_1_method_32_code
def yX3_slotBehindHistory : MethodName := ⟨RX3, "slotBehindHistory", "()I"⟩
abbrev cX3_rememberState : ByteArray := prog_1_method_33_code
def yX3_rememberState : MethodName := ⟨RX3, "rememberState", "()V"⟩
abbrev cX3_recordUnlessError : ByteArray := prog_1_method_34_code
def yX3_recordUnlessError : MethodName := ⟨RX3, "recordUnlessError", "(I)I"⟩
abbrev cX3_performOrder : ByteArray := prog_1_method_35_code
def yX3_performOrder : MethodName := ⟨RX3, "performOrder", "(I)I"⟩
abbrev cX3_isError : ByteArray := prog_1_method_36_code
def yX3_isError : MethodName := ⟨RX3, "isError", "(I)Z"⟩
abbrev cX3_isSession : ByteArray := prog_1_method_37_code
def yX3_isSession : MethodName := ⟨RX3, "isSession", "(I)Z"⟩
abbrev cX3_isKey : ByteArray := prog_1_method_38_code
def yX3_isKey : MethodName := ⟨RX3, "isKey", "(I)Z"⟩
abbrev cX3_isName : ByteArray := prog_1_method_39_code
def yX3_isName : MethodName := ⟨RX3, "isName", "(I)Z"⟩
abbrev cX3_isValue : ByteArray := prog_1_method_40_code
def yX3_isValue : MethodName := ⟨RX3, "isValue", "(I)Z"⟩
abbrev cX3_momentOf : ByteArray := prog_1_method_41_code
def yX3_momentOf : MethodName := ⟨RX3, "momentOf", "(I)I"⟩
def RX4 : String := "SavepointStoreModel"
def TX4 : u_T := fun k => match k with
  | 0 => ("SavepointStoreModel", "s", "[I", true)
  | 1 => ("SavepointStoreModel", "history", "[I", true)
  | 2 => ("SavepointStoreModel", "kept", "I", false)
  | 3 => ("SavepointStoreModel", "snapshot", "[I", true)
  | 4 => ("SavepointStoreModel", "isTaken", "Z", false)
  | 5 => ("SavepointStoreModel", "text", "[I", true)
  | 6 => ("SavepointStoreModel", "length", "I", false)
  | 7 => ("SavepointStoreModel", "now", "[I", true)
  | 8 => ("SavepointStoreModel", "place", "I", false)
  | 9 => ("SavepointStoreModel", "who", "I", false)
  | 10 => ("SavepointStoreModel", "letter", "I", false)
  | 11 => ("SavepointStoreModel", "one", "I", false)
  | 12 => ("SavepointStoreModel", "other", "I", false)
  | _ => ("SavepointStoreModel", "carriedOut", "I", false)
def tyX4 : Nat → FieldType := fun k => match k with
  | 0 => .array .int
  | 1 => .array .int
  | 2 => .int
  | 3 => .array .int
  | 4 => .boolean
  | 5 => .array .int
  | 6 => .int
  | 7 => .array .int
  | 8 => .int
  | 9 => .int
  | 10 => .int
  | 11 => .int
  | 12 => .int
  | _ => .int
theorem nmX4 : ∀ a, a < 14 → ∀ b, b < 14 → a ≠ b → (TX4 a).2.1 ≠ (TX4 b).2.1 := by decide +kernel
theorem tyX4_ok : ∀ k, k < 14 → parseFieldDescriptor (TX4 k).2.2.1 = some (tyX4 k) := by decide +kernel
abbrev cX4_init : ByteArray := prog_6_method_1_code
def yX4_init : MethodName := ⟨RX4, "<init>", "()V"⟩
abbrev cX4_in : ByteArray := prog_6_method_3_code
def yX4_in : MethodName := ⟨RX4, "in", "(III)Z"⟩
abbrev cX4_isSession : ByteArray := prog_6_method_4_code
def yX4_isSession : MethodName := ⟨RX4, "isSession", "(I)Z"⟩
abbrev cX4_isKey : ByteArray := prog_6_method_5_code
def yX4_isKey : MethodName := ⟨RX4, "isKey", "(I)Z"⟩
abbrev cX4_isName : ByteArray := prog_6_method_6_code
def yX4_isName : MethodName := ⟨RX4, "isName", "(I)Z"⟩
abbrev cX4_has : ByteArray := prog_6_method_7_code
def yX4_has : MethodName := ⟨RX4, "has", "(II)Z"⟩
abbrev cX4_bits : ByteArray := prog_6_method_8_code
def yX4_bits : MethodName := ⟨RX4, "bits", "(I)I"⟩
abbrev cX4_isOpen : ByteArray := prog_6_method_9_code
def yX4_isOpen : MethodName := ⟨RX4, "isOpen", "(I)Z"⟩
abbrev cX4_outside : ByteArray := prog_6_method_10_code
def yX4_outside : MethodName := ⟨RX4, "outside", "(I)I"⟩
abbrev cX4_at : ByteArray := prog_6_method_11_code
def yX4_at : MethodName := ⟨RX4, "at", "(II)I"⟩
abbrev cX4_record : ByteArray := prog_6_method_12_code
def yX4_record : MethodName := ⟨RX4, "record", "()V"⟩
abbrev cX4_modeOf : ByteArray := prog_6_method_13_code
def yX4_modeOf : MethodName := ⟨RX4, "modeOf", "(II)I"⟩
abbrev cX4_withMode : ByteArray := prog_6_method_14_code
def yX4_withMode : MethodName := ⟨RX4, "withMode", "(III)I"⟩
abbrev cX4_isBusy : ByteArray := prog_6_method_15_code
def yX4_isBusy : MethodName := ⟨RX4, "isBusy", "(III)Z"⟩
abbrev cX4_takes : ByteArray := prog_6_method_16_code
def yX4_takes : MethodName := ⟨RX4, "takes", "(III)Z"⟩
abbrev cX4_change : ByteArray := prog_6_method_17_code
def yX4_change : MethodName := ⟨RX4, "change", "(II)V"⟩
abbrev cX4_join : ByteArray := prog_6_method_18_code
def yX4_join : MethodName := ⟨RX4, "join", "([II[II)V"⟩
abbrev cX4_forget : ByteArray := prog_6_method_19_code
def yX4_forget : MethodName := ⟨RX4, "forget", "([II)V"⟩
abbrev cX4_since : ByteArray := prog_6_method_20_code
def yX4_since : MethodName := ⟨RX4, "since", "(III)I"⟩
abbrev cX4_before : ByteArray := prog_6_method_21_code
def yX4_before : MethodName := ⟨RX4, "before", "(III)I"⟩
abbrev cX4_modeBefore : ByteArray := prog_6_method_22_code
def yX4_modeBefore : MethodName := ⟨RX4, "modeBefore", "(III)I"⟩
abbrev cX4_others : ByteArray := prog_6_method_23_code
def yX4_others : MethodName := ⟨RX4, "others", "(II)I"⟩
abbrev cX4_goBack : ByteArray := prog_6_method_24_code
def yX4_goBack : MethodName := ⟨RX4, "goBack", "(II)V"⟩
abbrev cX4_close : ByteArray := prog_6_method_25_code
def yX4_close : MethodName := ⟨RX4, "close", "(I)V"⟩
abbrev cX4_nearestOf : ByteArray := prog_6_method_26_code
def yX4_nearestOf : MethodName := ⟨RX4, "nearestOf", "(II)I"⟩
abbrev cX4_keep : ByteArray := prog_6_method_27_code
def yX4_keep : MethodName := ⟨RX4, "keep", "(Z)I"⟩
abbrev cX4_beginError : ByteArray := prog_6_method_28_code
def yX4_beginError : MethodName := ⟨RX4, "beginError", "(I)I"⟩
abbrev cX4_openError : ByteArray := prog_6_method_29_code
def yX4_openError : MethodName := ⟨RX4, "openError", "(I)I"⟩
abbrev cX4_doBegin : ByteArray := prog_6_method_30_code
def yX4_doBegin : MethodName := ⟨RX4, "doBegin", "(I)I"⟩
abbrev cX4_doCommit : ByteArray := prog_6_method_31_code
def yX4_doCommit : MethodName := ⟨RX4, "doCommit", "(I)I"⟩
abbrev cX4_doRollback : ByteArray := prog_6_method_32_code
def yX4_doRollback : MethodName := ⟨RX4, "doRollback", "(I)I"⟩
abbrev cX4_begin : ByteArray := prog_6_method_33_code
def yX4_begin : MethodName := ⟨RX4, "begin", "(I)I"⟩
abbrev cX4_commit : ByteArray := prog_6_method_34_code
def yX4_commit : MethodName := ⟨RX4, "commit", "(I)I"⟩
abbrev cX4_rollback : ByteArray := prog_6_method_35_code
def yX4_rollback : MethodName := ⟨RX4, "rollback", "(I)I"⟩
abbrev cX4_savepointError : ByteArray := prog_6_method_36_code
def yX4_savepointError : MethodName := ⟨RX4, "savepointError", "(II)I"⟩
abbrev cX4_nameError : ByteArray := prog_6_method_37_code
def yX4_nameError : MethodName := ⟨RX4, "nameError", "(II)I"⟩
abbrev cX4_doSavepoint : ByteArray := prog_6_method_38_code
def yX4_doSavepoint : MethodName := ⟨RX4, "doSavepoint", "(II)I"⟩
abbrev cX4_doUndoTo : ByteArray := prog_6_method_39_code
def yX4_doUndoTo : MethodName := ⟨RX4, "doUndoTo", "(II)I"⟩
abbrev cX4_doRelease : ByteArray := prog_6_method_40_code
def yX4_doRelease : MethodName := ⟨RX4, "doRelease", "(II)I"⟩
abbrev cX4_savepoint : ByteArray := prog_6_method_41_code
def yX4_savepoint : MethodName := ⟨RX4, "savepoint", "(II)I"⟩
abbrev cX4_undoTo : ByteArray := prog_6_method_42_code
def yX4_undoTo : MethodName := ⟨RX4, "undoTo", "(II)I"⟩
abbrev cX4_release : ByteArray := prog_6_method_43_code
def yX4_release : MethodName := ⟨RX4, "release", "(II)I"⟩
abbrev cX4_beginStatement : ByteArray := prog_6_method_44_code
def yX4_beginStatement : MethodName := ⟨RX4, "beginStatement", "()V"⟩
abbrev cX4_endWell : ByteArray := prog_6_method_45_code
def yX4_endWell : MethodName := ⟨RX4, "endWell", "(II)I"⟩
abbrev cX4_endBadly : ByteArray := prog_6_method_46_code
def yX4_endBadly : MethodName := ⟨RX4, "endBadly", "(II)I"⟩
abbrev cX4_add : ByteArray := prog_6_method_47_code
def yX4_add : MethodName := ⟨RX4, "add", "(IIIZ)I"⟩
abbrev cX4_keyError : ByteArray := prog_6_method_48_code
def yX4_keyError : MethodName := ⟨RX4, "keyError", "(II)I"⟩
abbrev cX4_writeError : ByteArray := prog_6_method_49_code
def yX4_writeError : MethodName := ⟨RX4, "writeError", "(III)I"⟩
abbrev cX4_doRead : ByteArray := prog_6_method_50_code
def yX4_doRead : MethodName := ⟨RX4, "doRead", "(II)I"⟩
abbrev cX4_doWrite : ByteArray := prog_6_method_51_code
def yX4_doWrite : MethodName := ⟨RX4, "doWrite", "(III)I"⟩
abbrev cX4_read : ByteArray := prog_6_method_52_code
def yX4_read : MethodName := ⟨RX4, "read", "(II)I"⟩
abbrev cX4_write : ByteArray := prog_6_method_53_code
def yX4_write : MethodName := ⟨RX4, "write", "(III)I"⟩
abbrev cX4_erase : ByteArray := prog_6_method_54_code
def yX4_erase : MethodName := ⟨RX4, "erase", "(II)I"⟩
abbrev cX4_shift : ByteArray := prog_6_method_55_code
def yX4_shift : MethodName := ⟨RX4, "shift", "(III)I"⟩
abbrev cX4_move : ByteArray := prog_6_method_56_code
def yX4_move : MethodName := ⟨RX4, "move", "(IIII)I"⟩
abbrev cX4_append : ByteArray := prog_6_method_57_code
def yX4_append : MethodName := ⟨RX4, "append", "(I)I"⟩
abbrev cX4_clearText : ByteArray := prog_6_method_58_code
def yX4_clearText : MethodName := ⟨RX4, "clearText", "()I"⟩
abbrev cX4_isNext : ByteArray := prog_6_method_59_code
def yX4_isNext : MethodName := ⟨RX4, "isNext", "(II)Z"⟩
abbrev cX4_passes : ByteArray := prog_6_method_60_code
def yX4_passes : MethodName := ⟨RX4, "passes", "(I)Z"⟩
abbrev cX4_readNumber : ByteArray := prog_6_method_61_code
def yX4_readNumber : MethodName := ⟨RX4, "readNumber", "(I)I"⟩
abbrev cX4_readName : ByteArray := prog_6_method_62_code
def yX4_readName : MethodName := ⟨RX4, "readName", "()Z"⟩
abbrev cX4_readKey : ByteArray := prog_6_method_63_code
def yX4_readKey : MethodName := ⟨RX4, "readKey", "()Z"⟩
abbrev cX4_readOrder : ByteArray := prog_6_method_64_code
def yX4_readOrder : MethodName := ⟨RX4, "readOrder", "()Z"⟩
abbrev cX4_errorOfOrder : ByteArray := prog_6_method_65_code
def yX4_errorOfOrder : MethodName := ⟨RX4, "errorOfOrder", "()I"⟩
abbrev cX4_carryOut : ByteArray := prog_6_method_66_code
def yX4_carryOut : MethodName := ⟨RX4, "carryOut", "()I"⟩
abbrev cX4_readText : ByteArray := prog_6_method_67_code
def yX4_readText : MethodName := ⟨RX4, "readText", "(Z)Z"⟩
abbrev cX4_fault : ByteArray := prog_6_method_68_code
def yX4_fault : MethodName := ⟨RX4, "fault", "()I"⟩
abbrev cX4_perform : ByteArray := prog_6_method_69_code
def yX4_perform : MethodName := ⟨RX4, "perform", "()I"⟩
abbrev cX4_valued : ByteArray := prog_6_method_70_code
def yX4_valued : MethodName := ⟨RX4, "valued", "()I"⟩
abbrev cX4_undo : ByteArray := prog_6_method_71_code
def yX4_undo : MethodName := ⟨RX4, "undo", "()I"⟩
abbrev cX4_save : ByteArray := prog_6_method_72_code
def yX4_save : MethodName := ⟨RX4, "save", "()I"⟩
abbrev cX4_restore : ByteArray := prog_6_method_73_code
def yX4_restore : MethodName := ⟨RX4, "restore", "()I"⟩
abbrev cX4_value : ByteArray := prog_6_method_74_code
def yX4_value : MethodName := ⟨RX4, "value", "(I)I"⟩
abbrev cX4_committed : ByteArray := prog_6_method_75_code
def yX4_committed : MethodName := ⟨RX4, "committed", "(I)I"⟩
abbrev cX4_mode : ByteArray := prog_6_method_76_code
def yX4_mode : MethodName := ⟨RX4, "mode", "(II)I"⟩
abbrev cX4_busyFor : ByteArray := prog_6_method_77_code
def yX4_busyFor : MethodName := ⟨RX4, "busyFor", "(II)I"⟩
abbrev cX4_keysWith : ByteArray := prog_6_method_78_code
def yX4_keysWith : MethodName := ⟨RX4, "keysWith", "(II)I"⟩
abbrev cX4_session : ByteArray := prog_6_method_79_code
def yX4_session : MethodName := ⟨RX4, "session", "(II)I"⟩
abbrev cX4_isSavepoint : ByteArray := prog_6_method_80_code
def yX4_isSavepoint : MethodName := ⟨RX4, "isSavepoint", "(II)Z"⟩
abbrev cX4_nameOf : ByteArray := prog_6_method_81_code
def yX4_nameOf : MethodName := ⟨RX4, "nameOf", "(II)I"⟩
abbrev cX4_nearest : ByteArray := prog_6_method_82_code
def yX4_nearest : MethodName := ⟨RX4, "nearest", "(II)I"⟩
abbrev cX4_changedSince : ByteArray := prog_6_method_83_code
def yX4_changedSince : MethodName := ⟨RX4, "changedSince", "(IIZ)I"⟩
abbrev cX4_ifUndone : ByteArray := prog_6_method_84_code
def yX4_ifUndone : MethodName := ⟨RX4, "ifUndone", "(III)I"⟩
abbrev cX4_total : ByteArray := prog_6_method_85_code
def yX4_total : MethodName := ⟨RX4, "total", "(I)I"⟩
abbrev cX4_mean : ByteArray := prog_6_method_86_code
def yX4_mean : MethodName := ⟨RX4, "mean", "()D"⟩
def RJ6 : String := "java/lang/Integer"
abbrev cJ6_bitCount_0f7a4 : ByteArray := prog_7_method_49_code
def yJ6_bitCount_0f7a4 : MethodName := ⟨RJ6, "bitCount", "(I)I"⟩
def RJ9 : String := "java/lang/Math"
abbrev cJ9_max_7cf53 : ByteArray := prog_8_method_65_code
def yJ9_max_7cf53 : MethodName := ⟨RJ9, "max", "(II)I"⟩
abbrev cJ9_min_7cf53 : ByteArray := prog_8_method_69_code
def yJ9_min_7cf53 : MethodName := ⟨RJ9, "min", "(II)I"⟩
def RJ10 : String := "java/lang/System"
def RL : String := "SavepointStoreLaw"
abbrev cL_law : ByteArray := code
def yL_law : MethodName := ⟨RL, "law", "([I)Z"⟩
abbrev vwCl : List vw_C := [(RX0, TX0, 2), (RX1, TX1, 4), (RX2, TX2, 6), (RX3, TX3, 7), (RX4, TX4, 14)]
/-- the words of the tables that any method may hand on to those that it calls -/
def lw_g : List Cond := lw_tbl.filter goodWord
theorem lw_g_in {w : Cond} (h : w ∈ lw_g) : w ∈ lw_tbl := (List.mem_filter.mp h).1
theorem lw_g_of {w : Cond} (h : w ∈ lw_tbl) (g : goodWord w = true) : w ∈ lw_g := List.mem_filter.mpr ⟨h, g⟩
/-- links between nest mates: they hold in any later state of the machine too -/
def lw_nest : Cond → Bool
  | .fieldLinkNest .. => true
  | .methodLinkNest .. => true
  | _ => false
def lw_n : List Cond := lw_tbl.filter lw_nest
theorem lw_n_of {w : Cond} (h : w ∈ lw_tbl) (g : lw_nest w = true) : w ∈ lw_n := List.mem_filter.mpr ⟨h, g⟩
def sv_Nw (U : State) : Prop := ∀ w ∈ lw_n, va_Nw w U
theorem sv_Nw_warm {s U : State} (hW : s.WarmedH U.vm) (h : sv_Nw s) : sv_Nw U := by
  intro w hw
  have h1 := h w hw
  have h2 := (List.mem_filter.mp hw).2
  cases w <;> first | exact va_Nw.warmF hW h1 | exact va_Nw.warmM hW h1 | (simp [lw_nest] at h2)
theorem inX0 : ∀ w ∈ u_ws RX0 TX0 2, w ∈ lw_g := by decide +kernel
theorem inX1 : ∀ w ∈ u_ws RX1 TX1 4, w ∈ lw_g := by decide +kernel
theorem inX2 : ∀ w ∈ u_ws RX2 TX2 6, w ∈ lw_g := by decide +kernel
theorem inX3 : ∀ w ∈ u_ws RX3 TX3 7, w ∈ lw_g := by decide +kernel
theorem inX4 : ∀ w ∈ u_ws RX4 TX4 14, w ∈ lw_g := by decide +kernel
