section
-- ===== PART A: goes FIRST, ahead of the names: the tables' words, and 'selects' of the private methods out of them =====
/-- a private method of a class that the tables say can be made, by its rows of tables_1 -/
def lw_okq (q : MethodName × Nat) : Prop := (q.1.cls ≠ "java/lang/invoke/MethodHandle" ∧ q.1.cls ≠ "java/lang/invoke/VarHandle") ∧ Cond.instantiable q.1.cls q.2 ∈ tables_1 ∧ Cond.privateMethod q.1 ∈ tables_1 ∧ Cond.instanceMethod q.1 ∈ tables_1
theorem lw_p0 : lw_okq (⟨"SavepointStore", "rememberState", "()V"⟩, 7) := ⟨⟨by decide +kernel, by decide +kernel⟩, List.mem_of_getElem? (i := 10) (by decide +kernel), List.mem_of_getElem? (i := 113) (by decide +kernel), List.mem_of_getElem? (i := 114) (by decide +kernel)⟩
theorem lw_p1 : lw_okq (⟨"SavepointStore", "slotBehindHistory", "()I"⟩, 7) := ⟨⟨by decide +kernel, by decide +kernel⟩, List.mem_of_getElem? (i := 10) (by decide +kernel), List.mem_of_getElem? (i := 117) (by decide +kernel), List.mem_of_getElem? (i := 118) (by decide +kernel)⟩
theorem lw_p2 : lw_okq (⟨"SavepointStore$State", "copyFrom", "(LSavepointStore$State;)V"⟩, 4) := ⟨⟨by decide +kernel, by decide +kernel⟩, List.mem_of_getElem? (i := 18) (by decide +kernel), List.mem_of_getElem? (i := 121) (by decide +kernel), List.mem_of_getElem? (i := 122) (by decide +kernel)⟩
theorem lw_p3 : lw_okq (⟨"SavepointStore$Transaction", "copyFrom", "(LSavepointStore$Transaction;)V"⟩, 6) := ⟨⟨by decide +kernel, by decide +kernel⟩, List.mem_of_getElem? (i := 25) (by decide +kernel), List.mem_of_getElem? (i := 128) (by decide +kernel), List.mem_of_getElem? (i := 129) (by decide +kernel)⟩
theorem lw_p4 : lw_okq (⟨"SavepointStore", "recordUnlessError", "(I)I"⟩, 7) := ⟨⟨by decide +kernel, by decide +kernel⟩, List.mem_of_getElem? (i := 10) (by decide +kernel), List.mem_of_getElem? (i := 133) (by decide +kernel), List.mem_of_getElem? (i := 134) (by decide +kernel)⟩
theorem lw_p5 : lw_okq (⟨"SavepointStore$State", "openTransaction", "(I)I"⟩, 4) := ⟨⟨by decide +kernel, by decide +kernel⟩, List.mem_of_getElem? (i := 18) (by decide +kernel), List.mem_of_getElem? (i := 144) (by decide +kernel), List.mem_of_getElem? (i := 145) (by decide +kernel)⟩
theorem lw_p6 : lw_okq (⟨"SavepointStore$Transaction", "isOpen", "()Z"⟩, 6) := ⟨⟨by decide +kernel, by decide +kernel⟩, List.mem_of_getElem? (i := 25) (by decide +kernel), List.mem_of_getElem? (i := 151) (by decide +kernel), List.mem_of_getElem? (i := 152) (by decide +kernel)⟩
theorem lw_p7 : lw_okq (⟨"SavepointStore$Transaction", "addMoment", "()V"⟩, 6) := ⟨⟨by decide +kernel, by decide +kernel⟩, List.mem_of_getElem? (i := 25) (by decide +kernel), List.mem_of_getElem? (i := 155) (by decide +kernel), List.mem_of_getElem? (i := 156) (by decide +kernel)⟩
theorem lw_p8 : lw_okq (⟨"SavepointStore$State", "commitTransaction", "(I)I"⟩, 4) := ⟨⟨by decide +kernel, by decide +kernel⟩, List.mem_of_getElem? (i := 18) (by decide +kernel), List.mem_of_getElem? (i := 163) (by decide +kernel), List.mem_of_getElem? (i := 164) (by decide +kernel)⟩
theorem lw_p9 : lw_okq (⟨"SavepointStore$State", "whyImpossible", "(IZZ)I"⟩, 4) := ⟨⟨by decide +kernel, by decide +kernel⟩, List.mem_of_getElem? (i := 18) (by decide +kernel), List.mem_of_getElem? (i := 167) (by decide +kernel), List.mem_of_getElem? (i := 168) (by decide +kernel)⟩
theorem lw_p10 : lw_okq (⟨"SavepointStore$Transaction", "valueAt", "(III)I"⟩, 6) := ⟨⟨by decide +kernel, by decide +kernel⟩, List.mem_of_getElem? (i := 25) (by decide +kernel), List.mem_of_getElem? (i := 171) (by decide +kernel), List.mem_of_getElem? (i := 172) (by decide +kernel)⟩
theorem lw_p11 : lw_okq (⟨"SavepointStore$Transaction", "close", "()V"⟩, 6) := ⟨⟨by decide +kernel, by decide +kernel⟩, List.mem_of_getElem? (i := 25) (by decide +kernel), List.mem_of_getElem? (i := 178) (by decide +kernel), List.mem_of_getElem? (i := 179) (by decide +kernel)⟩
theorem lw_p12 : lw_okq (⟨"SavepointStore$State", "rollTransactionBack", "(I)I"⟩, 4) := ⟨⟨by decide +kernel, by decide +kernel⟩, List.mem_of_getElem? (i := 18) (by decide +kernel), List.mem_of_getElem? (i := 186) (by decide +kernel), List.mem_of_getElem? (i := 187) (by decide +kernel)⟩
theorem lw_p13 : lw_okq (⟨"SavepointStore$State", "undoToMoment", "(LSavepointStore$Transaction;I)I"⟩, 4) := ⟨⟨by decide +kernel, by decide +kernel⟩, List.mem_of_getElem? (i := 18) (by decide +kernel), List.mem_of_getElem? (i := 190) (by decide +kernel), List.mem_of_getElem? (i := 191) (by decide +kernel)⟩
theorem lw_p14 : lw_okq (⟨"SavepointStore$Transaction", "forgetChangesSince", "(I)V"⟩, 6) := ⟨⟨by decide +kernel, by decide +kernel⟩, List.mem_of_getElem? (i := 25) (by decide +kernel), List.mem_of_getElem? (i := 194) (by decide +kernel), List.mem_of_getElem? (i := 195) (by decide +kernel)⟩
theorem lw_p15 : lw_okq (⟨"SavepointStore$Transaction", "undoLocks", "(I)V"⟩, 6) := ⟨⟨by decide +kernel, by decide +kernel⟩, List.mem_of_getElem? (i := 25) (by decide +kernel), List.mem_of_getElem? (i := 198) (by decide +kernel), List.mem_of_getElem? (i := 199) (by decide +kernel)⟩
def lw_privs_1 : List (MethodName × Nat) := [(⟨"SavepointStore", "rememberState", "()V"⟩, 7), (⟨"SavepointStore", "slotBehindHistory", "()I"⟩, 7), (⟨"SavepointStore$State", "copyFrom", "(LSavepointStore$State;)V"⟩, 4), (⟨"SavepointStore$Transaction", "copyFrom", "(LSavepointStore$Transaction;)V"⟩, 6), (⟨"SavepointStore", "recordUnlessError", "(I)I"⟩, 7), (⟨"SavepointStore$State", "openTransaction", "(I)I"⟩, 4), (⟨"SavepointStore$Transaction", "isOpen", "()Z"⟩, 6), (⟨"SavepointStore$Transaction", "addMoment", "()V"⟩, 6), (⟨"SavepointStore$State", "commitTransaction", "(I)I"⟩, 4), (⟨"SavepointStore$State", "whyImpossible", "(IZZ)I"⟩, 4), (⟨"SavepointStore$Transaction", "valueAt", "(III)I"⟩, 6), (⟨"SavepointStore$Transaction", "close", "()V"⟩, 6), (⟨"SavepointStore$State", "rollTransactionBack", "(I)I"⟩, 4), (⟨"SavepointStore$State", "undoToMoment", "(LSavepointStore$Transaction;I)I"⟩, 4), (⟨"SavepointStore$Transaction", "forgetChangesSince", "(I)V"⟩, 6), (⟨"SavepointStore$Transaction", "undoLocks", "(I)V"⟩, 6)]
theorem lw_r1 : ∀ q ∈ lw_privs_1, lw_okq q := List.forall_mem_cons.mpr ⟨lw_p0, List.forall_mem_cons.mpr ⟨lw_p1, List.forall_mem_cons.mpr ⟨lw_p2, List.forall_mem_cons.mpr ⟨lw_p3, List.forall_mem_cons.mpr ⟨lw_p4, List.forall_mem_cons.mpr ⟨lw_p5, List.forall_mem_cons.mpr ⟨lw_p6, List.forall_mem_cons.mpr ⟨lw_p7, List.forall_mem_cons.mpr ⟨lw_p8, List.forall_mem_cons.mpr ⟨lw_p9, List.forall_mem_cons.mpr ⟨lw_p10, List.forall_mem_cons.mpr ⟨lw_p11, List.forall_mem_cons.mpr ⟨lw_p12, List.forall_mem_cons.mpr ⟨lw_p13, List.forall_mem_cons.mpr ⟨lw_p14, List.forall_mem_cons.mpr ⟨lw_p15, fun _ h => absurd h List.not_mem_nil⟩⟩⟩⟩⟩⟩⟩⟩⟩⟩⟩⟩⟩⟩⟩⟩
theorem lw_p16 : lw_okq (⟨"SavepointStore$State", "setSavepoint", "(II)I"⟩, 4) := ⟨⟨by decide +kernel, by decide +kernel⟩, List.mem_of_getElem? (i := 18) (by decide +kernel), List.mem_of_getElem? (i := 206) (by decide +kernel), List.mem_of_getElem? (i := 207) (by decide +kernel)⟩
theorem lw_p17 : lw_okq (⟨"SavepointStore$Transaction", "savepointCount", "()I"⟩, 6) := ⟨⟨by decide +kernel, by decide +kernel⟩, List.mem_of_getElem? (i := 25) (by decide +kernel), List.mem_of_getElem? (i := 213) (by decide +kernel), List.mem_of_getElem? (i := 214) (by decide +kernel)⟩
theorem lw_p18 : lw_okq (⟨"SavepointStore$State", "undoToName", "(II)I"⟩, 4) := ⟨⟨by decide +kernel, by decide +kernel⟩, List.mem_of_getElem? (i := 18) (by decide +kernel), List.mem_of_getElem? (i := 221) (by decide +kernel), List.mem_of_getElem? (i := 222) (by decide +kernel)⟩
theorem lw_p19 : lw_okq (⟨"SavepointStore$State", "savepointOrError", "(II)I"⟩, 4) := ⟨⟨by decide +kernel, by decide +kernel⟩, List.mem_of_getElem? (i := 18) (by decide +kernel), List.mem_of_getElem? (i := 225) (by decide +kernel), List.mem_of_getElem? (i := 226) (by decide +kernel)⟩
theorem lw_p20 : lw_okq (⟨"SavepointStore$Transaction", "nearestSavepoint", "(I)I"⟩, 6) := ⟨⟨by decide +kernel, by decide +kernel⟩, List.mem_of_getElem? (i := 25) (by decide +kernel), List.mem_of_getElem? (i := 229) (by decide +kernel), List.mem_of_getElem? (i := 230) (by decide +kernel)⟩
theorem lw_p21 : lw_okq (⟨"SavepointStore$Transaction", "dropMomentsAfter", "(I)V"⟩, 6) := ⟨⟨by decide +kernel, by decide +kernel⟩, List.mem_of_getElem? (i := 25) (by decide +kernel), List.mem_of_getElem? (i := 237) (by decide +kernel), List.mem_of_getElem? (i := 238) (by decide +kernel)⟩
theorem lw_p22 : lw_okq (⟨"SavepointStore$Transaction", "noteChangeAt", "(III)V"⟩, 6) := ⟨⟨by decide +kernel, by decide +kernel⟩, List.mem_of_getElem? (i := 25) (by decide +kernel), List.mem_of_getElem? (i := 241) (by decide +kernel), List.mem_of_getElem? (i := 242) (by decide +kernel)⟩
theorem lw_p23 : lw_okq (⟨"SavepointStore$State", "releaseName", "(II)I"⟩, 4) := ⟨⟨by decide +kernel, by decide +kernel⟩, List.mem_of_getElem? (i := 18) (by decide +kernel), List.mem_of_getElem? (i := 252) (by decide +kernel), List.mem_of_getElem? (i := 253) (by decide +kernel)⟩
theorem lw_p24 : lw_okq (⟨"SavepointStore$State", "readKey", "(II)I"⟩, 4) := ⟨⟨by decide +kernel, by decide +kernel⟩, List.mem_of_getElem? (i := 18) (by decide +kernel), List.mem_of_getElem? (i := 260) (by decide +kernel), List.mem_of_getElem? (i := 261) (by decide +kernel)⟩
theorem lw_p25 : lw_okq (⟨"SavepointStore$State", "takeLock", "(III)Z"⟩, 4) := ⟨⟨by decide +kernel, by decide +kernel⟩, List.mem_of_getElem? (i := 18) (by decide +kernel), List.mem_of_getElem? (i := 267) (by decide +kernel), List.mem_of_getElem? (i := 268) (by decide +kernel)⟩
theorem lw_p26 : lw_okq (⟨"SavepointStore$State", "isBusy", "(III)Z"⟩, 4) := ⟨⟨by decide +kernel, by decide +kernel⟩, List.mem_of_getElem? (i := 18) (by decide +kernel), List.mem_of_getElem? (i := 271) (by decide +kernel), List.mem_of_getElem? (i := 272) (by decide +kernel)⟩
theorem lw_p27 : lw_okq (⟨"SavepointStore$Transaction", "lockMode", "(I)I"⟩, 6) := ⟨⟨by decide +kernel, by decide +kernel⟩, List.mem_of_getElem? (i := 25) (by decide +kernel), List.mem_of_getElem? (i := 275) (by decide +kernel), List.mem_of_getElem? (i := 276) (by decide +kernel)⟩
theorem lw_p28 : lw_okq (⟨"SavepointStore$Transaction", "setLockMode", "(II)V"⟩, 6) := ⟨⟨by decide +kernel, by decide +kernel⟩, List.mem_of_getElem? (i := 25) (by decide +kernel), List.mem_of_getElem? (i := 279) (by decide +kernel), List.mem_of_getElem? (i := 280) (by decide +kernel)⟩
theorem lw_p29 : lw_okq (⟨"SavepointStore$State", "endStatement", "(II)I"⟩, 4) := ⟨⟨by decide +kernel, by decide +kernel⟩, List.mem_of_getElem? (i := 18) (by decide +kernel), List.mem_of_getElem? (i := 283) (by decide +kernel), List.mem_of_getElem? (i := 284) (by decide +kernel)⟩
theorem lw_p30 : lw_okq (⟨"SavepointStore$State", "writeKey", "(III)I"⟩, 4) := ⟨⟨by decide +kernel, by decide +kernel⟩, List.mem_of_getElem? (i := 18) (by decide +kernel), List.mem_of_getElem? (i := 291) (by decide +kernel), List.mem_of_getElem? (i := 292) (by decide +kernel)⟩
theorem lw_p31 : lw_okq (⟨"SavepointStore$State", "replaceValue", "(III)I"⟩, 4) := ⟨⟨by decide +kernel, by decide +kernel⟩, List.mem_of_getElem? (i := 18) (by decide +kernel), List.mem_of_getElem? (i := 298) (by decide +kernel), List.mem_of_getElem? (i := 299) (by decide +kernel)⟩
def lw_privs_2 : List (MethodName × Nat) := [(⟨"SavepointStore$State", "setSavepoint", "(II)I"⟩, 4), (⟨"SavepointStore$Transaction", "savepointCount", "()I"⟩, 6), (⟨"SavepointStore$State", "undoToName", "(II)I"⟩, 4), (⟨"SavepointStore$State", "savepointOrError", "(II)I"⟩, 4), (⟨"SavepointStore$Transaction", "nearestSavepoint", "(I)I"⟩, 6), (⟨"SavepointStore$Transaction", "dropMomentsAfter", "(I)V"⟩, 6), (⟨"SavepointStore$Transaction", "noteChangeAt", "(III)V"⟩, 6), (⟨"SavepointStore$State", "releaseName", "(II)I"⟩, 4), (⟨"SavepointStore$State", "readKey", "(II)I"⟩, 4), (⟨"SavepointStore$State", "takeLock", "(III)Z"⟩, 4), (⟨"SavepointStore$State", "isBusy", "(III)Z"⟩, 4), (⟨"SavepointStore$Transaction", "lockMode", "(I)I"⟩, 6), (⟨"SavepointStore$Transaction", "setLockMode", "(II)V"⟩, 6), (⟨"SavepointStore$State", "endStatement", "(II)I"⟩, 4), (⟨"SavepointStore$State", "writeKey", "(III)I"⟩, 4), (⟨"SavepointStore$State", "replaceValue", "(III)I"⟩, 4)]
theorem lw_r2 : ∀ q ∈ lw_privs_2, lw_okq q := List.forall_mem_cons.mpr ⟨lw_p16, List.forall_mem_cons.mpr ⟨lw_p17, List.forall_mem_cons.mpr ⟨lw_p18, List.forall_mem_cons.mpr ⟨lw_p19, List.forall_mem_cons.mpr ⟨lw_p20, List.forall_mem_cons.mpr ⟨lw_p21, List.forall_mem_cons.mpr ⟨lw_p22, List.forall_mem_cons.mpr ⟨lw_p23, List.forall_mem_cons.mpr ⟨lw_p24, List.forall_mem_cons.mpr ⟨lw_p25, List.forall_mem_cons.mpr ⟨lw_p26, List.forall_mem_cons.mpr ⟨lw_p27, List.forall_mem_cons.mpr ⟨lw_p28, List.forall_mem_cons.mpr ⟨lw_p29, List.forall_mem_cons.mpr ⟨lw_p30, List.forall_mem_cons.mpr ⟨lw_p31, fun _ h => absurd h List.not_mem_nil⟩⟩⟩⟩⟩⟩⟩⟩⟩⟩⟩⟩⟩⟩⟩⟩
theorem lw_p32 : lw_okq (⟨"SavepointStore$Transaction", "noteChange", "(II)V"⟩, 6) := ⟨⟨by decide +kernel, by decide +kernel⟩, List.mem_of_getElem? (i := 25) (by decide +kernel), List.mem_of_getElem? (i := 302) (by decide +kernel), List.mem_of_getElem? (i := 303) (by decide +kernel)⟩
theorem lw_p33 : lw_okq (⟨"SavepointStore$State", "eraseKey", "(II)I"⟩, 4) := ⟨⟨by decide +kernel, by decide +kernel⟩, List.mem_of_getElem? (i := 18) (by decide +kernel), List.mem_of_getElem? (i := 310) (by decide +kernel), List.mem_of_getElem? (i := 311) (by decide +kernel)⟩
theorem lw_p34 : lw_okq (⟨"SavepointStore$State", "shiftKeys", "(III)I"⟩, 4) := ⟨⟨by decide +kernel, by decide +kernel⟩, List.mem_of_getElem? (i := 18) (by decide +kernel), List.mem_of_getElem? (i := 318) (by decide +kernel), List.mem_of_getElem? (i := 319) (by decide +kernel)⟩
theorem lw_p35 : lw_okq (⟨"SavepointStore$State", "addToValue", "(IIII)I"⟩, 4) := ⟨⟨by decide +kernel, by decide +kernel⟩, List.mem_of_getElem? (i := 18) (by decide +kernel), List.mem_of_getElem? (i := 329) (by decide +kernel), List.mem_of_getElem? (i := 330) (by decide +kernel)⟩
theorem lw_p36 : lw_okq (⟨"SavepointStore$State", "moveAmount", "(IIII)I"⟩, 4) := ⟨⟨by decide +kernel, by decide +kernel⟩, List.mem_of_getElem? (i := 18) (by decide +kernel), List.mem_of_getElem? (i := 337) (by decide +kernel), List.mem_of_getElem? (i := 338) (by decide +kernel)⟩
theorem lw_p37 : lw_okq (⟨"SavepointStore$Script", "addCharacter", "(C)I"⟩, 2) := ⟨⟨by decide +kernel, by decide +kernel⟩, List.mem_of_getElem? (i := 72) (by decide +kernel), List.mem_of_getElem? (i := 345) (by decide +kernel), List.mem_of_getElem? (i := 346) (by decide +kernel)⟩
theorem lw_p38 : lw_okq (⟨"SavepointStore$Script", "firstFault", "()I"⟩, 2) := ⟨⟨by decide +kernel, by decide +kernel⟩, List.mem_of_getElem? (i := 72) (by decide +kernel), List.mem_of_getElem? (i := 357) (by decide +kernel), List.mem_of_getElem? (i := 358) (by decide +kernel)⟩
theorem lw_p39 : lw_okq (⟨"SavepointStore$Script", "startsOrder", "(I)Z"⟩, 2) := ⟨⟨by decide +kernel, by decide +kernel⟩, List.mem_of_getElem? (i := 72) (by decide +kernel), List.mem_of_getElem? (i := 383) (by decide +kernel), List.mem_of_getElem? (i := 384) (by decide +kernel)⟩
theorem lw_p40 : lw_okq (⟨"SavepointStore$Script", "characterAt", "(I)C"⟩, 2) := ⟨⟨by decide +kernel, by decide +kernel⟩, List.mem_of_getElem? (i := 72) (by decide +kernel), List.mem_of_getElem? (i := 387) (by decide +kernel), List.mem_of_getElem? (i := 388) (by decide +kernel)⟩
theorem lw_p41 : lw_okq (⟨"SavepointStore", "performOrder", "(I)I"⟩, 7) := ⟨⟨by decide +kernel, by decide +kernel⟩, List.mem_of_getElem? (i := 10) (by decide +kernel), List.mem_of_getElem? (i := 391) (by decide +kernel), List.mem_of_getElem? (i := 392) (by decide +kernel)⟩
theorem lw_p42 : lw_okq (⟨"SavepointStore$Script", "numberAt", "(I)I"⟩, 2) := ⟨⟨by decide +kernel, by decide +kernel⟩, List.mem_of_getElem? (i := 72) (by decide +kernel), List.mem_of_getElem? (i := 396) (by decide +kernel), List.mem_of_getElem? (i := 397) (by decide +kernel)⟩
theorem lw_p43 : lw_okq (⟨"SavepointStore$Script", "endOfNumber", "(I)I"⟩, 2) := ⟨⟨by decide +kernel, by decide +kernel⟩, List.mem_of_getElem? (i := 72) (by decide +kernel), List.mem_of_getElem? (i := 400) (by decide +kernel), List.mem_of_getElem? (i := 401) (by decide +kernel)⟩
theorem lw_p44 : lw_okq (⟨"SavepointStore$State", "valueCount", "()I"⟩, 4) := ⟨⟨by decide +kernel, by decide +kernel⟩, List.mem_of_getElem? (i := 18) (by decide +kernel), List.mem_of_getElem? (i := 413) (by decide +kernel), List.mem_of_getElem? (i := 414) (by decide +kernel)⟩
theorem lw_p45 : lw_okq (⟨"SavepointStore$State", "committedValue", "(I)I"⟩, 4) := ⟨⟨by decide +kernel, by decide +kernel⟩, List.mem_of_getElem? (i := 18) (by decide +kernel), List.mem_of_getElem? (i := 430) (by decide +kernel), List.mem_of_getElem? (i := 431) (by decide +kernel)⟩
theorem lw_p46 : lw_okq (⟨"SavepointStore$Transaction", "keysChangedSince", "(I)I"⟩, 6) := ⟨⟨by decide +kernel, by decide +kernel⟩, List.mem_of_getElem? (i := 25) (by decide +kernel), List.mem_of_getElem? (i := 451) (by decide +kernel), List.mem_of_getElem? (i := 452) (by decide +kernel)⟩
theorem lw_p47 : lw_okq (⟨"SavepointStore$Transaction", "lockCount", "(I)I"⟩, 6) := ⟨⟨by decide +kernel, by decide +kernel⟩, List.mem_of_getElem? (i := 25) (by decide +kernel), List.mem_of_getElem? (i := 456) (by decide +kernel), List.mem_of_getElem? (i := 457) (by decide +kernel)⟩
def lw_privs_3 : List (MethodName × Nat) := [(⟨"SavepointStore$Transaction", "noteChange", "(II)V"⟩, 6), (⟨"SavepointStore$State", "eraseKey", "(II)I"⟩, 4), (⟨"SavepointStore$State", "shiftKeys", "(III)I"⟩, 4), (⟨"SavepointStore$State", "addToValue", "(IIII)I"⟩, 4), (⟨"SavepointStore$State", "moveAmount", "(IIII)I"⟩, 4), (⟨"SavepointStore$Script", "addCharacter", "(C)I"⟩, 2), (⟨"SavepointStore$Script", "firstFault", "()I"⟩, 2), (⟨"SavepointStore$Script", "startsOrder", "(I)Z"⟩, 2), (⟨"SavepointStore$Script", "characterAt", "(I)C"⟩, 2), (⟨"SavepointStore", "performOrder", "(I)I"⟩, 7), (⟨"SavepointStore$Script", "numberAt", "(I)I"⟩, 2), (⟨"SavepointStore$Script", "endOfNumber", "(I)I"⟩, 2), (⟨"SavepointStore$State", "valueCount", "()I"⟩, 4), (⟨"SavepointStore$State", "committedValue", "(I)I"⟩, 4), (⟨"SavepointStore$Transaction", "keysChangedSince", "(I)I"⟩, 6), (⟨"SavepointStore$Transaction", "lockCount", "(I)I"⟩, 6)]
theorem lw_r3 : ∀ q ∈ lw_privs_3, lw_okq q := List.forall_mem_cons.mpr ⟨lw_p32, List.forall_mem_cons.mpr ⟨lw_p33, List.forall_mem_cons.mpr ⟨lw_p34, List.forall_mem_cons.mpr ⟨lw_p35, List.forall_mem_cons.mpr ⟨lw_p36, List.forall_mem_cons.mpr ⟨lw_p37, List.forall_mem_cons.mpr ⟨lw_p38, List.forall_mem_cons.mpr ⟨lw_p39, List.forall_mem_cons.mpr ⟨lw_p40, List.forall_mem_cons.mpr ⟨lw_p41, List.forall_mem_cons.mpr ⟨lw_p42, List.forall_mem_cons.mpr ⟨lw_p43, List.forall_mem_cons.mpr ⟨lw_p44, List.forall_mem_cons.mpr ⟨lw_p45, List.forall_mem_cons.mpr ⟨lw_p46, List.forall_mem_cons.mpr ⟨lw_p47, fun _ h => absurd h List.not_mem_nil⟩⟩⟩⟩⟩⟩⟩⟩⟩⟩⟩⟩⟩⟩⟩⟩
theorem lw_p48 : lw_okq (⟨"SavepointStore$State", "hasSavepoint", "(II)Z"⟩, 4) := ⟨⟨by decide +kernel, by decide +kernel⟩, List.mem_of_getElem? (i := 18) (by decide +kernel), List.mem_of_getElem? (i := 465) (by decide +kernel), List.mem_of_getElem? (i := 466) (by decide +kernel)⟩
theorem lw_p49 : lw_okq (⟨"SavepointStore$Transaction", "locksChangedSince", "(I)I"⟩, 6) := ⟨⟨by decide +kernel, by decide +kernel⟩, List.mem_of_getElem? (i := 25) (by decide +kernel), List.mem_of_getElem? (i := 480) (by decide +kernel), List.mem_of_getElem? (i := 481) (by decide +kernel)⟩
theorem lw_p50 : lw_okq (⟨"SavepointStore$State", "valueSum", "()I"⟩, 4) := ⟨⟨by decide +kernel, by decide +kernel⟩, List.mem_of_getElem? (i := 18) (by decide +kernel), List.mem_of_getElem? (i := 498) (by decide +kernel), List.mem_of_getElem? (i := 499) (by decide +kernel)⟩
theorem lw_p51 : lw_okq (⟨"SavepointStoreModel", "record", "()V"⟩, 14) := ⟨⟨by decide +kernel, by decide +kernel⟩, List.mem_of_getElem? (i := 502) (by decide +kernel), List.mem_of_getElem? (i := 555) (by decide +kernel), List.mem_of_getElem? (i := 556) (by decide +kernel)⟩
theorem lw_p52 : lw_okq (⟨"SavepointStoreModel", "beginError", "(I)I"⟩, 14) := ⟨⟨by decide +kernel, by decide +kernel⟩, List.mem_of_getElem? (i := 502) (by decide +kernel), List.mem_of_getElem? (i := 563) (by decide +kernel), List.mem_of_getElem? (i := 564) (by decide +kernel)⟩
theorem lw_p53 : lw_okq (⟨"SavepointStoreModel", "isOpen", "(I)Z"⟩, 14) := ⟨⟨by decide +kernel, by decide +kernel⟩, List.mem_of_getElem? (i := 502) (by decide +kernel), List.mem_of_getElem? (i := 573) (by decide +kernel), List.mem_of_getElem? (i := 574) (by decide +kernel)⟩
theorem lw_p54 : lw_okq (⟨"SavepointStoreModel", "doBegin", "(I)I"⟩, 14) := ⟨⟨by decide +kernel, by decide +kernel⟩, List.mem_of_getElem? (i := 502) (by decide +kernel), List.mem_of_getElem? (i := 577) (by decide +kernel), List.mem_of_getElem? (i := 578) (by decide +kernel)⟩
theorem lw_p55 : lw_okq (⟨"SavepointStoreModel", "openError", "(I)I"⟩, 14) := ⟨⟨by decide +kernel, by decide +kernel⟩, List.mem_of_getElem? (i := 502) (by decide +kernel), List.mem_of_getElem? (i := 585) (by decide +kernel), List.mem_of_getElem? (i := 586) (by decide +kernel)⟩
theorem lw_p56 : lw_okq (⟨"SavepointStoreModel", "doCommit", "(I)I"⟩, 14) := ⟨⟨by decide +kernel, by decide +kernel⟩, List.mem_of_getElem? (i := 502) (by decide +kernel), List.mem_of_getElem? (i := 589) (by decide +kernel), List.mem_of_getElem? (i := 590) (by decide +kernel)⟩
theorem lw_p57 : lw_okq (⟨"SavepointStoreModel", "others", "(II)I"⟩, 14) := ⟨⟨by decide +kernel, by decide +kernel⟩, List.mem_of_getElem? (i := 502) (by decide +kernel), List.mem_of_getElem? (i := 593) (by decide +kernel), List.mem_of_getElem? (i := 594) (by decide +kernel)⟩
theorem lw_p58 : lw_okq (⟨"SavepointStoreModel", "before", "(III)I"⟩, 14) := ⟨⟨by decide +kernel, by decide +kernel⟩, List.mem_of_getElem? (i := 502) (by decide +kernel), List.mem_of_getElem? (i := 597) (by decide +kernel), List.mem_of_getElem? (i := 598) (by decide +kernel)⟩
theorem lw_p59 : lw_okq (⟨"SavepointStoreModel", "close", "(I)V"⟩, 14) := ⟨⟨by decide +kernel, by decide +kernel⟩, List.mem_of_getElem? (i := 502) (by decide +kernel), List.mem_of_getElem? (i := 607) (by decide +kernel), List.mem_of_getElem? (i := 608) (by decide +kernel)⟩
theorem lw_p60 : lw_okq (⟨"SavepointStoreModel", "doRollback", "(I)I"⟩, 14) := ⟨⟨by decide +kernel, by decide +kernel⟩, List.mem_of_getElem? (i := 502) (by decide +kernel), List.mem_of_getElem? (i := 618) (by decide +kernel), List.mem_of_getElem? (i := 619) (by decide +kernel)⟩
theorem lw_p61 : lw_okq (⟨"SavepointStoreModel", "goBack", "(II)V"⟩, 14) := ⟨⟨by decide +kernel, by decide +kernel⟩, List.mem_of_getElem? (i := 502) (by decide +kernel), List.mem_of_getElem? (i := 622) (by decide +kernel), List.mem_of_getElem? (i := 623) (by decide +kernel)⟩
theorem lw_p62 : lw_okq (⟨"SavepointStoreModel", "modeBefore", "(III)I"⟩, 14) := ⟨⟨by decide +kernel, by decide +kernel⟩, List.mem_of_getElem? (i := 502) (by decide +kernel), List.mem_of_getElem? (i := 626) (by decide +kernel), List.mem_of_getElem? (i := 627) (by decide +kernel)⟩
theorem lw_p63 : lw_okq (⟨"SavepointStoreModel", "modeOf", "(II)I"⟩, 14) := ⟨⟨by decide +kernel, by decide +kernel⟩, List.mem_of_getElem? (i := 502) (by decide +kernel), List.mem_of_getElem? (i := 630) (by decide +kernel), List.mem_of_getElem? (i := 631) (by decide +kernel)⟩
def lw_privs_4 : List (MethodName × Nat) := [(⟨"SavepointStore$State", "hasSavepoint", "(II)Z"⟩, 4), (⟨"SavepointStore$Transaction", "locksChangedSince", "(I)I"⟩, 6), (⟨"SavepointStore$State", "valueSum", "()I"⟩, 4), (⟨"SavepointStoreModel", "record", "()V"⟩, 14), (⟨"SavepointStoreModel", "beginError", "(I)I"⟩, 14), (⟨"SavepointStoreModel", "isOpen", "(I)Z"⟩, 14), (⟨"SavepointStoreModel", "doBegin", "(I)I"⟩, 14), (⟨"SavepointStoreModel", "openError", "(I)I"⟩, 14), (⟨"SavepointStoreModel", "doCommit", "(I)I"⟩, 14), (⟨"SavepointStoreModel", "others", "(II)I"⟩, 14), (⟨"SavepointStoreModel", "before", "(III)I"⟩, 14), (⟨"SavepointStoreModel", "close", "(I)V"⟩, 14), (⟨"SavepointStoreModel", "doRollback", "(I)I"⟩, 14), (⟨"SavepointStoreModel", "goBack", "(II)V"⟩, 14), (⟨"SavepointStoreModel", "modeBefore", "(III)I"⟩, 14), (⟨"SavepointStoreModel", "modeOf", "(II)I"⟩, 14)]
theorem lw_r4 : ∀ q ∈ lw_privs_4, lw_okq q := List.forall_mem_cons.mpr ⟨lw_p48, List.forall_mem_cons.mpr ⟨lw_p49, List.forall_mem_cons.mpr ⟨lw_p50, List.forall_mem_cons.mpr ⟨lw_p51, List.forall_mem_cons.mpr ⟨lw_p52, List.forall_mem_cons.mpr ⟨lw_p53, List.forall_mem_cons.mpr ⟨lw_p54, List.forall_mem_cons.mpr ⟨lw_p55, List.forall_mem_cons.mpr ⟨lw_p56, List.forall_mem_cons.mpr ⟨lw_p57, List.forall_mem_cons.mpr ⟨lw_p58, List.forall_mem_cons.mpr ⟨lw_p59, List.forall_mem_cons.mpr ⟨lw_p60, List.forall_mem_cons.mpr ⟨lw_p61, List.forall_mem_cons.mpr ⟨lw_p62, List.forall_mem_cons.mpr ⟨lw_p63, fun _ h => absurd h List.not_mem_nil⟩⟩⟩⟩⟩⟩⟩⟩⟩⟩⟩⟩⟩⟩⟩⟩
theorem lw_p64 : lw_okq (⟨"SavepointStoreModel", "savepointError", "(II)I"⟩, 14) := ⟨⟨by decide +kernel, by decide +kernel⟩, List.mem_of_getElem? (i := 502) (by decide +kernel), List.mem_of_getElem? (i := 644) (by decide +kernel), List.mem_of_getElem? (i := 645) (by decide +kernel)⟩
theorem lw_p65 : lw_okq (⟨"SavepointStoreModel", "doSavepoint", "(II)I"⟩, 14) := ⟨⟨by decide +kernel, by decide +kernel⟩, List.mem_of_getElem? (i := 502) (by decide +kernel), List.mem_of_getElem? (i := 651) (by decide +kernel), List.mem_of_getElem? (i := 652) (by decide +kernel)⟩
theorem lw_p66 : lw_okq (⟨"SavepointStoreModel", "nameError", "(II)I"⟩, 14) := ⟨⟨by decide +kernel, by decide +kernel⟩, List.mem_of_getElem? (i := 502) (by decide +kernel), List.mem_of_getElem? (i := 659) (by decide +kernel), List.mem_of_getElem? (i := 660) (by decide +kernel)⟩
theorem lw_p67 : lw_okq (⟨"SavepointStoreModel", "nearestOf", "(II)I"⟩, 14) := ⟨⟨by decide +kernel, by decide +kernel⟩, List.mem_of_getElem? (i := 502) (by decide +kernel), List.mem_of_getElem? (i := 663) (by decide +kernel), List.mem_of_getElem? (i := 664) (by decide +kernel)⟩
theorem lw_p68 : lw_okq (⟨"SavepointStoreModel", "doUndoTo", "(II)I"⟩, 14) := ⟨⟨by decide +kernel, by decide +kernel⟩, List.mem_of_getElem? (i := 502) (by decide +kernel), List.mem_of_getElem? (i := 667) (by decide +kernel), List.mem_of_getElem? (i := 668) (by decide +kernel)⟩
theorem lw_p69 : lw_okq (⟨"SavepointStoreModel", "doRelease", "(II)I"⟩, 14) := ⟨⟨by decide +kernel, by decide +kernel⟩, List.mem_of_getElem? (i := 502) (by decide +kernel), List.mem_of_getElem? (i := 675) (by decide +kernel), List.mem_of_getElem? (i := 676) (by decide +kernel)⟩
theorem lw_p70 : lw_okq (⟨"SavepointStoreModel", "keyError", "(II)I"⟩, 14) := ⟨⟨by decide +kernel, by decide +kernel⟩, List.mem_of_getElem? (i := 502) (by decide +kernel), List.mem_of_getElem? (i := 683) (by decide +kernel), List.mem_of_getElem? (i := 684) (by decide +kernel)⟩
theorem lw_p71 : lw_okq (⟨"SavepointStoreModel", "doRead", "(II)I"⟩, 14) := ⟨⟨by decide +kernel, by decide +kernel⟩, List.mem_of_getElem? (i := 502) (by decide +kernel), List.mem_of_getElem? (i := 690) (by decide +kernel), List.mem_of_getElem? (i := 691) (by decide +kernel)⟩
theorem lw_p72 : lw_okq (⟨"SavepointStoreModel", "beginStatement", "()V"⟩, 14) := ⟨⟨by decide +kernel, by decide +kernel⟩, List.mem_of_getElem? (i := 502) (by decide +kernel), List.mem_of_getElem? (i := 694) (by decide +kernel), List.mem_of_getElem? (i := 695) (by decide +kernel)⟩
theorem lw_p73 : lw_okq (⟨"SavepointStoreModel", "takes", "(III)Z"⟩, 14) := ⟨⟨by decide +kernel, by decide +kernel⟩, List.mem_of_getElem? (i := 502) (by decide +kernel), List.mem_of_getElem? (i := 698) (by decide +kernel), List.mem_of_getElem? (i := 699) (by decide +kernel)⟩
theorem lw_p74 : lw_okq (⟨"SavepointStoreModel", "isBusy", "(III)Z"⟩, 14) := ⟨⟨by decide +kernel, by decide +kernel⟩, List.mem_of_getElem? (i := 502) (by decide +kernel), List.mem_of_getElem? (i := 702) (by decide +kernel), List.mem_of_getElem? (i := 703) (by decide +kernel)⟩
theorem lw_p75 : lw_okq (⟨"SavepointStoreModel", "endWell", "(II)I"⟩, 14) := ⟨⟨by decide +kernel, by decide +kernel⟩, List.mem_of_getElem? (i := 502) (by decide +kernel), List.mem_of_getElem? (i := 709) (by decide +kernel), List.mem_of_getElem? (i := 710) (by decide +kernel)⟩
theorem lw_p76 : lw_okq (⟨"SavepointStoreModel", "endBadly", "(II)I"⟩, 14) := ⟨⟨by decide +kernel, by decide +kernel⟩, List.mem_of_getElem? (i := 502) (by decide +kernel), List.mem_of_getElem? (i := 713) (by decide +kernel), List.mem_of_getElem? (i := 714) (by decide +kernel)⟩
theorem lw_p77 : lw_okq (⟨"SavepointStoreModel", "writeError", "(III)I"⟩, 14) := ⟨⟨by decide +kernel, by decide +kernel⟩, List.mem_of_getElem? (i := 502) (by decide +kernel), List.mem_of_getElem? (i := 721) (by decide +kernel), List.mem_of_getElem? (i := 722) (by decide +kernel)⟩
theorem lw_p78 : lw_okq (⟨"SavepointStoreModel", "doWrite", "(III)I"⟩, 14) := ⟨⟨by decide +kernel, by decide +kernel⟩, List.mem_of_getElem? (i := 502) (by decide +kernel), List.mem_of_getElem? (i := 725) (by decide +kernel), List.mem_of_getElem? (i := 726) (by decide +kernel)⟩
theorem lw_p79 : lw_okq (⟨"SavepointStoreModel", "change", "(II)V"⟩, 14) := ⟨⟨by decide +kernel, by decide +kernel⟩, List.mem_of_getElem? (i := 502) (by decide +kernel), List.mem_of_getElem? (i := 729) (by decide +kernel), List.mem_of_getElem? (i := 730) (by decide +kernel)⟩
def lw_privs_5 : List (MethodName × Nat) := [(⟨"SavepointStoreModel", "savepointError", "(II)I"⟩, 14), (⟨"SavepointStoreModel", "doSavepoint", "(II)I"⟩, 14), (⟨"SavepointStoreModel", "nameError", "(II)I"⟩, 14), (⟨"SavepointStoreModel", "nearestOf", "(II)I"⟩, 14), (⟨"SavepointStoreModel", "doUndoTo", "(II)I"⟩, 14), (⟨"SavepointStoreModel", "doRelease", "(II)I"⟩, 14), (⟨"SavepointStoreModel", "keyError", "(II)I"⟩, 14), (⟨"SavepointStoreModel", "doRead", "(II)I"⟩, 14), (⟨"SavepointStoreModel", "beginStatement", "()V"⟩, 14), (⟨"SavepointStoreModel", "takes", "(III)Z"⟩, 14), (⟨"SavepointStoreModel", "isBusy", "(III)Z"⟩, 14), (⟨"SavepointStoreModel", "endWell", "(II)I"⟩, 14), (⟨"SavepointStoreModel", "endBadly", "(II)I"⟩, 14), (⟨"SavepointStoreModel", "writeError", "(III)I"⟩, 14), (⟨"SavepointStoreModel", "doWrite", "(III)I"⟩, 14), (⟨"SavepointStoreModel", "change", "(II)V"⟩, 14)]
theorem lw_r5 : ∀ q ∈ lw_privs_5, lw_okq q := List.forall_mem_cons.mpr ⟨lw_p64, List.forall_mem_cons.mpr ⟨lw_p65, List.forall_mem_cons.mpr ⟨lw_p66, List.forall_mem_cons.mpr ⟨lw_p67, List.forall_mem_cons.mpr ⟨lw_p68, List.forall_mem_cons.mpr ⟨lw_p69, List.forall_mem_cons.mpr ⟨lw_p70, List.forall_mem_cons.mpr ⟨lw_p71, List.forall_mem_cons.mpr ⟨lw_p72, List.forall_mem_cons.mpr ⟨lw_p73, List.forall_mem_cons.mpr ⟨lw_p74, List.forall_mem_cons.mpr ⟨lw_p75, List.forall_mem_cons.mpr ⟨lw_p76, List.forall_mem_cons.mpr ⟨lw_p77, List.forall_mem_cons.mpr ⟨lw_p78, List.forall_mem_cons.mpr ⟨lw_p79, fun _ h => absurd h List.not_mem_nil⟩⟩⟩⟩⟩⟩⟩⟩⟩⟩⟩⟩⟩⟩⟩⟩
theorem lw_p80 : lw_okq (⟨"SavepointStoreModel", "add", "(IIIZ)I"⟩, 14) := ⟨⟨by decide +kernel, by decide +kernel⟩, List.mem_of_getElem? (i := 502) (by decide +kernel), List.mem_of_getElem? (i := 742) (by decide +kernel), List.mem_of_getElem? (i := 743) (by decide +kernel)⟩
theorem lw_p81 : lw_okq (⟨"SavepointStoreModel", "readText", "(Z)Z"⟩, 14) := ⟨⟨by decide +kernel, by decide +kernel⟩, List.mem_of_getElem? (i := 502) (by decide +kernel), List.mem_of_getElem? (i := 765) (by decide +kernel), List.mem_of_getElem? (i := 766) (by decide +kernel)⟩
theorem lw_p82 : lw_okq (⟨"SavepointStoreModel", "readOrder", "()Z"⟩, 14) := ⟨⟨by decide +kernel, by decide +kernel⟩, List.mem_of_getElem? (i := 502) (by decide +kernel), List.mem_of_getElem? (i := 769) (by decide +kernel), List.mem_of_getElem? (i := 770) (by decide +kernel)⟩
theorem lw_p83 : lw_okq (⟨"SavepointStoreModel", "isNext", "(II)Z"⟩, 14) := ⟨⟨by decide +kernel, by decide +kernel⟩, List.mem_of_getElem? (i := 502) (by decide +kernel), List.mem_of_getElem? (i := 773) (by decide +kernel), List.mem_of_getElem? (i := 774) (by decide +kernel)⟩
theorem lw_p84 : lw_okq (⟨"SavepointStoreModel", "readName", "()Z"⟩, 14) := ⟨⟨by decide +kernel, by decide +kernel⟩, List.mem_of_getElem? (i := 502) (by decide +kernel), List.mem_of_getElem? (i := 777) (by decide +kernel), List.mem_of_getElem? (i := 778) (by decide +kernel)⟩
theorem lw_p85 : lw_okq (⟨"SavepointStoreModel", "readKey", "()Z"⟩, 14) := ⟨⟨by decide +kernel, by decide +kernel⟩, List.mem_of_getElem? (i := 502) (by decide +kernel), List.mem_of_getElem? (i := 781) (by decide +kernel), List.mem_of_getElem? (i := 782) (by decide +kernel)⟩
theorem lw_p86 : lw_okq (⟨"SavepointStoreModel", "readNumber", "(I)I"⟩, 14) := ⟨⟨by decide +kernel, by decide +kernel⟩, List.mem_of_getElem? (i := 502) (by decide +kernel), List.mem_of_getElem? (i := 785) (by decide +kernel), List.mem_of_getElem? (i := 786) (by decide +kernel)⟩
theorem lw_p87 : lw_okq (⟨"SavepointStoreModel", "passes", "(I)Z"⟩, 14) := ⟨⟨by decide +kernel, by decide +kernel⟩, List.mem_of_getElem? (i := 502) (by decide +kernel), List.mem_of_getElem? (i := 789) (by decide +kernel), List.mem_of_getElem? (i := 790) (by decide +kernel)⟩
theorem lw_p88 : lw_okq (⟨"SavepointStoreModel", "errorOfOrder", "()I"⟩, 14) := ⟨⟨by decide +kernel, by decide +kernel⟩, List.mem_of_getElem? (i := 502) (by decide +kernel), List.mem_of_getElem? (i := 793) (by decide +kernel), List.mem_of_getElem? (i := 794) (by decide +kernel)⟩
theorem lw_p89 : lw_okq (⟨"SavepointStoreModel", "carryOut", "()I"⟩, 14) := ⟨⟨by decide +kernel, by decide +kernel⟩, List.mem_of_getElem? (i := 502) (by decide +kernel), List.mem_of_getElem? (i := 797) (by decide +kernel), List.mem_of_getElem? (i := 798) (by decide +kernel)⟩
theorem lw_p90 : lw_okq (⟨"SavepointStoreModel", "valued", "()I"⟩, 14) := ⟨⟨by decide +kernel, by decide +kernel⟩, List.mem_of_getElem? (i := 502) (by decide +kernel), List.mem_of_getElem? (i := 813) (by decide +kernel), List.mem_of_getElem? (i := 814) (by decide +kernel)⟩
theorem lw_p91 : lw_okq (⟨"SavepointStoreModel", "since", "(III)I"⟩, 14) := ⟨⟨by decide +kernel, by decide +kernel⟩, List.mem_of_getElem? (i := 502) (by decide +kernel), List.mem_of_getElem? (i := 829) (by decide +kernel), List.mem_of_getElem? (i := 830) (by decide +kernel)⟩
theorem lw_p92 : lw_okq (⟨"SavepointStoreModel", "keysWith", "(II)I"⟩, 14) := ⟨⟨by decide +kernel, by decide +kernel⟩, List.mem_of_getElem? (i := 502) (by decide +kernel), List.mem_of_getElem? (i := 845) (by decide +kernel), List.mem_of_getElem? (i := 846) (by decide +kernel)⟩
theorem lw_p93 : lw_okq (⟨"SavepointStoreModel", "isSavepoint", "(II)Z"⟩, 14) := ⟨⟨by decide +kernel, by decide +kernel⟩, List.mem_of_getElem? (i := 502) (by decide +kernel), List.mem_of_getElem? (i := 853) (by decide +kernel), List.mem_of_getElem? (i := 854) (by decide +kernel)⟩
def lw_privs_6 : List (MethodName × Nat) := [(⟨"SavepointStoreModel", "add", "(IIIZ)I"⟩, 14), (⟨"SavepointStoreModel", "readText", "(Z)Z"⟩, 14), (⟨"SavepointStoreModel", "readOrder", "()Z"⟩, 14), (⟨"SavepointStoreModel", "isNext", "(II)Z"⟩, 14), (⟨"SavepointStoreModel", "readName", "()Z"⟩, 14), (⟨"SavepointStoreModel", "readKey", "()Z"⟩, 14), (⟨"SavepointStoreModel", "readNumber", "(I)I"⟩, 14), (⟨"SavepointStoreModel", "passes", "(I)Z"⟩, 14), (⟨"SavepointStoreModel", "errorOfOrder", "()I"⟩, 14), (⟨"SavepointStoreModel", "carryOut", "()I"⟩, 14), (⟨"SavepointStoreModel", "valued", "()I"⟩, 14), (⟨"SavepointStoreModel", "since", "(III)I"⟩, 14), (⟨"SavepointStoreModel", "keysWith", "(II)I"⟩, 14), (⟨"SavepointStoreModel", "isSavepoint", "(II)Z"⟩, 14)]
theorem lw_r6 : ∀ q ∈ lw_privs_6, lw_okq q := List.forall_mem_cons.mpr ⟨lw_p80, List.forall_mem_cons.mpr ⟨lw_p81, List.forall_mem_cons.mpr ⟨lw_p82, List.forall_mem_cons.mpr ⟨lw_p83, List.forall_mem_cons.mpr ⟨lw_p84, List.forall_mem_cons.mpr ⟨lw_p85, List.forall_mem_cons.mpr ⟨lw_p86, List.forall_mem_cons.mpr ⟨lw_p87, List.forall_mem_cons.mpr ⟨lw_p88, List.forall_mem_cons.mpr ⟨lw_p89, List.forall_mem_cons.mpr ⟨lw_p90, List.forall_mem_cons.mpr ⟨lw_p91, List.forall_mem_cons.mpr ⟨lw_p92, List.forall_mem_cons.mpr ⟨lw_p93, fun _ h => absurd h List.not_mem_nil⟩⟩⟩⟩⟩⟩⟩⟩⟩⟩⟩⟩⟩⟩
def lw_privs : List (MethodName × Nat) := lw_privs_1 ++ (lw_privs_2 ++ (lw_privs_3 ++ (lw_privs_4 ++ (lw_privs_5 ++ (lw_privs_6)))))
def lw_tbl : List Cond := k2_sels lw_privs ++ tables_1
theorem lw_privs_ok : ∀ q ∈ lw_privs, lw_okq q := by
  show ∀ q ∈ lw_privs_1 ++ (lw_privs_2 ++ (lw_privs_3 ++ (lw_privs_4 ++ (lw_privs_5 ++ (lw_privs_6))))), lw_okq q
  exact List.forall_mem_append.mpr ⟨lw_r1, List.forall_mem_append.mpr ⟨lw_r2, List.forall_mem_append.mpr ⟨lw_r3, List.forall_mem_append.mpr ⟨lw_r4, List.forall_mem_append.mpr ⟨lw_r5, lw_r6⟩⟩⟩⟩⟩
/-- the streams that the claim lets the run draw from -/
abbrev lw_cs : List Choice := [Jvm.Choice.named "NaN.bits"]
theorem lw_bits : nanBits ∈ lw_cs := by first | decide | exact List.mem_cons_self | simp [lw_cs, nanBits]
-- ===== end of PART A; then your names; then what follows =====
def RX0 : String := "SavepointStore$Script"
def TX0 : u_T := fun k => match k with
  | 0 => ("SavepointStore$Script", "text", "[C", true)
  | _ => ("SavepointStore$Script", "length", "I", false)
def tyX0 : Nat → FieldType := fun k => match k with
  | 0 => .array .char
  | _ => .int
theorem nmX0 : ∀ a, a < 2 → ∀ b, b < 2 → a ≠ b → (TX0 a).2.1 ≠ (TX0 b).2.1 := by decide +kernel
theorem tyX0_ok : ∀ k, k < 2 → parseFieldDescriptor (TX0 k).2.2.1 = some (tyX0 k) := by decide +kernel
abbrev cX0_init : ByteArray := prog_2_method_1_code
def yX0_init : MethodName := ⟨RX0, "<init>", "()V"⟩
abbrev cX0_addCharacter : ByteArray := prog_2_method_2_code
def yX0_addCharacter : MethodName := ⟨RX0, "addCharacter", "(C)I"⟩
abbrev cX0_firstFault : ByteArray := prog_2_method_3_code
def yX0_firstFault : MethodName := ⟨RX0, "firstFault", "()I"⟩
abbrev cX0_canEndOrder : ByteArray := prog_2_method_4_code
def yX0_canEndOrder : MethodName := ⟨RX0, "canEndOrder", "(I)Z"⟩
abbrev cX0_placeAfter : ByteArray := prog_2_method_5_code
def yX0_placeAfter : MethodName := ⟨RX0, "placeAfter", "(IC)I"⟩
abbrev cX0_placeAfterKind : ByteArray := prog_2_method_6_code
def yX0_placeAfterKind : MethodName := ⟨RX0, "placeAfterKind", "(C)I"⟩
abbrev cX0_placeAfterKeyDigit : ByteArray := prog_2_method_7_code
def yX0_placeAfterKeyDigit : MethodName := ⟨RX0, "placeAfterKeyDigit", "(CII)I"⟩
abbrev cX0_placeInValue : ByteArray := prog_2_method_8_code
def yX0_placeInValue : MethodName := ⟨RX0, "placeInValue", "(IC)I"⟩
abbrev cX0_isBetween : ByteArray := prog_2_method_9_code
def yX0_isBetween : MethodName := ⟨RX0, "isBetween", "(CCC)Z"⟩
abbrev cX0_characterAt : ByteArray := prog_2_method_10_code
def yX0_characterAt : MethodName := ⟨RX0, "characterAt", "(I)C"⟩
abbrev cX0_startsOrder : ByteArray := prog_2_method_11_code
def yX0_startsOrder : MethodName := ⟨RX0, "startsOrder", "(I)Z"⟩
abbrev cX0_endOfNumber : ByteArray := prog_2_method_12_code
def yX0_endOfNumber : MethodName := ⟨RX0, "endOfNumber", "(I)I"⟩
abbrev cX0_numberAt : ByteArray := prog_2_method_13_code
def yX0_numberAt : MethodName := ⟨RX0, "numberAt", "(I)I"⟩
def RX1 : String := "SavepointStore$State"
def TX1 : u_T := fun k => match k with
  | 0 => ("SavepointStore$State", "isKept", "Z", false)
  | 1 => ("SavepointStore$State", "values", "[I", true)
  | 2 => ("SavepointStore$State", "transactions", "[LSavepointStore$Transaction;", true)
  | _ => ("SavepointStore$State", "totals", "[I", true)
def tyX1 : Nat → FieldType := fun k => match k with
  | 0 => .boolean
  | 1 => .array .int
  | 2 => .array (.object "SavepointStore$Transaction")
  | _ => .array .int
theorem nmX1 : ∀ a, a < 4 → ∀ b, b < 4 → a ≠ b → (TX1 a).2.1 ≠ (TX1 b).2.1 := by decide +kernel
theorem tyX1_ok : ∀ k, k < 4 → parseFieldDescriptor (TX1 k).2.2.1 = some (tyX1 k) := by decide +kernel
abbrev cX1_init : ByteArray := prog_3_method_1_code
def yX1_init : MethodName := ⟨RX1, "<init>", "()V"⟩
abbrev cX1_copyFrom : ByteArray := prog_3_method_2_code
def yX1_copyFrom : MethodName := ⟨RX1, "copyFrom", "(LSavepointStore$State;)V"⟩
abbrev cX1_valueCount : ByteArray := prog_3_method_3_code
def yX1_valueCount : MethodName := ⟨RX1, "valueCount", "()I"⟩
abbrev cX1_valueSum : ByteArray := prog_3_method_4_code
def yX1_valueSum : MethodName := ⟨RX1, "valueSum", "()I"⟩
abbrev cX1_committedValue : ByteArray := prog_3_method_5_code
def yX1_committedValue : MethodName := ⟨RX1, "committedValue", "(I)I"⟩
abbrev cX1_hasSavepoint : ByteArray := prog_3_method_6_code
def yX1_hasSavepoint : MethodName := ⟨RX1, "hasSavepoint", "(II)Z"⟩
abbrev cX1_openTransaction : ByteArray := prog_3_method_7_code
def yX1_openTransaction : MethodName := ⟨RX1, "openTransaction", "(I)I"⟩
abbrev cX1_commitTransaction : ByteArray := prog_3_method_8_code
def yX1_commitTransaction : MethodName := ⟨RX1, "commitTransaction", "(I)I"⟩
abbrev cX1_rollTransactionBack : ByteArray := prog_3_method_9_code
def yX1_rollTransactionBack : MethodName := ⟨RX1, "rollTransactionBack", "(I)I"⟩
abbrev cX1_setSavepoint : ByteArray := prog_3_method_10_code
def yX1_setSavepoint : MethodName := ⟨RX1, "setSavepoint", "(II)I"⟩
abbrev cX1_undoToName : ByteArray := prog_3_method_11_code
def yX1_undoToName : MethodName := ⟨RX1, "undoToName", "(II)I"⟩
abbrev cX1_releaseName : ByteArray := prog_3_method_12_code
def yX1_releaseName : MethodName := ⟨RX1, "releaseName", "(II)I"⟩
abbrev cX1_savepointOrError : ByteArray := prog_3_method_13_code
def yX1_savepointOrError : MethodName := ⟨RX1, "savepointOrError", "(II)I"⟩
abbrev cX1_readKey : ByteArray := prog_3_method_14_code
def yX1_readKey : MethodName := ⟨RX1, "readKey", "(II)I"⟩
abbrev cX1_writeKey : ByteArray := prog_3_method_15_code
def yX1_writeKey : MethodName := ⟨RX1, "writeKey", "(III)I"⟩
abbrev cX1_eraseKey : ByteArray := prog_3_method_16_code
def yX1_eraseKey : MethodName := ⟨RX1, "eraseKey", "(II)I"⟩
abbrev cX1_shiftKeys : ByteArray := prog_3_method_17_code
def yX1_shiftKeys : MethodName := ⟨RX1, "shiftKeys", "(III)I"⟩
abbrev cX1_moveAmount : ByteArray := prog_3_method_18_code
def yX1_moveAmount : MethodName := ⟨RX1, "moveAmount", "(IIII)I"⟩
abbrev cX1_whyImpossible : ByteArray := prog_3_method_19_code
def yX1_whyImpossible : MethodName := ⟨RX1, "whyImpossible", "(IZZ)I"⟩
abbrev cX1_endStatement : ByteArray := prog_3_method_20_code
def yX1_endStatement : MethodName := ⟨RX1, "endStatement", "(II)I"⟩
abbrev cX1_replaceValue : ByteArray := prog_3_method_21_code
def yX1_replaceValue : MethodName := ⟨RX1, "replaceValue", "(III)I"⟩
abbrev cX1_addToValue : ByteArray := prog_3_method_22_code
def yX1_addToValue : MethodName := ⟨RX1, "addToValue", "(IIII)I"⟩
abbrev cX1_takeLock : ByteArray := prog_3_method_23_code
def yX1_takeLock : MethodName := ⟨RX1, "takeLock", "(III)Z"⟩
abbrev cX1_isBusy : ByteArray := prog_3_method_24_code
def yX1_isBusy : MethodName := ⟨RX1, "isBusy", "(III)Z"⟩
abbrev cX1_undoToMoment : ByteArray := prog_3_method_25_code
def yX1_undoToMoment : MethodName := ⟨RX1, "undoToMoment", "(LSavepointStore$Transaction;I)I"⟩
def RX2 : String := "SavepointStore$Transaction"
def TX2 : u_T := fun k => match k with
  | 0 => ("SavepointStore$Transaction", "momentCount", "I", false)
  | 1 => ("SavepointStore$Transaction", "locks", "I", false)
  | 2 => ("SavepointStore$Transaction", "locksAt", "[I", true)
  | 3 => ("SavepointStore$Transaction", "names", "[I", true)
  | 4 => ("SavepointStore$Transaction", "changedKeys", "[I", true)
  | _ => ("SavepointStore$Transaction", "valuesBefore", "[I", true)
def tyX2 : Nat → FieldType := fun k => match k with
  | 0 => .int
  | 1 => .int
  | 2 => .array .int
  | 3 => .array .int
  | 4 => .array .int
  | _ => .array .int
theorem nmX2 : ∀ a, a < 6 → ∀ b, b < 6 → a ≠ b → (TX2 a).2.1 ≠ (TX2 b).2.1 := by decide +kernel
theorem tyX2_ok : ∀ k, k < 6 → parseFieldDescriptor (TX2 k).2.2.1 = some (tyX2 k) := by decide +kernel
abbrev cX2_init : ByteArray := prog_4_method_1_code
def yX2_init : MethodName := ⟨RX2, "<init>", "()V"⟩
abbrev cX2_isOpen : ByteArray := prog_4_method_2_code
def yX2_isOpen : MethodName := ⟨RX2, "isOpen", "()Z"⟩
abbrev cX2_savepointCount : ByteArray := prog_4_method_3_code
def yX2_savepointCount : MethodName := ⟨RX2, "savepointCount", "()I"⟩
abbrev cX2_addMoment : ByteArray := prog_4_method_4_code
def yX2_addMoment : MethodName := ⟨RX2, "addMoment", "()V"⟩
abbrev cX2_close : ByteArray := prog_4_method_5_code
def yX2_close : MethodName := ⟨RX2, "close", "()V"⟩
abbrev cX2_nearestSavepoint : ByteArray := prog_4_method_6_code
def yX2_nearestSavepoint : MethodName := ⟨RX2, "nearestSavepoint", "(I)I"⟩
abbrev cX2_lockMode : ByteArray := prog_4_method_7_code
def yX2_lockMode : MethodName := ⟨RX2, "lockMode", "(I)I"⟩
abbrev cX2_setLockMode : ByteArray := prog_4_method_8_code
def yX2_setLockMode : MethodName := ⟨RX2, "setLockMode", "(II)V"⟩
abbrev cX2_lockCount : ByteArray := prog_4_method_9_code
def yX2_lockCount : MethodName := ⟨RX2, "lockCount", "(I)I"⟩
abbrev cX2_locksChangedSince : ByteArray := prog_4_method_10_code
def yX2_locksChangedSince : MethodName := ⟨RX2, "locksChangedSince", "(I)I"⟩
abbrev cX2_undoLocks : ByteArray := prog_4_method_11_code
def yX2_undoLocks : MethodName := ⟨RX2, "undoLocks", "(I)V"⟩
abbrev cX2_noteChange : ByteArray := prog_4_method_12_code
def yX2_noteChange : MethodName := ⟨RX2, "noteChange", "(II)V"⟩
abbrev cX2_noteChangeAt : ByteArray := prog_4_method_13_code
def yX2_noteChangeAt : MethodName := ⟨RX2, "noteChangeAt", "(III)V"⟩
abbrev cX2_keysChangedSince : ByteArray := prog_4_method_14_code
def yX2_keysChangedSince : MethodName := ⟨RX2, "keysChangedSince", "(I)I"⟩
abbrev cX2_valueAt : ByteArray := prog_4_method_15_code
def yX2_valueAt : MethodName := ⟨RX2, "valueAt", "(III)I"⟩
abbrev cX2_forgetChangesSince : ByteArray := prog_4_method_16_code
def yX2_forgetChangesSince : MethodName := ⟨RX2, "forgetChangesSince", "(I)V"⟩
abbrev cX2_dropMomentsAfter : ByteArray := prog_4_method_17_code
def yX2_dropMomentsAfter : MethodName := ⟨RX2, "dropMomentsAfter", "(I)V"⟩
abbrev cX2_copyFrom : ByteArray := prog_4_method_18_code
def yX2_copyFrom : MethodName := ⟨RX2, "copyFrom", "(LSavepointStore$Transaction;)V"⟩
def RX3 : String := "SavepointStore"
def TX3 : u_T := fun k => match k with
  | 0 => ("SavepointStore", "now", "LSavepointStore$State;", true)
  | 1 => ("SavepointStore", "snapshot", "LSavepointStore$State;", true)
  | 2 => ("SavepointStore", "hasSnapshot", "Z", false)
  | 3 => ("SavepointStore", "history", "[LSavepointStore$State;", true)
  | 4 => ("SavepointStore", "oldestSlot", "I", false)
  | 5 => ("SavepointStore", "historyLength", "I", false)
  | _ => ("SavepointStore", "script", "LSavepointStore$Script;", true)
def tyX3 : Nat → FieldType := fun k => match k with
  | 0 => .object "SavepointStore$State"
  | 1 => .object "SavepointStore$State"
  | 2 => .boolean
  | 3 => .array (.object "SavepointStore$State")
  | 4 => .int
  | 5 => .int
  | _ => .object "SavepointStore$Script"
theorem nmX3 : ∀ a, a < 7 → ∀ b, b < 7 → a ≠ b → (TX3 a).2.1 ≠ (TX3 b).2.1 := by decide +kernel
theorem tyX3_ok : ∀ k, k < 7 → parseFieldDescriptor (TX3 k).2.2.1 = some (tyX3 k) := by decide +kernel
abbrev cX3_init : ByteArray := prog_1_method_1_code
def yX3_init : MethodName := ⟨RX3, "<init>", "()V"⟩
abbrev cX3_keep : ByteArray := prog_1_method_2_code
def yX3_keep : MethodName := ⟨RX3, "keep", "(Z)I"⟩
abbrev cX3_begin : ByteArray := prog_1_method_3_code
def yX3_begin : MethodName := ⟨RX3, "begin", "(I)I"⟩
abbrev cX3_commit : ByteArray := prog_1_method_4_code
def yX3_commit : MethodName := ⟨RX3, "commit", "(I)I"⟩
abbrev cX3_rollback : ByteArray := prog_1_method_5_code
def yX3_rollback : MethodName := ⟨RX3, "rollback", "(I)I"⟩
abbrev cX3_savepoint : ByteArray := prog_1_method_6_code
def yX3_savepoint : MethodName := ⟨RX3, "savepoint", "(II)I"⟩
abbrev cX3_undoTo : ByteArray := prog_1_method_7_code
def yX3_undoTo : MethodName := ⟨RX3, "undoTo", "(II)I"⟩
abbrev cX3_release : ByteArray := prog_1_method_8_code
def yX3_release : MethodName := ⟨RX3, "release", "(II)I"⟩
abbrev cX3_read : ByteArray := prog_1_method_9_code
def yX3_read : MethodName := ⟨RX3, "read", "(II)I"⟩
abbrev cX3_write : ByteArray := prog_1_method_10_code
def yX3_write : MethodName := ⟨RX3, "write", "(III)I"⟩
abbrev cX3_erase : ByteArray := prog_1_method_11_code
def yX3_erase : MethodName := ⟨RX3, "erase", "(II)I"⟩
abbrev cX3_shift : ByteArray := prog_1_method_12_code
def yX3_shift : MethodName := ⟨RX3, "shift", "(III)I"⟩
abbrev cX3_move : ByteArray := prog_1_method_13_code
def yX3_move : MethodName := ⟨RX3, "move", "(IIII)I"⟩
abbrev cX3_append : ByteArray := prog_1_method_14_code
def yX3_append : MethodName := ⟨RX3, "append", "(I)I"⟩
abbrev cX3_clearText : ByteArray := prog_1_method_15_code
def yX3_clearText : MethodName := ⟨RX3, "clearText", "()I"⟩
abbrev cX3_fault : ByteArray := prog_1_method_16_code
def yX3_fault : MethodName := ⟨RX3, "fault", "()I"⟩
abbrev cX3_perform : ByteArray := prog_1_method_17_code
def yX3_perform : MethodName := ⟨RX3, "perform", "()I"⟩
abbrev cX3_undo : ByteArray := prog_1_method_18_code
def yX3_undo : MethodName := ⟨RX3, "undo", "()I"⟩
abbrev cX3_save : ByteArray := prog_1_method_19_code
def yX3_save : MethodName := ⟨RX3, "save", "()I"⟩
abbrev cX3_restore : ByteArray := prog_1_method_20_code
def yX3_restore : MethodName := ⟨RX3, "restore", "()I"⟩
abbrev cX3_value : ByteArray := prog_1_method_21_code
def yX3_value : MethodName := ⟨RX3, "value", "(I)I"⟩
abbrev cX3_committed : ByteArray := prog_1_method_22_code
def yX3_committed : MethodName := ⟨RX3, "committed", "(I)I"⟩
abbrev cX3_mode : ByteArray := prog_1_method_23_code
def yX3_mode : MethodName := ⟨RX3, "mode", "(II)I"⟩
abbrev cX3_busyFor : ByteArray := prog_1_method_24_code
def yX3_busyFor : MethodName := ⟨RX3, "busyFor", "(II)I"⟩
abbrev cX3_session : ByteArray := prog_1_method_25_code
def yX3_session : MethodName := ⟨RX3, "session", "(II)I"⟩
abbrev cX3_nameOf : ByteArray := prog_1_method_26_code
def yX3_nameOf : MethodName := ⟨RX3, "nameOf", "(II)I"⟩
abbrev cX3_nearest : ByteArray := prog_1_method_27_code
def yX3_nearest : MethodName := ⟨RX3, "nearest", "(II)I"⟩
abbrev cX3_changedSince : ByteArray := prog_1_method_28_code
def yX3_changedSince : MethodName := ⟨RX3, "changedSince", "(IIZ)I"⟩
abbrev cX3_ifUndone : ByteArray := prog_1_method_29_code
def yX3_ifUndone : MethodName := ⟨RX3, "ifUndone", "(III)I"⟩
abbrev cX3_total : ByteArray := prog_1_method_30_code
def yX3_total : MethodName := ⟨RX3, "total", "(I)I"⟩
abbrev cX3_mean : ByteArray := prog_1_method_31_code
def yX3_mean : MethodName := ⟨RX3, "mean", "()D"⟩
abbrev cX3_slotBehindHistory : ByteArray := prog_1_method_32_code
def yX3_slotBehindHistory : MethodName := ⟨RX3, "slotBehindHistory", "()I"⟩
abbrev cX3_rememberState : ByteArray := prog_1_method_33_code
def yX3_rememberState : MethodName := ⟨RX3, "rememberState", "()V"⟩
abbrev cX3_recordUnlessError : ByteArray := prog_1_method_34_code
def yX3_recordUnlessError : MethodName := ⟨RX3, "recordUnlessError", "(I)I"⟩
abbrev cX3_performOrder : ByteArray := prog_1_method_35_code
def yX3_performOrder : MethodName := ⟨RX3, "performOrder", "(I)I"⟩
abbrev cX3_isError : ByteArray := prog_1_method_36_code
def yX3_isError : MethodName := ⟨RX3, "isError", "(I)Z"⟩
abbrev cX3_isSession : ByteArray := prog_1_method_37_code
def yX3_isSession : MethodName := ⟨RX3, "isSession", "(I)Z"⟩
abbrev cX3_isKey : ByteArray := prog_1_method_38_code
def yX3_isKey : MethodName := ⟨RX3, "isKey", "(I)Z"⟩
abbrev cX3_isName : ByteArray := prog_1_method_39_code
def yX3_isName : MethodName := ⟨RX3, "isName", "(I)Z"⟩
abbrev cX3_isValue : ByteArray := prog_1_method_40_code
def yX3_isValue : MethodName := ⟨RX3, "isValue", "(I)Z"⟩
abbrev cX3_momentOf : ByteArray := prog_1_method_41_code
def yX3_momentOf : MethodName := ⟨RX3, "momentOf", "(I)I"⟩
def RX4 : String := "SavepointStoreModel"
def TX4 : u_T := fun k => match k with
  | 0 => ("SavepointStoreModel", "s", "[I", true)
  | 1 => ("SavepointStoreModel", "history", "[I", true)
  | 2 => ("SavepointStoreModel", "kept", "I", false)
  | 3 => ("SavepointStoreModel", "snapshot", "[I", true)
  | 4 => ("SavepointStoreModel", "isTaken", "Z", false)
  | 5 => ("SavepointStoreModel", "text", "[I", true)
  | 6 => ("SavepointStoreModel", "length", "I", false)
  | 7 => ("SavepointStoreModel", "now", "[I", true)
  | 8 => ("SavepointStoreModel", "place", "I", false)
  | 9 => ("SavepointStoreModel", "who", "I", false)
  | 10 => ("SavepointStoreModel", "letter", "I", false)
  | 11 => ("SavepointStoreModel", "one", "I", false)
  | 12 => ("SavepointStoreModel", "other", "I", false)
  | _ => ("SavepointStoreModel", "carriedOut", "I", false)
def tyX4 : Nat → FieldType := fun k => match k with
  | 0 => .array .int
  | 1 => .array .int
  | 2 => .int
  | 3 => .array .int
  | 4 => .boolean
  | 5 => .array .int
  | 6 => .int
  | 7 => .array .int
  | 8 => .int
  | 9 => .int
  | 10 => .int
  | 11 => .int
  | 12 => .int
  | _ => .int
theorem nmX4 : ∀ a, a < 14 → ∀ b, b < 14 → a ≠ b → (TX4 a).2.1 ≠ (TX4 b).2.1 := by decide +kernel
theorem tyX4_ok : ∀ k, k < 14 → parseFieldDescriptor (TX4 k).2.2.1 = some (tyX4 k) := by decide +kernel
abbrev cX4_init : ByteArray := prog_6_method_1_code
def yX4_init : MethodName := ⟨RX4, "<init>", "()V"⟩
abbrev cX4_in : ByteArray := prog_6_method_3_code
def yX4_in : MethodName := ⟨RX4, "in", "(III)Z"⟩
abbrev cX4_isSession : ByteArray := prog_6_method_4_code
def yX4_isSession : MethodName := ⟨RX4, "isSession", "(I)Z"⟩
abbrev cX4_isKey : ByteArray := prog_6_method_5_code
def yX4_isKey : MethodName := ⟨RX4, "isKey", "(I)Z"⟩
abbrev cX4_isName : ByteArray := prog_6_method_6_code
def yX4_isName : MethodName := ⟨RX4, "isName", "(I)Z"⟩
abbrev cX4_has : ByteArray := prog_6_method_7_code
def yX4_has : MethodName := ⟨RX4, "has", "(II)Z"⟩
abbrev cX4_bits : ByteArray := prog_6_method_8_code
def yX4_bits : MethodName := ⟨RX4, "bits", "(I)I"⟩
abbrev cX4_isOpen : ByteArray := prog_6_method_9_code
def yX4_isOpen : MethodName := ⟨RX4, "isOpen", "(I)Z"⟩
abbrev cX4_outside : ByteArray := prog_6_method_10_code
def yX4_outside : MethodName := ⟨RX4, "outside", "(I)I"⟩
abbrev cX4_at : ByteArray := prog_6_method_11_code
def yX4_at : MethodName := ⟨RX4, "at", "(II)I"⟩
abbrev cX4_record : ByteArray := prog_6_method_12_code
def yX4_record : MethodName := ⟨RX4, "record", "()V"⟩
abbrev cX4_modeOf : ByteArray := prog_6_method_13_code
def yX4_modeOf : MethodName := ⟨RX4, "modeOf", "(II)I"⟩
abbrev cX4_withMode : ByteArray := prog_6_method_14_code
def yX4_withMode : MethodName := ⟨RX4, "withMode", "(III)I"⟩
abbrev cX4_isBusy : ByteArray := prog_6_method_15_code
def yX4_isBusy : MethodName := ⟨RX4, "isBusy", "(III)Z"⟩
abbrev cX4_takes : ByteArray := prog_6_method_16_code
def yX4_takes : MethodName := ⟨RX4, "takes", "(III)Z"⟩
abbrev cX4_change : ByteArray := prog_6_method_17_code
def yX4_change : MethodName := ⟨RX4, "change", "(II)V"⟩
abbrev cX4_join : ByteArray := prog_6_method_18_code
def yX4_join : MethodName := ⟨RX4, "join", "([II[II)V"⟩
abbrev cX4_forget : ByteArray := prog_6_method_19_code
def yX4_forget : MethodName := ⟨RX4, "forget", "([II)V"⟩
abbrev cX4_since : ByteArray := prog_6_method_20_code
def yX4_since : MethodName := ⟨RX4, "since", "(III)I"⟩
abbrev cX4_before : ByteArray := prog_6_method_21_code
def yX4_before : MethodName := ⟨RX4, "before", "(III)I"⟩
abbrev cX4_modeBefore : ByteArray := prog_6_method_22_code
def yX4_modeBefore : MethodName := ⟨RX4, "modeBefore", "(III)I"⟩
abbrev cX4_others : ByteArray := prog_6_method_23_code
def yX4_others : MethodName := ⟨RX4, "others", "(II)I"⟩
abbrev cX4_goBack : ByteArray := prog_6_method_24_code
def yX4_goBack : MethodName := ⟨RX4, "goBack", "(II)V"⟩
abbrev cX4_close : ByteArray := prog_6_method_25_code
def yX4_close : MethodName := ⟨RX4, "close", "(I)V"⟩
abbrev cX4_nearestOf : ByteArray := prog_6_method_26_code
def yX4_nearestOf : MethodName := ⟨RX4, "nearestOf", "(II)I"⟩
abbrev cX4_keep : ByteArray := prog_6_method_27_code
def yX4_keep : MethodName := ⟨RX4, "keep", "(Z)I"⟩
abbrev cX4_beginError : ByteArray := prog_6_method_28_code
def yX4_beginError : MethodName := ⟨RX4, "beginError", "(I)I"⟩
abbrev cX4_openError : ByteArray := prog_6_method_29_code
def yX4_openError : MethodName := ⟨RX4, "openError", "(I)I"⟩
abbrev cX4_doBegin : ByteArray := prog_6_method_30_code
def yX4_doBegin : MethodName := ⟨RX4, "doBegin", "(I)I"⟩
abbrev cX4_doCommit : ByteArray := prog_6_method_31_code
def yX4_doCommit : MethodName := ⟨RX4, "doCommit", "(I)I"⟩
abbrev cX4_doRollback : ByteArray := prog_6_method_32_code
def yX4_doRollback : MethodName := ⟨RX4, "doRollback", "(I)I"⟩
abbrev cX4_begin : ByteArray := prog_6_method_33_code
def yX4_begin : MethodName := ⟨RX4, "begin", "(I)I"⟩
abbrev cX4_commit : ByteArray := prog_6_method_34_code
def yX4_commit : MethodName := ⟨RX4, "commit", "(I)I"⟩
abbrev cX4_rollback : ByteArray := prog_6_method_35_code
def yX4_rollback : MethodName := ⟨RX4, "rollback", "(I)I"⟩
abbrev cX4_savepointError : ByteArray := prog_6_method_36_code
def yX4_savepointError : MethodName := ⟨RX4, "savepointError", "(II)I"⟩
abbrev cX4_nameError : ByteArray := prog_6_method_37_code
def yX4_nameError : MethodName := ⟨RX4, "nameError", "(II)I"⟩
abbrev cX4_doSavepoint : ByteArray := prog_6_method_38_code
def yX4_doSavepoint : MethodName := ⟨RX4, "doSavepoint", "(II)I"⟩
abbrev cX4_doUndoTo : ByteArray := prog_6_method_39_code
def yX4_doUndoTo : MethodName := ⟨RX4, "doUndoTo", "(II)I"⟩
abbrev cX4_doRelease : ByteArray := prog_6_method_40_code
def yX4_doRelease : MethodName := ⟨RX4, "doRelease", "(II)I"⟩
abbrev cX4_savepoint : ByteArray := prog_6_method_41_code
def yX4_savepoint : MethodName := ⟨RX4, "savepoint", "(II)I"⟩
abbrev cX4_undoTo : ByteArray := prog_6_method_42_code
def yX4_undoTo : MethodName := ⟨RX4, "undoTo", "(II)I"⟩
abbrev cX4_release : ByteArray := prog_6_method_43_code
def yX4_release : MethodName := ⟨RX4, "release", "(II)I"⟩
abbrev cX4_beginStatement : ByteArray := prog_6_method_44_code
def yX4_beginStatement : MethodName := ⟨RX4, "beginStatement", "()V"⟩
abbrev cX4_endWell : ByteArray := prog_6_method_45_code
def yX4_endWell : MethodName := ⟨RX4, "endWell", "(II)I"⟩
abbrev cX4_endBadly : ByteArray := prog_6_method_46_code
def yX4_endBadly : MethodName := ⟨RX4, "endBadly", "(II)I"⟩
abbrev cX4_add : ByteArray := prog_6_method_47_code
def yX4_add : MethodName := ⟨RX4, "add", "(IIIZ)I"⟩
abbrev cX4_keyError : ByteArray := prog_6_method_48_code
def yX4_keyError : MethodName := ⟨RX4, "keyError", "(II)I"⟩
abbrev cX4_writeError : ByteArray := prog_6_method_49_code
def yX4_writeError : MethodName := ⟨RX4, "writeError", "(III)I"⟩
abbrev cX4_doRead : ByteArray := prog_6_method_50_code
def yX4_doRead : MethodName := ⟨RX4, "doRead", "(II)I"⟩
abbrev cX4_doWrite : ByteArray := prog_6_method_51_code
def yX4_doWrite : MethodName := ⟨RX4, "doWrite", "(III)I"⟩
abbrev cX4_read : ByteArray := prog_6_method_52_code
def yX4_read : MethodName := ⟨RX4, "read", "(II)I"⟩
abbrev cX4_write : ByteArray := prog_6_method_53_code
def yX4_write : MethodName := ⟨RX4, "write", "(III)I"⟩
abbrev cX4_erase : ByteArray := prog_6_method_54_code
def yX4_erase : MethodName := ⟨RX4, "erase", "(II)I"⟩
abbrev cX4_shift : ByteArray := prog_6_method_55_code
def yX4_shift : MethodName := ⟨RX4, "shift", "(III)I"⟩
abbrev cX4_move : ByteArray := prog_6_method_56_code
def yX4_move : MethodName := ⟨RX4, "move", "(IIII)I"⟩
abbrev cX4_append : ByteArray := prog_6_method_57_code
def yX4_append : MethodName := ⟨RX4, "append", "(I)I"⟩
abbrev cX4_clearText : ByteArray := prog_6_method_58_code
def yX4_clearText : MethodName := ⟨RX4, "clearText", "()I"⟩
abbrev cX4_isNext : ByteArray := prog_6_method_59_code
def yX4_isNext : MethodName := ⟨RX4, "isNext", "(II)Z"⟩
abbrev cX4_passes : ByteArray := prog_6_method_60_code
def yX4_passes : MethodName := ⟨RX4, "passes", "(I)Z"⟩
abbrev cX4_readNumber : ByteArray := prog_6_method_61_code
def yX4_readNumber : MethodName := ⟨RX4, "readNumber", "(I)I"⟩
abbrev cX4_readName : ByteArray := prog_6_method_62_code
def yX4_readName : MethodName := ⟨RX4, "readName", "()Z"⟩
abbrev cX4_readKey : ByteArray := prog_6_method_63_code
def yX4_readKey : MethodName := ⟨RX4, "readKey", "()Z"⟩
abbrev cX4_readOrder : ByteArray := prog_6_method_64_code
def yX4_readOrder : MethodName := ⟨RX4, "readOrder", "()Z"⟩
abbrev cX4_errorOfOrder : ByteArray := prog_6_method_65_code
def yX4_errorOfOrder : MethodName := ⟨RX4, "errorOfOrder", "()I"⟩
abbrev cX4_carryOut : ByteArray := prog_6_method_66_code
def yX4_carryOut : MethodName := ⟨RX4, "carryOut", "()I"⟩
abbrev cX4_readText : ByteArray := prog_6_method_67_code
def yX4_readText : MethodName := ⟨RX4, "readText", "(Z)Z"⟩
abbrev cX4_fault : ByteArray := prog_6_method_68_code
def yX4_fault : MethodName := ⟨RX4, "fault", "()I"⟩
abbrev cX4_perform : ByteArray := prog_6_method_69_code
def yX4_perform : MethodName := ⟨RX4, "perform", "()I"⟩
abbrev cX4_valued : ByteArray := prog_6_method_70_code
def yX4_valued : MethodName := ⟨RX4, "valued", "()I"⟩
abbrev cX4_undo : ByteArray := prog_6_method_71_code
def yX4_undo : MethodName := ⟨RX4, "undo", "()I"⟩
abbrev cX4_save : ByteArray := prog_6_method_72_code
def yX4_save : MethodName := ⟨RX4, "save", "()I"⟩
abbrev cX4_restore : ByteArray := prog_6_method_73_code
def yX4_restore : MethodName := ⟨RX4, "restore", "()I"⟩
abbrev cX4_value : ByteArray := prog_6_method_74_code
def yX4_value : MethodName := ⟨RX4, "value", "(I)I"⟩
abbrev cX4_committed : ByteArray := prog_6_method_75_code
def yX4_committed : MethodName := ⟨RX4, "committed", "(I)I"⟩
abbrev cX4_mode : ByteArray := prog_6_method_76_code
def yX4_mode : MethodName := ⟨RX4, "mode", "(II)I"⟩
abbrev cX4_busyFor : ByteArray := prog_6_method_77_code
def yX4_busyFor : MethodName := ⟨RX4, "busyFor", "(II)I"⟩
abbrev cX4_keysWith : ByteArray := prog_6_method_78_code
def yX4_keysWith : MethodName := ⟨RX4, "keysWith", "(II)I"⟩
abbrev cX4_session : ByteArray := prog_6_method_79_code
def yX4_session : MethodName := ⟨RX4, "session", "(II)I"⟩
abbrev cX4_isSavepoint : ByteArray := prog_6_method_80_code
def yX4_isSavepoint : MethodName := ⟨RX4, "isSavepoint", "(II)Z"⟩
abbrev cX4_nameOf : ByteArray := prog_6_method_81_code
def yX4_nameOf : MethodName := ⟨RX4, "nameOf", "(II)I"⟩
abbrev cX4_nearest : ByteArray := prog_6_method_82_code
def yX4_nearest : MethodName := ⟨RX4, "nearest", "(II)I"⟩
abbrev cX4_changedSince : ByteArray := prog_6_method_83_code
def yX4_changedSince : MethodName := ⟨RX4, "changedSince", "(IIZ)I"⟩
abbrev cX4_ifUndone : ByteArray := prog_6_method_84_code
def yX4_ifUndone : MethodName := ⟨RX4, "ifUndone", "(III)I"⟩
abbrev cX4_total : ByteArray := prog_6_method_85_code
def yX4_total : MethodName := ⟨RX4, "total", "(I)I"⟩
abbrev cX4_mean : ByteArray := prog_6_method_86_code
def yX4_mean : MethodName := ⟨RX4, "mean", "()D"⟩
def RJ6 : String := "java/lang/Integer"
abbrev cJ6_bitCount_0f7a4 : ByteArray := prog_7_method_49_code
def yJ6_bitCount_0f7a4 : MethodName := ⟨RJ6, "bitCount", "(I)I"⟩
def RJ9 : String := "java/lang/Math"
abbrev cJ9_max_7cf53 : ByteArray := prog_8_method_65_code
def yJ9_max_7cf53 : MethodName := ⟨RJ9, "max", "(II)I"⟩
abbrev cJ9_min_7cf53 : ByteArray := prog_8_method_69_code
def yJ9_min_7cf53 : MethodName := ⟨RJ9, "min", "(II)I"⟩
def RJ10 : String := "java/lang/System"
def RL : String := "SavepointStoreLaw"
abbrev cL_law : ByteArray := code
def yL_law : MethodName := ⟨RL, "law", "([I)Z"⟩
abbrev vwCl : List vw_C := [(RX0, TX0, 2), (RX1, TX1, 4), (RX2, TX2, 6), (RX3, TX3, 7), (RX4, TX4, 14)]
/-- the words of the tables that any method may hand on to those that it calls -/
def lw_g : List Cond := lw_tbl.filter goodWord
theorem lw_g_in {w : Cond} (h : w ∈ lw_g) : w ∈ lw_tbl := (List.mem_filter.mp h).1
theorem lw_g_of {w : Cond} (h : w ∈ lw_tbl) (g : goodWord w = true) : w ∈ lw_g := List.mem_filter.mpr ⟨h, g⟩
theorem inX0 : ∀ w ∈ u_ws RX0 TX0 2, w ∈ lw_g := by decide +kernel
theorem inX1 : ∀ w ∈ u_ws RX1 TX1 4, w ∈ lw_g := by decide +kernel
theorem inX2 : ∀ w ∈ u_ws RX2 TX2 6, w ∈ lw_g := by decide +kernel
theorem inX3 : ∀ w ∈ u_ws RX3 TX3 7, w ∈ lw_g := by decide +kernel
theorem inX4 : ∀ w ∈ u_ws RX4 TX4 14, w ∈ lw_g := by decide +kernel
end
section
/-! The facade: one memory of ints for all objects of the system (their graph never changes), one judgement sw_W for a walk over it, one form sv_Ct for a method's contract. -/
/-- launch, the first object's address, the classes' numbers and slots, the classes of the arrays of int, char, Transaction, State -/
abbrev sv_G : Type := Launch × Nat × va_G × ClassId × ClassId × ClassId × ClassId
/-- which State (8: the store, 9: the reference), kind of object, which transaction, place -/
abbrev sv_Mem : Type := Nat → Nat → Nat → Nat → Int32
def sv_sb (i : Nat) : Nat := if i < 2 then 1 + 19 * i else 2 + 19 * i
def sv_off (k i j : Nat) : Nat := match k with
  | 0 => 0
  | 1 => 39
  | 2 => 154
  | 3 => 155
  | 4 => 156
  | 5 => 157
  | 6 => 158
  | 7 => 159
  | 8 => 160
  | 9 => 161
  | 10 => sv_sb i
  | 11 => sv_sb i + 1
  | 12 => sv_sb i + 2
  | 13 => sv_sb i + 3
  | 14 => sv_sb i + 4 + 5 * j
  | 15 => sv_sb i + 5 + 5 * j
  | 16 => sv_sb i + 6 + 5 * j
  | 17 => sv_sb i + 7 + 5 * j
  | _ => sv_sb i + 8 + 5 * j
abbrev sv_V (k i j : Nat) : Prop := (k < 4 ∧ i = 8 ∧ j = 0) ∨ (4 ≤ k ∧ k < 10 ∧ i = 9 ∧ j = 0) ∨ (10 ≤ k ∧ k < 14 ∧ i < 8 ∧ j = 0) ∨ (14 ≤ k ∧ k < 19 ∧ i < 8 ∧ j < 3)
def sv_decS (i r : Nat) : Nat × Nat × Nat := if r < 4 then (10 + r, i, 0) else (14 + (r - 4) % 5, i, (r - 4) / 5)
def sv_dec (o : Nat) : Nat × Nat × Nat := if o = 0 then (0, 8, 0) else if o < 39 then sv_decS ((o - 1) / 19) ((o - 1) % 19) else if o = 39 then (1, 8, 0) else if o < 154 then sv_decS (2 + (o - 40) / 19) ((o - 40) % 19) else if o < 156 then (o - 152, 8, 0) else (o - 152, 9, 0)
def sv_ad (G : sv_G) (k i j : Nat) : Nat := G.2.1 + sv_off k i j
abbrev sv_cI (G : sv_G) : ClassId := G.2.2.2.1
abbrev sv_cC (G : sv_G) : ClassId := G.2.2.2.2.1
abbrev sv_cT (G : sv_G) : ClassId := G.2.2.2.2.2.1
abbrev sv_cS (G : sv_G) : ClassId := G.2.2.2.2.2.2
def sv_ent (G : sv_G) (M : sv_Mem) (k i j : Nat) : va_E := match k with
  | 0 => .inr (3, [.ref (sv_ad G 10 0 0), .ref (sv_ad G 10 1 0), .int (M i 0 j 2), .ref (sv_ad G 1 8 0), .int (M i 0 j 4), .int (M i 0 j 5), .ref (sv_ad G 2 8 0)])
  | 1 => .inl (sv_cS G, 6, .inr (.inr (.inr (.inr (fun q => some (sv_ad G 10 (q + 2) 0))))))
  | 2 => .inr (0, [.ref (sv_ad G 3 8 0), .int (M i 2 j 1)])
  | 3 => .inl (sv_cC G, 80, .inl (M i 3 j))
  | 4 => .inr (4, [.ref (sv_ad G 5 9 0), .ref (sv_ad G 6 9 0), .int (M i 4 j 2), .ref (sv_ad G 7 9 0), .int (M i 4 j 4), .ref (sv_ad G 8 9 0), .int (M i 4 j 6), .ref (sv_ad G 9 9 0), .int (M i 4 j 8), .int (M i 4 j 9), .int (M i 4 j 10), .int (M i 4 j 11), .int (M i 4 j 12), .int (M i 4 j 13)])
  | 5 => .inl (sv_cI G, 810, .inl (M i 5 j))
  | 6 => .inl (sv_cI G, 4050, .inl (M i 6 j))
  | 7 => .inl (sv_cI G, 810, .inl (M i 7 j))
  | 8 => .inl (sv_cI G, 80, .inl (M i 8 j))
  | 9 => .inl (sv_cI G, 19, .inl (M i 9 j))
  | 10 => .inr (1, [.int (M i 10 j 0), .ref (sv_ad G 11 i 0), .ref (sv_ad G 12 i 0), .ref (sv_ad G 13 i 0)])
  | 11 => .inl (sv_cI G, 16, .inl (M i 11 j))
  | 12 => .inl (sv_cT G, 3, .inr (.inr (.inr (.inr (fun q => some (sv_ad G 14 i q))))))
  | 13 => .inl (sv_cI G, 7, .inl (M i 13 j))
  | 14 => .inr (2, [.int (M i 14 j 0), .int (M i 14 j 1), .ref (sv_ad G 15 i j), .ref (sv_ad G 16 i j), .ref (sv_ad G 17 i j), .ref (sv_ad G 18 i j)])
  | 15 => .inl (sv_cI G, 14, .inl (M i 15 j))
  | 16 => .inl (sv_cI G, 12, .inl (M i 16 j))
  | 17 => .inl (sv_cI G, 14, .inl (M i 17 j))
  | _ => .inl (sv_cI G, 224, .inl (M i 18 j))
def sv_cells (G : sv_G) (M : sv_Mem) : va_W := (List.range 162).map (fun o => (G.2.1 + o, sv_ent G M (sv_dec o).1 (sv_dec o).2.1 (sv_dec o).2.2))
theorem sv_off_fin : (List.range 19).all (fun k => (List.range 10).all (fun i => (List.range 3).all (fun j => decide (sv_V k i j → sv_off k i j < 162 ∧ sv_dec (sv_off k i j) = (k, i, j))))) = true := by decide +kernel
theorem sv_dec_all : (List.range 162).all (fun o => decide (sv_V (sv_dec o).1 (sv_dec o).2.1 (sv_dec o).2.2 ∧ sv_off (sv_dec o).1 (sv_dec o).2.1 (sv_dec o).2.2 = o)) = true := by decide +kernel
theorem sv_dec_fin (o : Nat) (h : o < 162) : sv_V (sv_dec o).1 (sv_dec o).2.1 (sv_dec o).2.2 ∧ sv_off (sv_dec o).1 (sv_dec o).2.1 (sv_dec o).2.2 = o := of_decide_eq_true (List.all_eq_true.mp sv_dec_all o (List.mem_range.mpr h))
theorem sv_off_at {k i j : Nat} (h : sv_V k i j) : sv_off k i j < 162 ∧ sv_dec (sv_off k i j) = (k, i, j) := of_decide_eq_true (List.all_eq_true.mp (List.all_eq_true.mp (List.all_eq_true.mp sv_off_fin k (List.mem_range.mpr (by omega))) i (List.mem_range.mpr (by omega))) j (List.mem_range.mpr (by omega))) h
theorem sv_cells_at {G : sv_G} {M : sv_Mem} {k i j : Nat} (h : sv_V k i j) : (sv_cells G M)[sv_off k i j]? = some (sv_ad G k i j, sv_ent G M k i j) := by
  obtain ⟨h1, h2⟩ := sv_off_at h
  unfold sv_cells
  rw [List.getElem?_map, List.getElem?_range h1]
  simp [h2, sv_ad]
theorem sv_ent_congr {G : sv_G} {M M' : sv_Mem} {k i j : Nat} (h : M i k j = M' i k j) (hv : sv_V k i j) : sv_ent G M k i j = sv_ent G M' k i j := by
  have hk : k < 19 := by omega
  clear hv
  match k, hk with
  | 0, _ => simp [sv_ent, h]
  | 1, _ => simp [sv_ent]
  | 2, _ => simp [sv_ent, h]
  | 3, _ => simp [sv_ent, h]
  | 4, _ => simp [sv_ent, h]
  | 5, _ => simp [sv_ent, h]
  | 6, _ => simp [sv_ent, h]
  | 7, _ => simp [sv_ent, h]
  | 8, _ => simp [sv_ent, h]
  | 9, _ => simp [sv_ent, h]
  | 10, _ => simp [sv_ent, h]
  | 11, _ => simp [sv_ent, h]
  | 12, _ => simp [sv_ent]
  | 13, _ => simp [sv_ent, h]
  | 14, _ => simp [sv_ent, h]
  | 15, _ => simp [sv_ent, h]
  | 16, _ => simp [sv_ent, h]
  | 17, _ => simp [sv_ent, h]
  | 18, _ => simp [sv_ent, h]
  | k + 19, hk => exact absurd hk (by omega)
theorem sv_cells_len (G : sv_G) (M : sv_Mem) : (sv_cells G M).length = 162 := by simp [sv_cells]
theorem sv_cells_get (G : sv_G) (M : sv_Mem) {o : Nat} (h : o < 162) : (sv_cells G M)[o]? = some (G.2.1 + o, sv_ent G M (sv_dec o).1 (sv_dec o).2.1 (sv_dec o).2.2) := by
  unfold sv_cells
  rw [List.getElem?_map, List.getElem?_range h]
  rfl
/-- one object's ints change: the others' rows stay -/
theorem sv_cells_set {G : sv_G} {M M' : sv_Mem} {k i j : Nat} (h : sv_V k i j) (hm : ∀ k' i' j', ¬ (k' = k ∧ i' = i ∧ j' = j) → M' i' k' j' = M i' k' j') : (sv_cells G M).set (sv_off k i j) (sv_ad G k i j, sv_ent G M' k i j) = sv_cells G M' := by
  obtain ⟨h1, h2⟩ := sv_off_at h
  apply List.ext_getElem?
  intro o
  by_cases ho : o < 162
  · by_cases hq : o = sv_off k i j
    · subst hq
      rw [List.getElem?_set_self (by rw [sv_cells_len]; exact h1), sv_cells_at h]
    · rw [List.getElem?_set_ne (fun z => hq z.symm), sv_cells_get G M ho, sv_cells_get G M' ho]
      obtain ⟨g1, g2⟩ := sv_dec_fin o ho
      rw [sv_ent_congr (M := M) (M' := M') (hm _ _ _ (fun z => hq ?_)).symm g1]
      obtain ⟨z1, z2, z3⟩ := z
      rw [z1, z2, z3] at g2
      exact g2.symm
  · rw [List.getElem?_eq_none (by rw [List.length_set, sv_cells_len]; omega), List.getElem?_eq_none (by rw [sv_cells_len]; omega)]
theorem sv_cells_D {G : sv_G} {M : sv_Mem} {A : Nat → Prop} (hA : ∀ q, G.2.1 ≤ q → A q) : va_D A (sv_cells G M) := by
  have key : ∀ (o : Nat) (q : Nat × va_E), (sv_cells G M)[o]? = some q → q.1 = G.2.1 + o := by
    intro o q hq
    have ho : o < 162 := by have := (List.getElem?_eq_some_iff.mp hq).1; rw [sv_cells_len] at this; exact this
    rw [sv_cells_get G M ho] at hq
    cases hq
    rfl
  refine ⟨fun a b p q hp hq hpq => ?_, fun a q hq => ?_⟩
  · have h1 := key a p hp
    have h2 := key b q hq
    omega
  · rw [key a q hq]
    exact hA _ (by omega)
/-- a memory with one int changed -/
def sv_up (M : sv_Mem) (i k j n : Nat) (v : Int32) : sv_Mem := va_up M i (va_up (M i) k (va_up (M i k) j (va_up (M i k j) n v)))
theorem sv_up_at (M : sv_Mem) (i k j n : Nat) (v : Int32) : sv_up M i k j n v i k j = va_up (M i k j) n v := by
  unfold sv_up
  rw [va_up_self, va_up_self, va_up_self]
theorem sv_up_ne (M : sv_Mem) (i k j n : Nat) (v : Int32) : ∀ k' i' j', ¬ (k' = k ∧ i' = i ∧ j' = j) → sv_up M i k j n v i' k' j' = M i' k' j' := by
  intro k' i' j' h
  unfold sv_up
  by_cases hi : i' = i
  · subst hi
    rw [va_up_self]
    by_cases hk : k' = k
    · subst hk
      rw [va_up_self]
      exact va_up_ne _ _ (fun z => h ⟨rfl, rfl, z⟩)
    · rw [va_up_ne _ _ hk]
  · rw [va_up_ne _ _ hi]
/-- the array at a role gets another row of ints -/
def sv_upA (M : sv_Mem) (i k j : Nat) (f : Nat → Int32) : sv_Mem := va_up M i (va_up (M i) k (va_up (M i k) j f))
theorem sv_upA_at (M : sv_Mem) (i k j : Nat) (f : Nat → Int32) : sv_upA M i k j f i k j = f := by
  unfold sv_upA
  rw [va_up_self, va_up_self, va_up_self]
theorem sv_upA_ne (M : sv_Mem) (i k j : Nat) (f : Nat → Int32) : ∀ k' i' j', ¬ (k' = k ∧ i' = i ∧ j' = j) → sv_upA M i k j f i' k' j' = M i' k' j' := by
  intro k' i' j' h
  unfold sv_upA
  by_cases hi : i' = i
  · subst hi
    rw [va_up_self]
    by_cases hk : k' = k
    · subst hk
      rw [va_up_self]
      exact va_up_ne _ _ (fun z => h ⟨rfl, rfl, z⟩)
    · rw [va_up_ne _ _ hk]
  · rw [va_up_ne _ _ hi]
theorem sv_upA_up (M : sv_Mem) (i k j n : Nat) (v : Int32) : sv_upA M i k j (va_up (M i k j) n v) = sv_up M i k j n v := rfl
abbrev sv_tys (G : sv_G) : List (ClassId × FieldType) := [(sv_cI G, .int), (sv_cC G, .char), (sv_cT G, .object "SavepointStore$Transaction"), (sv_cS G, .object "SavepointStore$State")]
/-- what a walk stands on: program, environment, room, start, method .., heap at the start, cells that may change, cells and slots made, the end -/
abbrev sv_K : Type := Program × Env × Room × State × MethodId × Array Value × List Frame × Method × Code × Heap × (Nat → Prop) × Nat × Nat × (State → Prop)
abbrev kp (K : sv_K) : Program := K.1
abbrev ke (K : sv_K) : Env := K.2.1
abbrev kR (K : sv_K) : Room := K.2.2.1
abbrev ks (K : sv_K) : State := K.2.2.2.1
abbrev km (K : sv_K) : MethodId := K.2.2.2.2.1
abbrev kargs (K : sv_K) : Array Value := K.2.2.2.2.2.1
abbrev kbelow (K : sv_K) : List Frame := K.2.2.2.2.2.2.1
abbrev kmeth (K : sv_K) : Method := K.2.2.2.2.2.2.2.1
abbrev kc (K : sv_K) : Code := K.2.2.2.2.2.2.2.2.1
abbrev kH (K : sv_K) : Heap := K.2.2.2.2.2.2.2.2.2.1
abbrev kA (K : sv_K) : Nat → Prop := K.2.2.2.2.2.2.2.2.2.2.1
abbrev kcells (K : sv_K) : Nat := K.2.2.2.2.2.2.2.2.2.2.2.1
abbrev kslots (K : sv_K) : Nat := K.2.2.2.2.2.2.2.2.2.2.2.2.1
abbrev kQ (K : sv_K) : State → Prop := K.2.2.2.2.2.2.2.2.2.2.2.2.2
/-- the locals: those that are known -/
def sv_L (ls : Array Slot) (nL : Nat) (lo : List (Option Value)) : Prop := ls.size = nL ∧ lv_wf ls ∧ lo.length = nL ∧ ∀ (i : Nat) (v : Value), lo[i]? = some (some v) → ls[i]? = some (.val v)
def sw_W (G : sv_G) (K : sv_K) (nL : Nat) (pc : Nat) (lo : List (Option Value)) (st : List Value) (M : sv_Mem) : Prop :=
  ∀ (H : Heap) (locs : List Loc) (ls : Array Slot), va_P G.2.2.1 vwCl (sv_cells G M) H → va_S (kA K) (kH K) H locs → sv_L ls nL lo →
    W (kp K) G.1 (ke K) (kR K) (ks K) (km K) (kargs K) (kbelow K) (kmeth K) (kc K) H locs (kcells K) (kslots K) (kQ K) (F0 (km K) pc ls st)
def sv_X (G : sv_G) (K : sv_K) (cc : ByteArray) (own : String) (nL d : Nat) : Prop :=
  (kp K).tables.exec = Jvm.exec ∧ (kc K).code = cc ∧ (kc K).maxLocals = nL ∧ (ks K).vm.findClass own = some (km K).cls ∧ (∀ w ∈ lw_g, w.before (kargs K) (ks K) = true) ∧ va_K G.2.2.1 vwCl (sv_tys G) (ks K) ∧ (∀ q, G.2.1 ≤ q → kA K q) ∧ d ≤ (kR K).frames ∧ 36 * d ≤ (kR K).locals ∧ kcells K ≤ (kR K).cells ∧ kslots K ≤ (kR K).slots
/-- a method: name, code, locals, type -/
abbrev sv_M : Type := MethodName × ByteArray × Nat × Option FieldType
def sv_ws (m : sv_M) : List Cond := .code m.1 m.2.1 m.2.2.1 m.2.2.2 :: lw_g
def sv_room (d : Nat) : Room := { frames := d, cells := 0, slots := 0, locals := 36 * d }
def sv_Qc (G : sv_G) (ret : Option Value) (M' : sv_Mem) : Array Value → State → Outcome → State → Prop := fun _ st oc t => oc = .returned ret ∧ va_P G.2.2.1 vwCl (sv_cells G M') t.heap ∧ va_F (fun q => G.2.1 ≤ q) st t
def sv_Pc (G : sv_G) (args : List Value) (M : sv_Mem) : Array Value → State → Prop := va_Pc args (fun U => va_P G.2.2.1 vwCl (sv_cells G M) U.heap ∧ va_K G.2.2.1 vwCl (sv_tys G) U)
/-- a method's contract: of these arguments over this memory it answers ret and leaves that memory; it makes nothing -/
def sv_Ct (G : sv_G) (m : sv_M) (d : Nat) (args : List Value) (M : sv_Mem) (ret : Option Value) (M' : sv_Mem) : Prop :=
  Met G.1 m.1 (sv_ws m) (sv_room d) (sv_Pc G args M) (sv_Qc G ret M') 0 0 (fun q => G.2.1 ≤ q)
/-- a walk that is a method's, with its answer and its memory at the end -/
def sv_Y (G : sv_G) (K : sv_K) (rt : Option FieldType) (ret : Option Value) (M' : sv_Mem) : Prop :=
  kQ K = MQ (kbelow K) (sv_Qc G ret M') (kargs K) (ks K) (kcells K) (kslots K) (fun q => G.2.1 ≤ q) ∧ (kmeth K).sig.returnType = rt ∧ (kmeth K).locks = false ∧ kH K = (ks K).heap ∧ kA K = (fun q => G.2.1 ≤ q)
end
section
/-- a Prop as Java's boolean -/
def bI (b : Prop) [Decidable b] : Int32 := if b then nI 1 else nI 0
theorem bI_eq0 {b : Prop} [Decidable b] : bI b = 0 ↔ ¬ b := by
  unfold bI
  split <;> rename_i h
  · exact ⟨fun e => absurd e (by decide), fun e => absurd h e⟩
  · exact ⟨fun _ => h, fun _ => rfl⟩
theorem bI_ne0 {b : Prop} [Decidable b] : ¬ bI b = 0 ↔ b := by rw [bI_eq0]; exact Decidable.not_not
theorem bI_t {b : Prop} [Decidable b] (h : b) : bI b = nI 1 := if_pos h
theorem bI_f {b : Prop} [Decidable b] (h : ¬ b) : bI b = nI 0 := if_neg h
theorem bI_congr {a b : Prop} [Decidable a] [Decidable b] (h : a ↔ b) : bI a = bI b := by unfold bI; simp [h]
def sv_ushr (x y : Int32) : Int32 := (x.toUInt32 >>> (y.toUInt32 &&& Int32.toUInt32 31)).toInt32
/-- of one slot, or not known -/
def sv_c1 : Option Value → Prop
  | some (.double _) => False
  | some (.long _) => False
  | _ => True
theorem sv_X_own {G : sv_G} {K : sv_K} {cc : ByteArray} {own : String} {nL d : Nat} (X : sv_X G K cc own nL d) : (ks K).vm.findClass own = some (km K).cls := X.2.2.2.1
theorem sv_X_word {G : sv_G} {K : sv_K} {cc : ByteArray} {own : String} {nL d : Nat} (X : sv_X G K cc own nL d) {w : Cond} (h : w ∈ lw_g) : w.before (kargs K) (ks K) = true := X.2.2.2.2.1 w h
theorem sv_X_K {G : sv_G} {K : sv_K} {cc : ByteArray} {own : String} {nL d : Nat} (X : sv_X G K cc own nL d) : va_K G.2.2.1 vwCl (sv_tys G) (ks K) := X.2.2.2.2.2.1
theorem sv_X_A {G : sv_G} {K : sv_K} {cc : ByteArray} {own : String} {nL d : Nat} (X : sv_X G K cc own nL d) : ∀ q, G.2.1 ≤ q → kA K q := X.2.2.2.2.2.2.1
theorem sv_X_R {G : sv_G} {K : sv_K} {cc : ByteArray} {own : String} {nL d : Nat} (X : sv_X G K cc own nL d) : d ≤ (kR K).frames ∧ 36 * d ≤ (kR K).locals ∧ kcells K ≤ (kR K).cells ∧ kslots K ≤ (kR K).slots := X.2.2.2.2.2.2.2
/-- the known locals as the kit's list -/
def sv_lst (lo : List (Option Value)) : List (Nat × Value) := (List.range lo.length).filterMap (fun i => match lo[i]? with
  | some (some v) => some (i, v)
  | _ => none)
theorem sv_lst_mem {lo : List (Option Value)} {q : Nat × Value} : q ∈ sv_lst lo ↔ lo[q.1]? = some (some q.2) := by
  unfold sv_lst
  rw [List.mem_filterMap]
  constructor
  · rintro ⟨i, hi, h⟩
    split at h
    · rename_i v hv
      cases h
      exact hv
    · cases h
  · intro h
    refine ⟨q.1, List.mem_range.mpr (List.getElem?_eq_some_iff.mp h).1, ?_⟩
    rw [h]
theorem sv_L_has {ls : Array Slot} {nL : Nat} {lo : List (Option Value)} (h : sv_L ls nL lo) : lv_has ls nL (sv_lst lo) := ⟨h.1, h.2.1, fun q hq => h.2.2.2 q.1 q.2 (sv_lst_mem.mp hq)⟩
theorem sv_L_lt {ls : Array Slot} {nL : Nat} {lo : List (Option Value)} (h : sv_L ls nL lo) {i : Nat} (hi : i < lo.length) : i < nL := by rw [← h.2.2.1]; exact hi
theorem sv_L_place {ls : Array Slot} {nL : Nat} {lo : List (Option Value)} (h : sv_L ls nL lo) {i : Nat} {v : Value} (hi : lo[i]? = some (some v)) : ∃ q : Nat, (sv_lst lo)[q]? = some (i, v) := by
  have := sv_lst_mem (lo := lo) (q := (i, v)) |>.mpr hi
  exact List.getElem?_of_mem this
theorem sv_L_set {ls ls2 : Array Slot} {nL : Nat} {lo lo2 : List (Option Value)} {w : Value} (h : sv_L ls nL lo) {i : Nat}
    (h2 : lv_has ls2 nL ((i, w) :: (sv_lst lo).filter (fun q => !(q.1 == i) && !(q.1 + 1 == i && q.2.category == 2)))) (hi : i < lo.length) (he : lo.set i (some w) = lo2)
    (hc : ∀ (k : Nat) (v : Value), lo[k]? = some (some v) → v.category = 2 → k + 1 = i → False) : sv_L ls2 nL lo2 := by
  subst he
  refine ⟨h2.1, h2.2.1, by rw [List.length_set]; exact h.2.2.1, fun k v hk => ?_⟩
  by_cases hki : k = i
  · subst hki
    rw [List.getElem?_set_self hi] at hk
    cases hk
    exact h2.2.2 (k, w) List.mem_cons_self
  · rw [List.getElem?_set_ne (fun z => hki z.symm)] at hk
    refine h2.2.2 (k, v) (List.mem_cons_of_mem _ (List.mem_filter.mpr ⟨sv_lst_mem.mpr hk, ?_⟩))
    simp only [Bool.and_eq_true, Bool.not_eq_true', beq_eq_false_iff_ne, ne_eq, Bool.and_eq_false_iff]
    refine ⟨hki, ?_⟩
    by_cases hq : k + 1 = i
    · exact Or.inr (fun z => hc k v hk z hq)
    · exact Or.inl hq
theorem sv_L_drop {ls : Array Slot} {nL : Nat} {lo lo2 : List (Option Value)} (h : sv_L ls nL lo) (i : Nat) (he : lo.set i none = lo2) : sv_L ls nL lo2 := by
  subst he
  refine ⟨h.1, h.2.1, by rw [List.length_set]; exact h.2.2.1, fun k v hk => ?_⟩
  by_cases hki : k = i
  · subst hki
    by_cases hl : k < lo.length
    · rw [List.getElem?_set_self hl] at hk
      cases hk
    · rw [List.getElem?_eq_none (by rw [List.length_set]; omega)] at hk
      cases hk
  · rw [List.getElem?_set_ne (fun z => hki z.symm)] at hk
    exact h.2.2.2 k v hk
theorem sv_c1_no {lo : List (Option Value)} {k0 : Nat} {w : Option Value} (hw : lo[k0]? = some w) (h : sv_c1 w) : ∀ (k : Nat) (v : Value), lo[k]? = some (some v) → v.category = 2 → k + 1 = k0 + 1 → False := by
  intro k v hv hc hk
  have e : k = k0 := by omega
  subst e
  rw [hw] at hv
  cases hv
  cases v <;> first | exact h | (simp [Value.category] at hc)

section SWP
variable {G : sv_G} {K : sv_K} {cc : ByteArray} {own : String} {nL d : Nat} {M : sv_Mem} {pc : Nat} {lo : List (Option Value)} {rest : List Value}
theorem sw_iadd (X : sv_X G K cc own nL d) {x y : Int32} (hd : decode cc pc = .ok (.iadd, 1)) (k : sw_W G K nL (pc + 1) lo (.int (x + y) :: rest) M) : sw_W G K nL pc lo (.int y :: .int x :: rest) M := fun H locs ls hP hS hL => lv_iadd X.1 X.2.1 hd (k H locs ls hP hS hL)
theorem sw_isub (X : sv_X G K cc own nL d) {x y : Int32} (hd : decode cc pc = .ok (.isub, 1)) (k : sw_W G K nL (pc + 1) lo (.int (x - y) :: rest) M) : sw_W G K nL pc lo (.int y :: .int x :: rest) M := fun H locs ls hP hS hL => lv_isub X.1 X.2.1 hd (k H locs ls hP hS hL)
theorem sw_imul (X : sv_X G K cc own nL d) {x y : Int32} (hd : decode cc pc = .ok (.imul, 1)) (k : sw_W G K nL (pc + 1) lo (.int (x * y) :: rest) M) : sw_W G K nL pc lo (.int y :: .int x :: rest) M := fun H locs ls hP hS hL => lv_imul X.1 X.2.1 hd (k H locs ls hP hS hL)
theorem sw_iand (X : sv_X G K cc own nL d) {x y : Int32} (hd : decode cc pc = .ok (.iand, 1)) (k : sw_W G K nL (pc + 1) lo (.int (x &&& y) :: rest) M) : sw_W G K nL pc lo (.int y :: .int x :: rest) M := fun H locs ls hP hS hL => lv_iand X.1 X.2.1 hd (k H locs ls hP hS hL)
theorem sw_ior (X : sv_X G K cc own nL d) {x y : Int32} (hd : decode cc pc = .ok (.ior, 1)) (k : sw_W G K nL (pc + 1) lo (.int (x ||| y) :: rest) M) : sw_W G K nL pc lo (.int y :: .int x :: rest) M := fun H locs ls hP hS hL => lv_ior X.1 X.2.1 hd (k H locs ls hP hS hL)
theorem sw_ixor (X : sv_X G K cc own nL d) {x y : Int32} (hd : decode cc pc = .ok (.ixor, 1)) (k : sw_W G K nL (pc + 1) lo (.int (x ^^^ y) :: rest) M) : sw_W G K nL pc lo (.int y :: .int x :: rest) M := fun H locs ls hP hS hL => lv_ixor X.1 X.2.1 hd (k H locs ls hP hS hL)
theorem sw_ishl (X : sv_X G K cc own nL d) {x y : Int32} (hd : decode cc pc = .ok (.ishl, 1)) (k : sw_W G K nL (pc + 1) lo (.int (x <<< (y &&& 31)) :: rest) M) : sw_W G K nL pc lo (.int y :: .int x :: rest) M := fun H locs ls hP hS hL => lv_ishl X.1 X.2.1 hd (k H locs ls hP hS hL)
theorem sw_ishr (X : sv_X G K cc own nL d) {x y : Int32} (hd : decode cc pc = .ok (.ishr, 1)) (k : sw_W G K nL (pc + 1) lo (.int (x >>> (y &&& 31)) :: rest) M) : sw_W G K nL pc lo (.int y :: .int x :: rest) M := fun H locs ls hP hS hL => lv_ishr X.1 X.2.1 hd (k H locs ls hP hS hL)
theorem sw_iushr (X : sv_X G K cc own nL d) {x y : Int32} (hd : decode cc pc = .ok (.iushr, 1)) (k : sw_W G K nL (pc + 1) lo (.int (sv_ushr x y) :: rest) M) : sw_W G K nL pc lo (.int y :: .int x :: rest) M := fun H locs ls hP hS hL => lv_iushr X.1 X.2.1 hd rfl (k H locs ls hP hS hL)
theorem sw_irem (X : sv_X G K cc own nL d) {x y : Int32} (hne : ¬ y = 0) (hd : decode cc pc = .ok (.irem, 1)) (k : sw_W G K nL (pc + 1) lo (.int (x - x / y * y) :: rest) M) : sw_W G K nL pc lo (.int y :: .int x :: rest) M := fun H locs ls hP hS hL => lv_irem X.1 X.2.1 hd hne (k H locs ls hP hS hL)
theorem sw_ineg (X : sv_X G K cc own nL d) {x : Int32} (hd : decode cc pc = .ok (.ineg, 1)) (k : sw_W G K nL (pc + 1) lo (.int (-x) :: rest) M) : sw_W G K nL pc lo (.int x :: rest) M := fun H locs ls hP hS hL => lv_ineg X.1 X.2.1 hd (k H locs ls hP hS hL)
theorem sw_i2c (X : sv_X G K cc own nL d) {x v : Int32} (hd : decode cc pc = .ok (.i2c, 1)) (hv : (x.toUInt32 % 65536).toInt32 = v) (k : sw_W G K nL (pc + 1) lo (.int v :: rest) M) : sw_W G K nL pc lo (.int x :: rest) M := fun H locs ls hP hS hL => lv_i2c X.1 X.2.1 hd hv (k H locs ls hP hS hL)
theorem sw_i2d (X : sv_X G K cc own nL d) {x : Int32} (hd : decode cc pc = .ok (.i2d, 1)) (k : sw_W G K nL (pc + 1) lo (.double (FP.i2d x) :: rest) M) : sw_W G K nL pc lo (.int x :: rest) M := fun H locs ls hP hS hL => lv_i2d X.1 X.2.1 hd (k H locs ls hP hS hL)
theorem sw_ddiv (X : sv_X G K cc own nL d) {x y : UInt64} (hne : vf_n64 (FP.ddiv x y)) (hd : decode cc pc = .ok (.ddiv, 1)) (k : sw_W G K nL (pc + 1) lo (.double (FP.ddiv x y) :: rest) M) : sw_W G K nL pc lo (.double y :: .double x :: rest) M := fun H locs ls hP hS hL => lv_ddiv X.1 X.2.1 hd hne (k H locs ls hP hS hL)
theorem sw_dcmp (X : sv_X G K cc own nL d) {x y : UInt64} {op : CmpOp} (hd : decode cc pc = .ok (.dcmp op, 1)) (k : sw_W G K nL (pc + 1) lo (.int (Op.cmpValue (FP.dcmp x y) op) :: rest) M) : sw_W G K nL pc lo (.double y :: .double x :: rest) M := fun H locs ls hP hS hL => lv_dcmp X.1 X.2.1 hd (k H locs ls hP hS hL)
theorem sw_dconst0 (X : sv_X G K cc own nL d) (hd : decode cc pc = .ok (.dconst 0, 1)) (k : sw_W G K nL (pc + 1) lo (.double FP.dconst0 :: rest) M) : sw_W G K nL pc lo rest M := fun H locs ls hP hS hL => lv_dconst0 X.1 X.2.1 hd (k H locs ls hP hS hL)
theorem sw_iconst (X : sv_X G K cc own nL d) {n : Int} (v : Int32) (hd : decode cc pc = .ok (.iconst n, 1)) (hv : Int32.ofInt n = v) (k : sw_W G K nL (pc + 1) lo (.int v :: rest) M) : sw_W G K nL pc lo rest M := fun H locs ls hP hS hL => lv_iconst X.1 X.2.1 hd hv (k H locs ls hP hS hL)
theorem sw_bipush (X : sv_X G K cc own nL d) {n : Int} (v : Int32) (hd : decode cc pc = .ok (.bipush n, 2)) (hv : (Int8.ofInt n).toInt32 = v) (k : sw_W G K nL (pc + 2) lo (.int v :: rest) M) : sw_W G K nL pc lo rest M := fun H locs ls hP hS hL => lv_bipush X.1 X.2.1 hd hv (k H locs ls hP hS hL)
theorem sw_sipush (X : sv_X G K cc own nL d) {n : Int} (v : Int32) (hd : decode cc pc = .ok (.sipush n, 3)) (hv : (Int16.ofInt n).toInt32 = v) (k : sw_W G K nL (pc + 3) lo (.int v :: rest) M) : sw_W G K nL pc lo rest M := fun H locs ls hP hS hL => lv_sipush X.1 X.2.1 hd hv (k H locs ls hP hS hL)
theorem sw_ldc (X : sv_X G K cc own nL d) {index : Nat} {v : Int32} (hw : Cond.constant own index v ∈ lw_g) (hd : decode cc pc = .ok (.ldc index, 2)) (k : sw_W G K nL (pc + 2) lo (.int v :: rest) M) : sw_W G K nL pc lo rest M := fun H locs ls hP hS hL => lv_ldc X.1 X.2.1 (sv_X_own X) (sv_X_word X hw) hd (k H locs ls hP hS hL)
theorem sw_ldcw (X : sv_X G K cc own nL d) {index : Nat} {v : Int32} (hw : Cond.constant own index v ∈ lw_g) (hd : decode cc pc = .ok (.ldc_w index, 3)) (k : sw_W G K nL (pc + 3) lo (.int v :: rest) M) : sw_W G K nL pc lo rest M := fun H locs ls hP hS hL => lv_ldcw X.1 X.2.1 (sv_X_own X) (sv_X_word X hw) hd (k H locs ls hP hS hL)
theorem sw_top {v v2 : Value} (h : v = v2) (k : sw_W G K nL pc lo (v2 :: rest) M) : sw_W G K nL pc lo (v :: rest) M := h ▸ k
theorem sw_tope {v v2 : Int32} (h : v = v2) (k : sw_W G K nL pc lo (.int v2 :: rest) M) : sw_W G K nL pc lo (.int v :: rest) M := h ▸ k
theorem sw_mem {M2 : sv_Mem} (h : M = M2) (k : sw_W G K nL pc lo rest M2) : sw_W G K nL pc lo rest M := h ▸ k
theorem sw_name {x : Int32} (k : ∀ y : Int32, y = x → sw_W G K nL pc lo (.int y :: rest) M) : sw_W G K nL pc lo (.int x :: rest) M := k x rfl
theorem sw_dup (X : sv_X G K cc own nL d) {va : Value} (hd : decode cc pc = .ok (.dup, 1)) (hva : va.category = 1) (k : sw_W G K nL (pc + 1) lo (va :: va :: rest) M) : sw_W G K nL pc lo (va :: rest) M := fun H locs ls hP hS hL => lv_dup X.1 X.2.1 hd hva (k H locs ls hP hS hL)
theorem sw_pop (X : sv_X G K cc own nL d) {va : Value} (hd : decode cc pc = .ok (.pop, 1)) (hva : va.category = 1) (k : sw_W G K nL (pc + 1) lo rest M) : sw_W G K nL pc lo (va :: rest) M := fun H locs ls hP hS hL => lv_pop X.1 X.2.1 hd hva (k H locs ls hP hS hL)
theorem sw_dup2 (X : sv_X G K cc own nL d) {va vb : Value} (hd : decode cc pc = .ok (.dup2, 1)) (hva : va.category = 1) (hvb : vb.category = 1) (k : sw_W G K nL (pc + 1) lo (va :: vb :: va :: vb :: rest) M) : sw_W G K nL pc lo (va :: vb :: rest) M := fun H locs ls hP hS hL => lv_dup2_11 X.1 X.2.1 hd hva hvb (k H locs ls hP hS hL)
theorem sw_dup_x1 (X : sv_X G K cc own nL d) {va vb : Value} (hd : decode cc pc = .ok (.dup_x1, 1)) (hva : va.category = 1) (hvb : vb.category = 1) (k : sw_W G K nL (pc + 1) lo (va :: vb :: va :: rest) M) : sw_W G K nL pc lo (va :: vb :: rest) M := fun H locs ls hP hS hL => lv_dup_x1 X.1 X.2.1 hd hva hvb (k H locs ls hP hS hL)
theorem sw_if_eq (X : sv_X G K cc own nL d) {x : Int32} {off : Int} (tgt : Nat) (hd : decode cc pc = .ok (.ifCond .eq off, 3)) (ht : (pc : Int) + off = (tgt : Int)) (kt : x = 0 → sw_W G K nL tgt lo rest M) (kf : ¬ (x = 0) → sw_W G K nL (pc + 3) lo rest M) : sw_W G K nL pc lo (.int x :: rest) M := fun H locs ls hP hS hL => lv_if_eq X.1 X.2.1 hd ht (fun h => kt h H locs ls hP hS hL) (fun h => kf h H locs ls hP hS hL)
theorem sw_if_ne (X : sv_X G K cc own nL d) {x : Int32} {off : Int} (tgt : Nat) (hd : decode cc pc = .ok (.ifCond .ne off, 3)) (ht : (pc : Int) + off = (tgt : Int)) (kt : ¬ x = 0 → sw_W G K nL tgt lo rest M) (kf : x = 0 → sw_W G K nL (pc + 3) lo rest M) : sw_W G K nL pc lo (.int x :: rest) M := fun H locs ls hP hS hL => lv_if_ne X.1 X.2.1 hd ht (fun h => kt h H locs ls hP hS hL) (fun h => kf h H locs ls hP hS hL)
theorem sw_if_lt (X : sv_X G K cc own nL d) {x : Int32} {off : Int} (tgt : Nat) (hd : decode cc pc = .ok (.ifCond .lt off, 3)) (ht : (pc : Int) + off = (tgt : Int)) (kt : x < 0 → sw_W G K nL tgt lo rest M) (kf : ¬ (x < 0) → sw_W G K nL (pc + 3) lo rest M) : sw_W G K nL pc lo (.int x :: rest) M := fun H locs ls hP hS hL => lv_if_lt X.1 X.2.1 hd ht (fun h => kt h H locs ls hP hS hL) (fun h => kf h H locs ls hP hS hL)
theorem sw_if_ge (X : sv_X G K cc own nL d) {x : Int32} {off : Int} (tgt : Nat) (hd : decode cc pc = .ok (.ifCond .ge off, 3)) (ht : (pc : Int) + off = (tgt : Int)) (kt : 0 ≤ x → sw_W G K nL tgt lo rest M) (kf : ¬ (0 ≤ x) → sw_W G K nL (pc + 3) lo rest M) : sw_W G K nL pc lo (.int x :: rest) M := fun H locs ls hP hS hL => lv_if_ge X.1 X.2.1 hd ht (fun h => kt h H locs ls hP hS hL) (fun h => kf h H locs ls hP hS hL)
theorem sw_if_gt (X : sv_X G K cc own nL d) {x : Int32} {off : Int} (tgt : Nat) (hd : decode cc pc = .ok (.ifCond .gt off, 3)) (ht : (pc : Int) + off = (tgt : Int)) (kt : 0 < x → sw_W G K nL tgt lo rest M) (kf : ¬ (0 < x) → sw_W G K nL (pc + 3) lo rest M) : sw_W G K nL pc lo (.int x :: rest) M := fun H locs ls hP hS hL => lv_if_gt X.1 X.2.1 hd ht (fun h => kt h H locs ls hP hS hL) (fun h => kf h H locs ls hP hS hL)
theorem sw_if_le (X : sv_X G K cc own nL d) {x : Int32} {off : Int} (tgt : Nat) (hd : decode cc pc = .ok (.ifCond .le off, 3)) (ht : (pc : Int) + off = (tgt : Int)) (kt : x ≤ 0 → sw_W G K nL tgt lo rest M) (kf : ¬ (x ≤ 0) → sw_W G K nL (pc + 3) lo rest M) : sw_W G K nL pc lo (.int x :: rest) M := fun H locs ls hP hS hL => lv_if_le X.1 X.2.1 hd ht (fun h => kt h H locs ls hP hS hL) (fun h => kf h H locs ls hP hS hL)
theorem sw_icmp_eq (X : sv_X G K cc own nL d) {x y : Int32} {off : Int} (tgt : Nat) (hd : decode cc pc = .ok (.if_icmp .eq off, 3)) (ht : (pc : Int) + off = (tgt : Int)) (kt : x = y → sw_W G K nL tgt lo rest M) (kf : ¬ (x = y) → sw_W G K nL (pc + 3) lo rest M) : sw_W G K nL pc lo (.int y :: .int x :: rest) M := fun H locs ls hP hS hL => lv_icmp_eq X.1 X.2.1 hd ht (fun h => kt h H locs ls hP hS hL) (fun h => kf h H locs ls hP hS hL)
theorem sw_icmp_ne (X : sv_X G K cc own nL d) {x y : Int32} {off : Int} (tgt : Nat) (hd : decode cc pc = .ok (.if_icmp .ne off, 3)) (ht : (pc : Int) + off = (tgt : Int)) (kt : ¬ x = y → sw_W G K nL tgt lo rest M) (kf : x = y → sw_W G K nL (pc + 3) lo rest M) : sw_W G K nL pc lo (.int y :: .int x :: rest) M := fun H locs ls hP hS hL => lv_icmp_ne X.1 X.2.1 hd ht (fun h => kt h H locs ls hP hS hL) (fun h => kf h H locs ls hP hS hL)
theorem sw_icmp_lt (X : sv_X G K cc own nL d) {x y : Int32} {off : Int} (tgt : Nat) (hd : decode cc pc = .ok (.if_icmp .lt off, 3)) (ht : (pc : Int) + off = (tgt : Int)) (kt : x < y → sw_W G K nL tgt lo rest M) (kf : ¬ (x < y) → sw_W G K nL (pc + 3) lo rest M) : sw_W G K nL pc lo (.int y :: .int x :: rest) M := fun H locs ls hP hS hL => lv_icmp_lt X.1 X.2.1 hd ht (fun h => kt h H locs ls hP hS hL) (fun h => kf h H locs ls hP hS hL)
theorem sw_icmp_ge (X : sv_X G K cc own nL d) {x y : Int32} {off : Int} (tgt : Nat) (hd : decode cc pc = .ok (.if_icmp .ge off, 3)) (ht : (pc : Int) + off = (tgt : Int)) (kt : y ≤ x → sw_W G K nL tgt lo rest M) (kf : ¬ (y ≤ x) → sw_W G K nL (pc + 3) lo rest M) : sw_W G K nL pc lo (.int y :: .int x :: rest) M := fun H locs ls hP hS hL => lv_icmp_ge X.1 X.2.1 hd ht (fun h => kt h H locs ls hP hS hL) (fun h => kf h H locs ls hP hS hL)
theorem sw_icmp_gt (X : sv_X G K cc own nL d) {x y : Int32} {off : Int} (tgt : Nat) (hd : decode cc pc = .ok (.if_icmp .gt off, 3)) (ht : (pc : Int) + off = (tgt : Int)) (kt : y < x → sw_W G K nL tgt lo rest M) (kf : ¬ (y < x) → sw_W G K nL (pc + 3) lo rest M) : sw_W G K nL pc lo (.int y :: .int x :: rest) M := fun H locs ls hP hS hL => lv_icmp_gt X.1 X.2.1 hd ht (fun h => kt h H locs ls hP hS hL) (fun h => kf h H locs ls hP hS hL)
theorem sw_icmp_le (X : sv_X G K cc own nL d) {x y : Int32} {off : Int} (tgt : Nat) (hd : decode cc pc = .ok (.if_icmp .le off, 3)) (ht : (pc : Int) + off = (tgt : Int)) (kt : x ≤ y → sw_W G K nL tgt lo rest M) (kf : ¬ (x ≤ y) → sw_W G K nL (pc + 3) lo rest M) : sw_W G K nL pc lo (.int y :: .int x :: rest) M := fun H locs ls hP hS hL => lv_icmp_le X.1 X.2.1 hd ht (fun h => kt h H locs ls hP hS hL) (fun h => kf h H locs ls hP hS hL)
theorem sw_ifB_eq (X : sv_X G K cc own nL d) {b : Prop} [Decidable b] {off : Int} (tgt : Nat) (hd : decode cc pc = .ok (.ifCond .eq off, 3)) (ht : (pc : Int) + off = (tgt : Int)) (kt : ¬ b → sw_W G K nL tgt lo rest M) (kf : b → sw_W G K nL (pc + 3) lo rest M) : sw_W G K nL pc lo (.int (bI b) :: rest) M := sw_if_eq X tgt hd ht (fun h => kt (bI_eq0.mp h)) (fun h => kf (bI_ne0.mp h))
theorem sw_ifB_ne (X : sv_X G K cc own nL d) {b : Prop} [Decidable b] {off : Int} (tgt : Nat) (hd : decode cc pc = .ok (.ifCond .ne off, 3)) (ht : (pc : Int) + off = (tgt : Int)) (kt : b → sw_W G K nL tgt lo rest M) (kf : ¬ b → sw_W G K nL (pc + 3) lo rest M) : sw_W G K nL pc lo (.int (bI b) :: rest) M := sw_if_ne X tgt hd ht (fun h => kt (bI_ne0.mp h)) (fun h => kf (bI_eq0.mp h))
theorem sw_goto (X : sv_X G K cc own nL d) {off : Int} (tgt : Nat) (hd : decode cc pc = .ok (.goto off, 3)) (ht : (pc : Int) + off = (tgt : Int)) (k : sw_W G K nL tgt lo rest M) : sw_W G K nL pc lo rest M := fun H locs ls hP hS hL => lv_goto X.1 X.2.1 hd ht (k H locs ls hP hS hL)
theorem sw_tabOut (X : sv_X G K cc own nL d) {dflt a b : Int} {offs : Array Int} {len : Nat} {x : Int32} (tgt : Nat) (hd : decode cc pc = .ok (.tableswitch dflt a b offs, len)) (h : x.toInt < a ∨ b < x.toInt) (ht : (pc : Int) + dflt = (tgt : Int)) (k : sw_W G K nL tgt lo rest M) : sw_W G K nL pc lo (.int x :: rest) M := fun H locs ls hP hS hL => lv_tableOut X.1 X.2.1 hd h ht (k H locs ls hP hS hL)
theorem sw_tabIn (X : sv_X G K cc own nL d) {dflt a b : Int} {offs : Array Int} {len : Nat} {x : Int32} {off : Int} (tgt : Nat) (hd : decode cc pc = .ok (.tableswitch dflt a b offs, len)) (h1 : ¬ x.toInt < a) (h2 : ¬ b < x.toInt) (ho : offs[(x.toInt - a).toNat]? = some off) (ht : (pc : Int) + off = (tgt : Int)) (k : sw_W G K nL tgt lo rest M) : sw_W G K nL pc lo (.int x :: rest) M := fun H locs ls hP hS hL => lv_tableIn X.1 X.2.1 hd h1 h2 ho ht (k H locs ls hP hS hL)
theorem sw_lookup (X : sv_X G K cc own nL d) {dflt : Int} {ps : Array (Int × Int)} {len : Nat} {x : Int32} {off : Int} (tgt : Nat) (hd : decode cc pc = .ok (.lookupswitch dflt ps, len)) (hp : (ps.toList.zip (ps.toList.drop 1)).all (fun (a, next) => a.1 < next.1) = true) (ho : Op.lookupswitch.offset ps.toList dflt x.toInt = off) (ht : (pc : Int) + off = (tgt : Int)) (k : sw_W G K nL tgt lo rest M) : sw_W G K nL pc lo (.int x :: rest) M := fun H locs ls hP hS hL => lv_lookup X.1 X.2.1 hd hp ho ht (k H locs ls hP hS hL)
theorem sw_iload_0 (X : sv_X G K cc own nL d) {t : List (Option Value)} {x : Int32} (hd : decode cc pc = .ok (.iload_n 0, 1)) (k : sw_W G K nL (pc + 1) (some (.int x) :: t) (.int x :: rest) M) : sw_W G K nL pc (some (.int x) :: t) rest M := fun H locs ls hP hS hL => lv_iload_n X.1 X.2.1 hd rfl (hL.2.2.2 0 _ rfl) (k H locs ls hP hS hL)
theorem sw_aload_0 (X : sv_X G K cc own nL d) {t : List (Option Value)} {x : Nat} (hd : decode cc pc = .ok (.aload_n 0, 1)) (k : sw_W G K nL (pc + 1) (some (.ref x) :: t) (.ref x :: rest) M) : sw_W G K nL pc (some (.ref x) :: t) rest M := fun H locs ls hP hS hL => lv_aload_n X.1 X.2.1 hd rfl (hL.2.2.2 0 _ rfl) (k H locs ls hP hS hL)
theorem sw_istore_0 (X : sv_X G K cc own nL d) {w : Option Value} {t : List (Option Value)} {x : Int32} (hd : decode cc pc = .ok (.istore_n 0, 1)) (k : sw_W G K nL (pc + 1) (some (.int x) :: t) rest M) : sw_W G K nL pc (w :: t) (.int x :: rest) M := fun H locs ls hP hS hL => lv_istore_n (i := 0) X.1 X.2.1 hd rfl (sv_L_has hL) (sv_L_lt hL (i := 0) (by simp)) rfl (fun ls2 h2 => k H locs ls2 hP hS (sv_L_set (w := .int x) hL h2 (i := 0) (by simp) rfl (fun i v hv hc hi => by omega)))
theorem sw_astore_0 (X : sv_X G K cc own nL d) {w : Option Value} {t : List (Option Value)} {x : Nat} (hd : decode cc pc = .ok (.astore_n 0, 1)) (k : sw_W G K nL (pc + 1) (some (.ref x) :: t) rest M) : sw_W G K nL pc (w :: t) (.ref x :: rest) M := fun H locs ls hP hS hL => lv_astore_n (i := 0) X.1 X.2.1 hd rfl (sv_L_has hL) (sv_L_lt hL (i := 0) (by simp)) rfl (fun ls2 h2 => k H locs ls2 hP hS (sv_L_set (w := .ref x) hL h2 (i := 0) (by simp) rfl (fun i v hv hc hi => by omega)))
theorem sw_iinc_0 (X : sv_X G K cc own nL d) {t : List (Option Value)} {n : Int} {x : Int32} (v : Int32) (hd : decode cc pc = .ok (.iinc 0 n, 3)) (hv : x + Int32.ofInt n = v) (k : sw_W G K nL (pc + 3) (some (.int v) :: t) rest M) : sw_W G K nL pc (some (.int x) :: t) rest M := fun H locs ls hP hS hL => by
  obtain ⟨q, hq⟩ := sv_L_place hL (i := 0) (v := .int x) rfl
  exact lv_iinc X.1 X.2.1 hd (sv_L_has hL) hq hv (sv_L_lt hL (i := 0) (by simp)) rfl (fun ls2 h2 => k H locs ls2 hP hS (sv_L_set (w := .int v) hL h2 (i := 0) (by simp) rfl (fun i v hv hc hi => by omega)))
theorem sw_drop_0 {w : Option Value} {t : List (Option Value)} (k : sw_W G K nL pc (none :: t) rest M) : sw_W G K nL pc (w :: t) rest M := fun H locs ls hP hS hL => k H locs ls hP hS (sv_L_drop hL 0 rfl)
theorem sw_iload_1 (X : sv_X G K cc own nL d) {v0 : Option Value} {t : List (Option Value)} {x : Int32} (hd : decode cc pc = .ok (.iload_n 1, 1)) (k : sw_W G K nL (pc + 1) (v0 :: some (.int x) :: t) (.int x :: rest) M) : sw_W G K nL pc (v0 :: some (.int x) :: t) rest M := fun H locs ls hP hS hL => lv_iload_n X.1 X.2.1 hd rfl (hL.2.2.2 1 _ rfl) (k H locs ls hP hS hL)
theorem sw_aload_1 (X : sv_X G K cc own nL d) {v0 : Option Value} {t : List (Option Value)} {x : Nat} (hd : decode cc pc = .ok (.aload_n 1, 1)) (k : sw_W G K nL (pc + 1) (v0 :: some (.ref x) :: t) (.ref x :: rest) M) : sw_W G K nL pc (v0 :: some (.ref x) :: t) rest M := fun H locs ls hP hS hL => lv_aload_n X.1 X.2.1 hd rfl (hL.2.2.2 1 _ rfl) (k H locs ls hP hS hL)
theorem sw_istore_1 (X : sv_X G K cc own nL d) {v0 : Option Value} {w : Option Value} {t : List (Option Value)} {x : Int32} (hd : decode cc pc = .ok (.istore_n 1, 1)) (h1 : sv_c1 v0) (k : sw_W G K nL (pc + 1) (v0 :: some (.int x) :: t) rest M) : sw_W G K nL pc (v0 :: w :: t) (.int x :: rest) M := fun H locs ls hP hS hL => lv_istore_n (i := 1) X.1 X.2.1 hd rfl (sv_L_has hL) (sv_L_lt hL (i := 1) (by simp)) rfl (fun ls2 h2 => k H locs ls2 hP hS (sv_L_set (w := .int x) hL h2 (i := 1) (by simp) rfl (sv_c1_no (k0 := 0) rfl h1)))
theorem sw_astore_1 (X : sv_X G K cc own nL d) {v0 : Option Value} {w : Option Value} {t : List (Option Value)} {x : Nat} (hd : decode cc pc = .ok (.astore_n 1, 1)) (h1 : sv_c1 v0) (k : sw_W G K nL (pc + 1) (v0 :: some (.ref x) :: t) rest M) : sw_W G K nL pc (v0 :: w :: t) (.ref x :: rest) M := fun H locs ls hP hS hL => lv_astore_n (i := 1) X.1 X.2.1 hd rfl (sv_L_has hL) (sv_L_lt hL (i := 1) (by simp)) rfl (fun ls2 h2 => k H locs ls2 hP hS (sv_L_set (w := .ref x) hL h2 (i := 1) (by simp) rfl (sv_c1_no (k0 := 0) rfl h1)))
theorem sw_iinc_1 (X : sv_X G K cc own nL d) {v0 : Option Value} {t : List (Option Value)} {n : Int} {x : Int32} (v : Int32) (hd : decode cc pc = .ok (.iinc 1 n, 3)) (hv : x + Int32.ofInt n = v) (h1 : sv_c1 v0) (k : sw_W G K nL (pc + 3) (v0 :: some (.int v) :: t) rest M) : sw_W G K nL pc (v0 :: some (.int x) :: t) rest M := fun H locs ls hP hS hL => by
  obtain ⟨q, hq⟩ := sv_L_place hL (i := 1) (v := .int x) rfl
  exact lv_iinc X.1 X.2.1 hd (sv_L_has hL) hq hv (sv_L_lt hL (i := 1) (by simp)) rfl (fun ls2 h2 => k H locs ls2 hP hS (sv_L_set (w := .int v) hL h2 (i := 1) (by simp) rfl (sv_c1_no (k0 := 0) rfl h1)))
theorem sw_drop_1 {v0 : Option Value} {w : Option Value} {t : List (Option Value)} (k : sw_W G K nL pc (v0 :: none :: t) rest M) : sw_W G K nL pc (v0 :: w :: t) rest M := fun H locs ls hP hS hL => k H locs ls hP hS (sv_L_drop hL 1 rfl)
theorem sw_iload_2 (X : sv_X G K cc own nL d) {v0 v1 : Option Value} {t : List (Option Value)} {x : Int32} (hd : decode cc pc = .ok (.iload_n 2, 1)) (k : sw_W G K nL (pc + 1) (v0 :: v1 :: some (.int x) :: t) (.int x :: rest) M) : sw_W G K nL pc (v0 :: v1 :: some (.int x) :: t) rest M := fun H locs ls hP hS hL => lv_iload_n X.1 X.2.1 hd rfl (hL.2.2.2 2 _ rfl) (k H locs ls hP hS hL)
theorem sw_aload_2 (X : sv_X G K cc own nL d) {v0 v1 : Option Value} {t : List (Option Value)} {x : Nat} (hd : decode cc pc = .ok (.aload_n 2, 1)) (k : sw_W G K nL (pc + 1) (v0 :: v1 :: some (.ref x) :: t) (.ref x :: rest) M) : sw_W G K nL pc (v0 :: v1 :: some (.ref x) :: t) rest M := fun H locs ls hP hS hL => lv_aload_n X.1 X.2.1 hd rfl (hL.2.2.2 2 _ rfl) (k H locs ls hP hS hL)
theorem sw_istore_2 (X : sv_X G K cc own nL d) {v0 v1 : Option Value} {w : Option Value} {t : List (Option Value)} {x : Int32} (hd : decode cc pc = .ok (.istore_n 2, 1)) (h1 : sv_c1 v1) (k : sw_W G K nL (pc + 1) (v0 :: v1 :: some (.int x) :: t) rest M) : sw_W G K nL pc (v0 :: v1 :: w :: t) (.int x :: rest) M := fun H locs ls hP hS hL => lv_istore_n (i := 2) X.1 X.2.1 hd rfl (sv_L_has hL) (sv_L_lt hL (i := 2) (by simp)) rfl (fun ls2 h2 => k H locs ls2 hP hS (sv_L_set (w := .int x) hL h2 (i := 2) (by simp) rfl (sv_c1_no (k0 := 1) rfl h1)))
theorem sw_astore_2 (X : sv_X G K cc own nL d) {v0 v1 : Option Value} {w : Option Value} {t : List (Option Value)} {x : Nat} (hd : decode cc pc = .ok (.astore_n 2, 1)) (h1 : sv_c1 v1) (k : sw_W G K nL (pc + 1) (v0 :: v1 :: some (.ref x) :: t) rest M) : sw_W G K nL pc (v0 :: v1 :: w :: t) (.ref x :: rest) M := fun H locs ls hP hS hL => lv_astore_n (i := 2) X.1 X.2.1 hd rfl (sv_L_has hL) (sv_L_lt hL (i := 2) (by simp)) rfl (fun ls2 h2 => k H locs ls2 hP hS (sv_L_set (w := .ref x) hL h2 (i := 2) (by simp) rfl (sv_c1_no (k0 := 1) rfl h1)))
theorem sw_iinc_2 (X : sv_X G K cc own nL d) {v0 v1 : Option Value} {t : List (Option Value)} {n : Int} {x : Int32} (v : Int32) (hd : decode cc pc = .ok (.iinc 2 n, 3)) (hv : x + Int32.ofInt n = v) (h1 : sv_c1 v1) (k : sw_W G K nL (pc + 3) (v0 :: v1 :: some (.int v) :: t) rest M) : sw_W G K nL pc (v0 :: v1 :: some (.int x) :: t) rest M := fun H locs ls hP hS hL => by
  obtain ⟨q, hq⟩ := sv_L_place hL (i := 2) (v := .int x) rfl
  exact lv_iinc X.1 X.2.1 hd (sv_L_has hL) hq hv (sv_L_lt hL (i := 2) (by simp)) rfl (fun ls2 h2 => k H locs ls2 hP hS (sv_L_set (w := .int v) hL h2 (i := 2) (by simp) rfl (sv_c1_no (k0 := 1) rfl h1)))
theorem sw_drop_2 {v0 v1 : Option Value} {w : Option Value} {t : List (Option Value)} (k : sw_W G K nL pc (v0 :: v1 :: none :: t) rest M) : sw_W G K nL pc (v0 :: v1 :: w :: t) rest M := fun H locs ls hP hS hL => k H locs ls hP hS (sv_L_drop hL 2 rfl)
theorem sw_iload_3 (X : sv_X G K cc own nL d) {v0 v1 v2 : Option Value} {t : List (Option Value)} {x : Int32} (hd : decode cc pc = .ok (.iload_n 3, 1)) (k : sw_W G K nL (pc + 1) (v0 :: v1 :: v2 :: some (.int x) :: t) (.int x :: rest) M) : sw_W G K nL pc (v0 :: v1 :: v2 :: some (.int x) :: t) rest M := fun H locs ls hP hS hL => lv_iload_n X.1 X.2.1 hd rfl (hL.2.2.2 3 _ rfl) (k H locs ls hP hS hL)
theorem sw_aload_3 (X : sv_X G K cc own nL d) {v0 v1 v2 : Option Value} {t : List (Option Value)} {x : Nat} (hd : decode cc pc = .ok (.aload_n 3, 1)) (k : sw_W G K nL (pc + 1) (v0 :: v1 :: v2 :: some (.ref x) :: t) (.ref x :: rest) M) : sw_W G K nL pc (v0 :: v1 :: v2 :: some (.ref x) :: t) rest M := fun H locs ls hP hS hL => lv_aload_n X.1 X.2.1 hd rfl (hL.2.2.2 3 _ rfl) (k H locs ls hP hS hL)
theorem sw_istore_3 (X : sv_X G K cc own nL d) {v0 v1 v2 : Option Value} {w : Option Value} {t : List (Option Value)} {x : Int32} (hd : decode cc pc = .ok (.istore_n 3, 1)) (h1 : sv_c1 v2) (k : sw_W G K nL (pc + 1) (v0 :: v1 :: v2 :: some (.int x) :: t) rest M) : sw_W G K nL pc (v0 :: v1 :: v2 :: w :: t) (.int x :: rest) M := fun H locs ls hP hS hL => lv_istore_n (i := 3) X.1 X.2.1 hd rfl (sv_L_has hL) (sv_L_lt hL (i := 3) (by simp)) rfl (fun ls2 h2 => k H locs ls2 hP hS (sv_L_set (w := .int x) hL h2 (i := 3) (by simp) rfl (sv_c1_no (k0 := 2) rfl h1)))
theorem sw_astore_3 (X : sv_X G K cc own nL d) {v0 v1 v2 : Option Value} {w : Option Value} {t : List (Option Value)} {x : Nat} (hd : decode cc pc = .ok (.astore_n 3, 1)) (h1 : sv_c1 v2) (k : sw_W G K nL (pc + 1) (v0 :: v1 :: v2 :: some (.ref x) :: t) rest M) : sw_W G K nL pc (v0 :: v1 :: v2 :: w :: t) (.ref x :: rest) M := fun H locs ls hP hS hL => lv_astore_n (i := 3) X.1 X.2.1 hd rfl (sv_L_has hL) (sv_L_lt hL (i := 3) (by simp)) rfl (fun ls2 h2 => k H locs ls2 hP hS (sv_L_set (w := .ref x) hL h2 (i := 3) (by simp) rfl (sv_c1_no (k0 := 2) rfl h1)))
theorem sw_iinc_3 (X : sv_X G K cc own nL d) {v0 v1 v2 : Option Value} {t : List (Option Value)} {n : Int} {x : Int32} (v : Int32) (hd : decode cc pc = .ok (.iinc 3 n, 3)) (hv : x + Int32.ofInt n = v) (h1 : sv_c1 v2) (k : sw_W G K nL (pc + 3) (v0 :: v1 :: v2 :: some (.int v) :: t) rest M) : sw_W G K nL pc (v0 :: v1 :: v2 :: some (.int x) :: t) rest M := fun H locs ls hP hS hL => by
  obtain ⟨q, hq⟩ := sv_L_place hL (i := 3) (v := .int x) rfl
  exact lv_iinc X.1 X.2.1 hd (sv_L_has hL) hq hv (sv_L_lt hL (i := 3) (by simp)) rfl (fun ls2 h2 => k H locs ls2 hP hS (sv_L_set (w := .int v) hL h2 (i := 3) (by simp) rfl (sv_c1_no (k0 := 2) rfl h1)))
theorem sw_drop_3 {v0 v1 v2 : Option Value} {w : Option Value} {t : List (Option Value)} (k : sw_W G K nL pc (v0 :: v1 :: v2 :: none :: t) rest M) : sw_W G K nL pc (v0 :: v1 :: v2 :: w :: t) rest M := fun H locs ls hP hS hL => k H locs ls hP hS (sv_L_drop hL 3 rfl)
theorem sw_iload_4 (X : sv_X G K cc own nL d) {v0 v1 v2 v3 : Option Value} {t : List (Option Value)} {x : Int32} (hd : decode cc pc = .ok (.iload 4, 2)) (k : sw_W G K nL (pc + 2) (v0 :: v1 :: v2 :: v3 :: some (.int x) :: t) (.int x :: rest) M) : sw_W G K nL pc (v0 :: v1 :: v2 :: v3 :: some (.int x) :: t) rest M := fun H locs ls hP hS hL => lv_iload X.1 X.2.1 hd (hL.2.2.2 4 _ rfl) (k H locs ls hP hS hL)
theorem sw_aload_4 (X : sv_X G K cc own nL d) {v0 v1 v2 v3 : Option Value} {t : List (Option Value)} {x : Nat} (hd : decode cc pc = .ok (.aload 4, 2)) (k : sw_W G K nL (pc + 2) (v0 :: v1 :: v2 :: v3 :: some (.ref x) :: t) (.ref x :: rest) M) : sw_W G K nL pc (v0 :: v1 :: v2 :: v3 :: some (.ref x) :: t) rest M := fun H locs ls hP hS hL => lv_aload X.1 X.2.1 hd (hL.2.2.2 4 _ rfl) (k H locs ls hP hS hL)
theorem sw_istore_4 (X : sv_X G K cc own nL d) {v0 v1 v2 v3 : Option Value} {w : Option Value} {t : List (Option Value)} {x : Int32} (hd : decode cc pc = .ok (.istore 4, 2)) (h1 : sv_c1 v3) (k : sw_W G K nL (pc + 2) (v0 :: v1 :: v2 :: v3 :: some (.int x) :: t) rest M) : sw_W G K nL pc (v0 :: v1 :: v2 :: v3 :: w :: t) (.int x :: rest) M := fun H locs ls hP hS hL => lv_istore X.1 X.2.1 hd (sv_L_has hL) (sv_L_lt hL (i := 4) (by simp)) rfl (fun ls2 h2 => k H locs ls2 hP hS (sv_L_set (w := .int x) hL h2 (i := 4) (by simp) rfl (sv_c1_no (k0 := 3) rfl h1)))
theorem sw_astore_4 (X : sv_X G K cc own nL d) {v0 v1 v2 v3 : Option Value} {w : Option Value} {t : List (Option Value)} {x : Nat} (hd : decode cc pc = .ok (.astore 4, 2)) (h1 : sv_c1 v3) (k : sw_W G K nL (pc + 2) (v0 :: v1 :: v2 :: v3 :: some (.ref x) :: t) rest M) : sw_W G K nL pc (v0 :: v1 :: v2 :: v3 :: w :: t) (.ref x :: rest) M := fun H locs ls hP hS hL => lv_astore X.1 X.2.1 hd (sv_L_has hL) (sv_L_lt hL (i := 4) (by simp)) rfl (fun ls2 h2 => k H locs ls2 hP hS (sv_L_set (w := .ref x) hL h2 (i := 4) (by simp) rfl (sv_c1_no (k0 := 3) rfl h1)))
theorem sw_iinc_4 (X : sv_X G K cc own nL d) {v0 v1 v2 v3 : Option Value} {t : List (Option Value)} {n : Int} {x : Int32} (v : Int32) (hd : decode cc pc = .ok (.iinc 4 n, 3)) (hv : x + Int32.ofInt n = v) (h1 : sv_c1 v3) (k : sw_W G K nL (pc + 3) (v0 :: v1 :: v2 :: v3 :: some (.int v) :: t) rest M) : sw_W G K nL pc (v0 :: v1 :: v2 :: v3 :: some (.int x) :: t) rest M := fun H locs ls hP hS hL => by
  obtain ⟨q, hq⟩ := sv_L_place hL (i := 4) (v := .int x) rfl
  exact lv_iinc X.1 X.2.1 hd (sv_L_has hL) hq hv (sv_L_lt hL (i := 4) (by simp)) rfl (fun ls2 h2 => k H locs ls2 hP hS (sv_L_set (w := .int v) hL h2 (i := 4) (by simp) rfl (sv_c1_no (k0 := 3) rfl h1)))
theorem sw_drop_4 {v0 v1 v2 v3 : Option Value} {w : Option Value} {t : List (Option Value)} (k : sw_W G K nL pc (v0 :: v1 :: v2 :: v3 :: none :: t) rest M) : sw_W G K nL pc (v0 :: v1 :: v2 :: v3 :: w :: t) rest M := fun H locs ls hP hS hL => k H locs ls hP hS (sv_L_drop hL 4 rfl)
theorem sw_iload_5 (X : sv_X G K cc own nL d) {v0 v1 v2 v3 v4 : Option Value} {t : List (Option Value)} {x : Int32} (hd : decode cc pc = .ok (.iload 5, 2)) (k : sw_W G K nL (pc + 2) (v0 :: v1 :: v2 :: v3 :: v4 :: some (.int x) :: t) (.int x :: rest) M) : sw_W G K nL pc (v0 :: v1 :: v2 :: v3 :: v4 :: some (.int x) :: t) rest M := fun H locs ls hP hS hL => lv_iload X.1 X.2.1 hd (hL.2.2.2 5 _ rfl) (k H locs ls hP hS hL)
theorem sw_aload_5 (X : sv_X G K cc own nL d) {v0 v1 v2 v3 v4 : Option Value} {t : List (Option Value)} {x : Nat} (hd : decode cc pc = .ok (.aload 5, 2)) (k : sw_W G K nL (pc + 2) (v0 :: v1 :: v2 :: v3 :: v4 :: some (.ref x) :: t) (.ref x :: rest) M) : sw_W G K nL pc (v0 :: v1 :: v2 :: v3 :: v4 :: some (.ref x) :: t) rest M := fun H locs ls hP hS hL => lv_aload X.1 X.2.1 hd (hL.2.2.2 5 _ rfl) (k H locs ls hP hS hL)
theorem sw_istore_5 (X : sv_X G K cc own nL d) {v0 v1 v2 v3 v4 : Option Value} {w : Option Value} {t : List (Option Value)} {x : Int32} (hd : decode cc pc = .ok (.istore 5, 2)) (h1 : sv_c1 v4) (k : sw_W G K nL (pc + 2) (v0 :: v1 :: v2 :: v3 :: v4 :: some (.int x) :: t) rest M) : sw_W G K nL pc (v0 :: v1 :: v2 :: v3 :: v4 :: w :: t) (.int x :: rest) M := fun H locs ls hP hS hL => lv_istore X.1 X.2.1 hd (sv_L_has hL) (sv_L_lt hL (i := 5) (by simp)) rfl (fun ls2 h2 => k H locs ls2 hP hS (sv_L_set (w := .int x) hL h2 (i := 5) (by simp) rfl (sv_c1_no (k0 := 4) rfl h1)))
theorem sw_astore_5 (X : sv_X G K cc own nL d) {v0 v1 v2 v3 v4 : Option Value} {w : Option Value} {t : List (Option Value)} {x : Nat} (hd : decode cc pc = .ok (.astore 5, 2)) (h1 : sv_c1 v4) (k : sw_W G K nL (pc + 2) (v0 :: v1 :: v2 :: v3 :: v4 :: some (.ref x) :: t) rest M) : sw_W G K nL pc (v0 :: v1 :: v2 :: v3 :: v4 :: w :: t) (.ref x :: rest) M := fun H locs ls hP hS hL => lv_astore X.1 X.2.1 hd (sv_L_has hL) (sv_L_lt hL (i := 5) (by simp)) rfl (fun ls2 h2 => k H locs ls2 hP hS (sv_L_set (w := .ref x) hL h2 (i := 5) (by simp) rfl (sv_c1_no (k0 := 4) rfl h1)))
theorem sw_iinc_5 (X : sv_X G K cc own nL d) {v0 v1 v2 v3 v4 : Option Value} {t : List (Option Value)} {n : Int} {x : Int32} (v : Int32) (hd : decode cc pc = .ok (.iinc 5 n, 3)) (hv : x + Int32.ofInt n = v) (h1 : sv_c1 v4) (k : sw_W G K nL (pc + 3) (v0 :: v1 :: v2 :: v3 :: v4 :: some (.int v) :: t) rest M) : sw_W G K nL pc (v0 :: v1 :: v2 :: v3 :: v4 :: some (.int x) :: t) rest M := fun H locs ls hP hS hL => by
  obtain ⟨q, hq⟩ := sv_L_place hL (i := 5) (v := .int x) rfl
  exact lv_iinc X.1 X.2.1 hd (sv_L_has hL) hq hv (sv_L_lt hL (i := 5) (by simp)) rfl (fun ls2 h2 => k H locs ls2 hP hS (sv_L_set (w := .int v) hL h2 (i := 5) (by simp) rfl (sv_c1_no (k0 := 4) rfl h1)))
theorem sw_drop_5 {v0 v1 v2 v3 v4 : Option Value} {w : Option Value} {t : List (Option Value)} (k : sw_W G K nL pc (v0 :: v1 :: v2 :: v3 :: v4 :: none :: t) rest M) : sw_W G K nL pc (v0 :: v1 :: v2 :: v3 :: v4 :: w :: t) rest M := fun H locs ls hP hS hL => k H locs ls hP hS (sv_L_drop hL 5 rfl)
theorem sw_iload_6 (X : sv_X G K cc own nL d) {v0 v1 v2 v3 v4 v5 : Option Value} {t : List (Option Value)} {x : Int32} (hd : decode cc pc = .ok (.iload 6, 2)) (k : sw_W G K nL (pc + 2) (v0 :: v1 :: v2 :: v3 :: v4 :: v5 :: some (.int x) :: t) (.int x :: rest) M) : sw_W G K nL pc (v0 :: v1 :: v2 :: v3 :: v4 :: v5 :: some (.int x) :: t) rest M := fun H locs ls hP hS hL => lv_iload X.1 X.2.1 hd (hL.2.2.2 6 _ rfl) (k H locs ls hP hS hL)
theorem sw_aload_6 (X : sv_X G K cc own nL d) {v0 v1 v2 v3 v4 v5 : Option Value} {t : List (Option Value)} {x : Nat} (hd : decode cc pc = .ok (.aload 6, 2)) (k : sw_W G K nL (pc + 2) (v0 :: v1 :: v2 :: v3 :: v4 :: v5 :: some (.ref x) :: t) (.ref x :: rest) M) : sw_W G K nL pc (v0 :: v1 :: v2 :: v3 :: v4 :: v5 :: some (.ref x) :: t) rest M := fun H locs ls hP hS hL => lv_aload X.1 X.2.1 hd (hL.2.2.2 6 _ rfl) (k H locs ls hP hS hL)
theorem sw_istore_6 (X : sv_X G K cc own nL d) {v0 v1 v2 v3 v4 v5 : Option Value} {w : Option Value} {t : List (Option Value)} {x : Int32} (hd : decode cc pc = .ok (.istore 6, 2)) (h1 : sv_c1 v5) (k : sw_W G K nL (pc + 2) (v0 :: v1 :: v2 :: v3 :: v4 :: v5 :: some (.int x) :: t) rest M) : sw_W G K nL pc (v0 :: v1 :: v2 :: v3 :: v4 :: v5 :: w :: t) (.int x :: rest) M := fun H locs ls hP hS hL => lv_istore X.1 X.2.1 hd (sv_L_has hL) (sv_L_lt hL (i := 6) (by simp)) rfl (fun ls2 h2 => k H locs ls2 hP hS (sv_L_set (w := .int x) hL h2 (i := 6) (by simp) rfl (sv_c1_no (k0 := 5) rfl h1)))
theorem sw_astore_6 (X : sv_X G K cc own nL d) {v0 v1 v2 v3 v4 v5 : Option Value} {w : Option Value} {t : List (Option Value)} {x : Nat} (hd : decode cc pc = .ok (.astore 6, 2)) (h1 : sv_c1 v5) (k : sw_W G K nL (pc + 2) (v0 :: v1 :: v2 :: v3 :: v4 :: v5 :: some (.ref x) :: t) rest M) : sw_W G K nL pc (v0 :: v1 :: v2 :: v3 :: v4 :: v5 :: w :: t) (.ref x :: rest) M := fun H locs ls hP hS hL => lv_astore X.1 X.2.1 hd (sv_L_has hL) (sv_L_lt hL (i := 6) (by simp)) rfl (fun ls2 h2 => k H locs ls2 hP hS (sv_L_set (w := .ref x) hL h2 (i := 6) (by simp) rfl (sv_c1_no (k0 := 5) rfl h1)))
theorem sw_iinc_6 (X : sv_X G K cc own nL d) {v0 v1 v2 v3 v4 v5 : Option Value} {t : List (Option Value)} {n : Int} {x : Int32} (v : Int32) (hd : decode cc pc = .ok (.iinc 6 n, 3)) (hv : x + Int32.ofInt n = v) (h1 : sv_c1 v5) (k : sw_W G K nL (pc + 3) (v0 :: v1 :: v2 :: v3 :: v4 :: v5 :: some (.int v) :: t) rest M) : sw_W G K nL pc (v0 :: v1 :: v2 :: v3 :: v4 :: v5 :: some (.int x) :: t) rest M := fun H locs ls hP hS hL => by
  obtain ⟨q, hq⟩ := sv_L_place hL (i := 6) (v := .int x) rfl
  exact lv_iinc X.1 X.2.1 hd (sv_L_has hL) hq hv (sv_L_lt hL (i := 6) (by simp)) rfl (fun ls2 h2 => k H locs ls2 hP hS (sv_L_set (w := .int v) hL h2 (i := 6) (by simp) rfl (sv_c1_no (k0 := 5) rfl h1)))
theorem sw_drop_6 {v0 v1 v2 v3 v4 v5 : Option Value} {w : Option Value} {t : List (Option Value)} (k : sw_W G K nL pc (v0 :: v1 :: v2 :: v3 :: v4 :: v5 :: none :: t) rest M) : sw_W G K nL pc (v0 :: v1 :: v2 :: v3 :: v4 :: v5 :: w :: t) rest M := fun H locs ls hP hS hL => k H locs ls hP hS (sv_L_drop hL 6 rfl)
theorem sw_iload_7 (X : sv_X G K cc own nL d) {v0 v1 v2 v3 v4 v5 v6 : Option Value} {t : List (Option Value)} {x : Int32} (hd : decode cc pc = .ok (.iload 7, 2)) (k : sw_W G K nL (pc + 2) (v0 :: v1 :: v2 :: v3 :: v4 :: v5 :: v6 :: some (.int x) :: t) (.int x :: rest) M) : sw_W G K nL pc (v0 :: v1 :: v2 :: v3 :: v4 :: v5 :: v6 :: some (.int x) :: t) rest M := fun H locs ls hP hS hL => lv_iload X.1 X.2.1 hd (hL.2.2.2 7 _ rfl) (k H locs ls hP hS hL)
theorem sw_aload_7 (X : sv_X G K cc own nL d) {v0 v1 v2 v3 v4 v5 v6 : Option Value} {t : List (Option Value)} {x : Nat} (hd : decode cc pc = .ok (.aload 7, 2)) (k : sw_W G K nL (pc + 2) (v0 :: v1 :: v2 :: v3 :: v4 :: v5 :: v6 :: some (.ref x) :: t) (.ref x :: rest) M) : sw_W G K nL pc (v0 :: v1 :: v2 :: v3 :: v4 :: v5 :: v6 :: some (.ref x) :: t) rest M := fun H locs ls hP hS hL => lv_aload X.1 X.2.1 hd (hL.2.2.2 7 _ rfl) (k H locs ls hP hS hL)
theorem sw_istore_7 (X : sv_X G K cc own nL d) {v0 v1 v2 v3 v4 v5 v6 : Option Value} {w : Option Value} {t : List (Option Value)} {x : Int32} (hd : decode cc pc = .ok (.istore 7, 2)) (h1 : sv_c1 v6) (k : sw_W G K nL (pc + 2) (v0 :: v1 :: v2 :: v3 :: v4 :: v5 :: v6 :: some (.int x) :: t) rest M) : sw_W G K nL pc (v0 :: v1 :: v2 :: v3 :: v4 :: v5 :: v6 :: w :: t) (.int x :: rest) M := fun H locs ls hP hS hL => lv_istore X.1 X.2.1 hd (sv_L_has hL) (sv_L_lt hL (i := 7) (by simp)) rfl (fun ls2 h2 => k H locs ls2 hP hS (sv_L_set (w := .int x) hL h2 (i := 7) (by simp) rfl (sv_c1_no (k0 := 6) rfl h1)))
theorem sw_astore_7 (X : sv_X G K cc own nL d) {v0 v1 v2 v3 v4 v5 v6 : Option Value} {w : Option Value} {t : List (Option Value)} {x : Nat} (hd : decode cc pc = .ok (.astore 7, 2)) (h1 : sv_c1 v6) (k : sw_W G K nL (pc + 2) (v0 :: v1 :: v2 :: v3 :: v4 :: v5 :: v6 :: some (.ref x) :: t) rest M) : sw_W G K nL pc (v0 :: v1 :: v2 :: v3 :: v4 :: v5 :: v6 :: w :: t) (.ref x :: rest) M := fun H locs ls hP hS hL => lv_astore X.1 X.2.1 hd (sv_L_has hL) (sv_L_lt hL (i := 7) (by simp)) rfl (fun ls2 h2 => k H locs ls2 hP hS (sv_L_set (w := .ref x) hL h2 (i := 7) (by simp) rfl (sv_c1_no (k0 := 6) rfl h1)))
theorem sw_iinc_7 (X : sv_X G K cc own nL d) {v0 v1 v2 v3 v4 v5 v6 : Option Value} {t : List (Option Value)} {n : Int} {x : Int32} (v : Int32) (hd : decode cc pc = .ok (.iinc 7 n, 3)) (hv : x + Int32.ofInt n = v) (h1 : sv_c1 v6) (k : sw_W G K nL (pc + 3) (v0 :: v1 :: v2 :: v3 :: v4 :: v5 :: v6 :: some (.int v) :: t) rest M) : sw_W G K nL pc (v0 :: v1 :: v2 :: v3 :: v4 :: v5 :: v6 :: some (.int x) :: t) rest M := fun H locs ls hP hS hL => by
  obtain ⟨q, hq⟩ := sv_L_place hL (i := 7) (v := .int x) rfl
  exact lv_iinc X.1 X.2.1 hd (sv_L_has hL) hq hv (sv_L_lt hL (i := 7) (by simp)) rfl (fun ls2 h2 => k H locs ls2 hP hS (sv_L_set (w := .int v) hL h2 (i := 7) (by simp) rfl (sv_c1_no (k0 := 6) rfl h1)))
theorem sw_drop_7 {v0 v1 v2 v3 v4 v5 v6 : Option Value} {w : Option Value} {t : List (Option Value)} (k : sw_W G K nL pc (v0 :: v1 :: v2 :: v3 :: v4 :: v5 :: v6 :: none :: t) rest M) : sw_W G K nL pc (v0 :: v1 :: v2 :: v3 :: v4 :: v5 :: v6 :: w :: t) rest M := fun H locs ls hP hS hL => k H locs ls hP hS (sv_L_drop hL 7 rfl)
theorem sw_iload_8 (X : sv_X G K cc own nL d) {v0 v1 v2 v3 v4 v5 v6 v7 : Option Value} {t : List (Option Value)} {x : Int32} (hd : decode cc pc = .ok (.iload 8, 2)) (k : sw_W G K nL (pc + 2) (v0 :: v1 :: v2 :: v3 :: v4 :: v5 :: v6 :: v7 :: some (.int x) :: t) (.int x :: rest) M) : sw_W G K nL pc (v0 :: v1 :: v2 :: v3 :: v4 :: v5 :: v6 :: v7 :: some (.int x) :: t) rest M := fun H locs ls hP hS hL => lv_iload X.1 X.2.1 hd (hL.2.2.2 8 _ rfl) (k H locs ls hP hS hL)
theorem sw_aload_8 (X : sv_X G K cc own nL d) {v0 v1 v2 v3 v4 v5 v6 v7 : Option Value} {t : List (Option Value)} {x : Nat} (hd : decode cc pc = .ok (.aload 8, 2)) (k : sw_W G K nL (pc + 2) (v0 :: v1 :: v2 :: v3 :: v4 :: v5 :: v6 :: v7 :: some (.ref x) :: t) (.ref x :: rest) M) : sw_W G K nL pc (v0 :: v1 :: v2 :: v3 :: v4 :: v5 :: v6 :: v7 :: some (.ref x) :: t) rest M := fun H locs ls hP hS hL => lv_aload X.1 X.2.1 hd (hL.2.2.2 8 _ rfl) (k H locs ls hP hS hL)
theorem sw_istore_8 (X : sv_X G K cc own nL d) {v0 v1 v2 v3 v4 v5 v6 v7 : Option Value} {w : Option Value} {t : List (Option Value)} {x : Int32} (hd : decode cc pc = .ok (.istore 8, 2)) (h1 : sv_c1 v7) (k : sw_W G K nL (pc + 2) (v0 :: v1 :: v2 :: v3 :: v4 :: v5 :: v6 :: v7 :: some (.int x) :: t) rest M) : sw_W G K nL pc (v0 :: v1 :: v2 :: v3 :: v4 :: v5 :: v6 :: v7 :: w :: t) (.int x :: rest) M := fun H locs ls hP hS hL => lv_istore X.1 X.2.1 hd (sv_L_has hL) (sv_L_lt hL (i := 8) (by simp)) rfl (fun ls2 h2 => k H locs ls2 hP hS (sv_L_set (w := .int x) hL h2 (i := 8) (by simp) rfl (sv_c1_no (k0 := 7) rfl h1)))
theorem sw_astore_8 (X : sv_X G K cc own nL d) {v0 v1 v2 v3 v4 v5 v6 v7 : Option Value} {w : Option Value} {t : List (Option Value)} {x : Nat} (hd : decode cc pc = .ok (.astore 8, 2)) (h1 : sv_c1 v7) (k : sw_W G K nL (pc + 2) (v0 :: v1 :: v2 :: v3 :: v4 :: v5 :: v6 :: v7 :: some (.ref x) :: t) rest M) : sw_W G K nL pc (v0 :: v1 :: v2 :: v3 :: v4 :: v5 :: v6 :: v7 :: w :: t) (.ref x :: rest) M := fun H locs ls hP hS hL => lv_astore X.1 X.2.1 hd (sv_L_has hL) (sv_L_lt hL (i := 8) (by simp)) rfl (fun ls2 h2 => k H locs ls2 hP hS (sv_L_set (w := .ref x) hL h2 (i := 8) (by simp) rfl (sv_c1_no (k0 := 7) rfl h1)))
theorem sw_iinc_8 (X : sv_X G K cc own nL d) {v0 v1 v2 v3 v4 v5 v6 v7 : Option Value} {t : List (Option Value)} {n : Int} {x : Int32} (v : Int32) (hd : decode cc pc = .ok (.iinc 8 n, 3)) (hv : x + Int32.ofInt n = v) (h1 : sv_c1 v7) (k : sw_W G K nL (pc + 3) (v0 :: v1 :: v2 :: v3 :: v4 :: v5 :: v6 :: v7 :: some (.int v) :: t) rest M) : sw_W G K nL pc (v0 :: v1 :: v2 :: v3 :: v4 :: v5 :: v6 :: v7 :: some (.int x) :: t) rest M := fun H locs ls hP hS hL => by
  obtain ⟨q, hq⟩ := sv_L_place hL (i := 8) (v := .int x) rfl
  exact lv_iinc X.1 X.2.1 hd (sv_L_has hL) hq hv (sv_L_lt hL (i := 8) (by simp)) rfl (fun ls2 h2 => k H locs ls2 hP hS (sv_L_set (w := .int v) hL h2 (i := 8) (by simp) rfl (sv_c1_no (k0 := 7) rfl h1)))
theorem sw_drop_8 {v0 v1 v2 v3 v4 v5 v6 v7 : Option Value} {w : Option Value} {t : List (Option Value)} (k : sw_W G K nL pc (v0 :: v1 :: v2 :: v3 :: v4 :: v5 :: v6 :: v7 :: none :: t) rest M) : sw_W G K nL pc (v0 :: v1 :: v2 :: v3 :: v4 :: v5 :: v6 :: v7 :: w :: t) rest M := fun H locs ls hP hS hL => k H locs ls hP hS (sv_L_drop hL 8 rfl)
end SWP
end
section
section SWM
variable {G : sv_G} {K : sv_K} {cc : ByteArray} {own : String} {nL d : Nat} {M : sv_Mem} {pc : Nat} {lo : List (Option Value)} {rest : List Value} {k i j : Nat}
theorem sw_get (X : sv_X G K cc own nL d) (hv : sv_V k i j) {ref C : String} {T : u_T} {N ci index : Nat} {fs : List Value} (he : sv_ent G M k i j = .inr (ci, fs)) (hc : vwCl[ci]? = some (C, T, N)) (hin : ∀ w ∈ u_ws C T N, w ∈ lw_g) (q : Nat) (hq : q < N) (hlink : Cond.fieldLink own index ref (T q).2.1 (T q).2.2.1 ∈ lw_g) (hr : ref = (T q).1) {v : Value} (hf : fs[q]? = some v)
    (hd : decode cc pc = .ok (.getfield index, 3)) (kk : sw_W G K nL (pc + 3) lo (v :: rest) M) : sw_W G K nL pc lo (.ref (sv_ad G k i j) :: rest) M := by
  intro H locs ls hP hS hL
  exact va_get X.1 X.2.1 X.2.2.2.2.1 hin (sv_X_own X) (sv_X_K X) hP (sv_off k i j) ((sv_cells_at hv).trans (by rw [he])) hc q hq (sv_X_word X hlink) (fun x hx => hr ▸ hx) hf hd (kk H locs ls hP hS hL)
theorem sw_getN (X : sv_X G K cc own nL d) (hv : sv_V k i j) {ref C host : String} {T : u_T} {N ci index : Nat} {fs : List Value} (he : sv_ent G M k i j = .inr (ci, fs)) (hc : vwCl[ci]? = some (C, T, N)) (hin : ∀ w ∈ u_ws C T N, w ∈ lw_g) (q : Nat) (hq : q < N) (hlink : Cond.fieldLinkNest own index ref (T q).2.1 (T q).2.2.1 host ∈ lw_g) (hr : ref = (T q).1) {v : Value} (hf : fs[q]? = some v)
    (hd : decode cc pc = .ok (.getfield index, 3)) (kk : sw_W G K nL (pc + 3) lo (v :: rest) M) : sw_W G K nL pc lo (.ref (sv_ad G k i j) :: rest) M := by
  intro H locs ls hP hS hL
  exact va_getN X.1 X.2.1 X.2.2.2.2.1 hin (sv_X_own X) (sv_X_K X) hP (sv_off k i j) ((sv_cells_at hv).trans (by rw [he])) hc q hq (sv_X_word X hlink) (fun x hx => hr ▸ hx) hf hd (kk H locs ls hP hS hL)
theorem sw_put (X : sv_X G K cc own nL d) (hv : sv_V k i j) {ref C : String} {T : u_T} {N ci index : Nat} {fs : List Value} (he : sv_ent G M k i j = .inr (ci, fs)) (hc : vwCl[ci]? = some (C, T, N)) (hin : ∀ w ∈ u_ws C T N, w ∈ lw_g) (ty0 : Nat → FieldType) (hty : ∀ k, k < N → parseFieldDescriptor (T k).2.2.1 = some (ty0 k)) (hnm : ∀ a, a < N → ∀ b, b < N → a ≠ b → (T a).2.1 ≠ (T b).2.1)
    (q : Nat) (hq : q < N) (hlink : Cond.fieldLink own index ref (T q).2.1 (T q).2.2.1 ∈ lw_g) (hr : ref = (T q).1) (hfin : (T q).2.2.2 = false) {ty : FieldType} {x : Int32} (hdsc : parseFieldDescriptor (T q).2.2.1 = some ty) (hn : narrow ty (.int x) = .int x) (hfit : fits ty (.int x) = true) (hlen : q < fs.length) (he2 : sv_ent G (sv_up M i k j q x) k i j = .inr (ci, fs.set q (.int x)))
    (hd : decode cc pc = .ok (.putfield index, 3)) (kk : sw_W G K nL (pc + 3) lo rest (sv_up M i k j q x)) : sw_W G K nL pc lo (.int x :: .ref (sv_ad G k i j) :: rest) M := by
  intro H locs ls hP hS hL
  refine va_put X.1 X.2.1 X.2.2.2.2.1 hin ty0 hty hnm (sv_X_own X) (sv_X_K X) hP (sv_cells_D (sv_X_A X)) hS (sv_off k i j) ((sv_cells_at hv).trans (by rw [he])) hc q hq (sv_X_word X hlink) (fun x hx => hr ▸ hx) hfin hdsc hn hfit hlen hd (fun H1 locs1 hP1 _ hS1 => ?_)
  rw [← he2, sv_cells_set hv (sv_up_ne M i k j q x)] at hP1
  exact kk H1 locs1 ls hP1 hS1 hL
theorem sw_putN (X : sv_X G K cc own nL d) (hv : sv_V k i j) {ref C host : String} {T : u_T} {N ci index : Nat} {fs : List Value} (he : sv_ent G M k i j = .inr (ci, fs)) (hc : vwCl[ci]? = some (C, T, N)) (hin : ∀ w ∈ u_ws C T N, w ∈ lw_g) (ty0 : Nat → FieldType) (hty : ∀ k, k < N → parseFieldDescriptor (T k).2.2.1 = some (ty0 k)) (hnm : ∀ a, a < N → ∀ b, b < N → a ≠ b → (T a).2.1 ≠ (T b).2.1)
    (q : Nat) (hq : q < N) (hlink : Cond.fieldLinkNest own index ref (T q).2.1 (T q).2.2.1 host ∈ lw_g) (hr : ref = (T q).1) (hfin : (T q).2.2.2 = false) {ty : FieldType} {x : Int32} (hdsc : parseFieldDescriptor (T q).2.2.1 = some ty) (hn : narrow ty (.int x) = .int x) (hfit : fits ty (.int x) = true) (hlen : q < fs.length) (he2 : sv_ent G (sv_up M i k j q x) k i j = .inr (ci, fs.set q (.int x)))
    (hd : decode cc pc = .ok (.putfield index, 3)) (kk : sw_W G K nL (pc + 3) lo rest (sv_up M i k j q x)) : sw_W G K nL pc lo (.int x :: .ref (sv_ad G k i j) :: rest) M := by
  intro H locs ls hP hS hL
  refine va_putN X.1 X.2.1 X.2.2.2.2.1 hin ty0 hty hnm (sv_X_own X) (sv_X_K X) hP (sv_cells_D (sv_X_A X)) hS (sv_off k i j) ((sv_cells_at hv).trans (by rw [he])) hc q hq (sv_X_word X hlink) (fun x hx => hr ▸ hx) hfin hdsc hn hfit hlen hd (fun H1 locs1 hP1 _ hS1 => ?_)
  rw [← he2, sv_cells_set hv (sv_up_ne M i k j q x)] at hP1
  exact kk H1 locs1 ls hP1 hS1 hL
theorem sv_in {x : Int32} {n N : Nat} (hx : x = nI n) (hn : n < N) (hN : N ≤ 5000) : vp_in x N ∧ x.toNatClampNeg = n := by
  subst hx
  exact ⟨vp_in_nI hn (by omega), nI_clamp (by omega)⟩
theorem sw_iald (X : sv_X G K cc own nL d) (hv : sv_V k i j) {N : Nat} (he : sv_ent G M k i j = .inl (sv_cI G, N, .inl (M i k j))) {x : Int32} {n : Nat} (hx : x = nI n) (hn : n < N) (hN : N ≤ 5000) (hd : decode cc pc = .ok (.iaload, 1))
    (kk : sw_W G K nL (pc + 1) lo (.int (M i k j n) :: rest) M) : sw_W G K nL pc lo (.int x :: .ref (sv_ad G k i j) :: rest) M := by
  intro H locs ls hP hS hL
  obtain ⟨h1, h2⟩ := sv_in hx hn hN
  refine va_iald X.1 X.2.1 (sv_X_K X) hP (sv_off k i j) 0 ((sv_cells_at hv).trans (by rw [he])) rfl h1 hd ?_
  rw [h2]
  exact kk H locs ls hP hS hL
theorem sw_cald (X : sv_X G K cc own nL d) (hv : sv_V k i j) {N : Nat} (he : sv_ent G M k i j = .inl (sv_cC G, N, .inl (M i k j))) {x : Int32} {n : Nat} (hx : x = nI n) (hn : n < N) (hN : N ≤ 5000) (hd : decode cc pc = .ok (.caload, 1))
    (kk : sw_W G K nL (pc + 1) lo (.int (M i k j n) :: rest) M) : sw_W G K nL pc lo (.int x :: .ref (sv_ad G k i j) :: rest) M := by
  intro H locs ls hP hS hL
  obtain ⟨h1, h2⟩ := sv_in hx hn hN
  refine va_cald X.1 X.2.1 (sv_X_K X) hP (sv_off k i j) 1 ((sv_cells_at hv).trans (by rw [he])) rfl h1 hd ?_
  rw [h2]
  exact kk H locs ls hP hS hL
theorem sw_iast (X : sv_X G K cc own nL d) (hv : sv_V k i j) {N : Nat} (he : ∀ M : sv_Mem, sv_ent G M k i j = .inl (sv_cI G, N, .inl (M i k j))) {x v : Int32} {n : Nat} (hx : x = nI n) (hn : n < N) (hN : N ≤ 5000) (hd : decode cc pc = .ok (.iastore, 1))
    (kk : sw_W G K nL (pc + 1) lo rest (sv_up M i k j n v)) : sw_W G K nL pc lo (.int v :: .int x :: .ref (sv_ad G k i j) :: rest) M := by
  intro H locs ls hP hS hL
  obtain ⟨h1, h2⟩ := sv_in hx hn hN
  refine va_iast X.1 X.2.1 (sv_X_K X) hP (sv_cells_D (sv_X_A X)) hS (sv_off k i j) 0 ((sv_cells_at hv).trans (by rw [he])) rfl h1 hd (fun H1 locs1 hP1 _ hS1 => ?_)
  rw [h2, show upd (M i k j) n v = sv_up M i k j n v i k j from (sv_up_at M i k j n v).symm, ← he, sv_cells_set hv (sv_up_ne M i k j n v)] at hP1
  exact kk H1 locs1 ls hP1 hS1 hL
theorem sw_cast (X : sv_X G K cc own nL d) (hv : sv_V k i j) {N : Nat} (he : ∀ M : sv_Mem, sv_ent G M k i j = .inl (sv_cC G, N, .inl (M i k j))) {x v : Int32} {n : Nat} (hx : x = nI n) (hn : n < N) (hN : N ≤ 5000) (hvn : vp_nar .char v = v) (hd : decode cc pc = .ok (.castore, 1))
    (kk : sw_W G K nL (pc + 1) lo rest (sv_up M i k j n v)) : sw_W G K nL pc lo (.int v :: .int x :: .ref (sv_ad G k i j) :: rest) M := by
  intro H locs ls hP hS hL
  obtain ⟨h1, h2⟩ := sv_in hx hn hN
  refine va_cast X.1 X.2.1 (sv_X_K X) hP (sv_cells_D (sv_X_A X)) hS (sv_off k i j) 1 ((sv_cells_at hv).trans (by rw [he])) rfl h1 hd (fun H1 locs1 hP1 _ hS1 => ?_)
  rw [h2, hvn, show upd (M i k j) n v = sv_up M i k j n v i k j from (sv_up_at M i k j n v).symm, ← he, sv_cells_set hv (sv_up_ne M i k j n v)] at hP1
  exact kk H1 locs1 ls hP1 hS1 hL
/-- transactions[n] of a State -/
theorem sw_aaldT (X : sv_X G K cc own nL d) (hi : i < 8) {x : Int32} {n : Nat} (hx : x = nI n) (hn : n < 3) (hd : decode cc pc = .ok (.aaload, 1))
    (kk : sw_W G K nL (pc + 1) lo (.ref (sv_ad G 14 i n) :: rest) M) : sw_W G K nL pc lo (.int x :: .ref (sv_ad G 12 i 0) :: rest) M := by
  intro H locs ls hP hS hL
  obtain ⟨h1, h2⟩ := sv_in hx hn (by omega)
  refine va_aldq X.1 X.2.1 (sv_X_K X) hP (sv_off 12 i 0) 2 (C := "SavepointStore$Transaction") (cA := sv_cT G) (n := 3) (f := fun q => some (sv_ad G 14 i q)) (sv_cells_at (by omega)) rfl h1 hd ?_
  rw [h2]
  exact kk H locs ls hP hS hL
/-- history[n] of the store -/
theorem sw_aaldS (X : sv_X G K cc own nL d) {x : Int32} {n : Nat} (hx : x = nI n) (hn : n < 6) (hd : decode cc pc = .ok (.aaload, 1))
    (kk : sw_W G K nL (pc + 1) lo (.ref (sv_ad G 10 (n + 2) 0) :: rest) M) : sw_W G K nL pc lo (.int x :: .ref (sv_ad G 1 8 0) :: rest) M := by
  intro H locs ls hP hS hL
  obtain ⟨h1, h2⟩ := sv_in hx hn (by omega)
  refine va_aldq X.1 X.2.1 (sv_X_K X) hP (sv_off 1 8 0) 3 (C := "SavepointStore$State") (cA := sv_cS G) (n := 6) (f := fun q => some (sv_ad G 10 (q + 2) 0)) (sv_cells_at (by omega)) rfl h1 hd ?_
  rw [h2]
  exact kk H locs ls hP hS hL
/-- System.arraycopy between two rows of ints -/
theorem sw_copy (X : sv_X G K cc own nL d) {index : Nat} {i2 j2 : Nat} (hv : sv_V k i j) (hv2 : sv_V k i2 j2) {N : Nat} (he : ∀ (M : sv_Mem) (i j : Nat), sv_ent G M k i j = .inl (sv_cI G, N, .inl (M i k j))) {x : Int32} {n : Nat} (hx : x = nI n) (hn : n ≤ N) (hN : N ≤ 5000)
    (hlink : Cond.methodLink own index arraycopyName ∈ lw_g) (hnat : Cond.native arraycopyName ∈ lw_g) (hst : Cond.static arraycopyName ∈ lw_g) (hini : Cond.initialized "java/lang/System" ∈ lw_g) (hd1 : 1 ≤ d) (hrest : (rest.map fun v => v.category).sum ≤ 8) (hd : decode cc pc = .ok (.invokestatic index, 3))
    (kk : sw_W G K nL (pc + 3) lo rest (sv_upA M i2 k j2 (va_cpy (M i k j) (M i2 k j2) 0 0 n))) : sw_W G K nL pc lo (.int x :: .int (nI 0) :: .ref (sv_ad G k i2 j2) :: .int (nI 0) :: .ref (sv_ad G k i j) :: rest) M := by
  intro H locs ls hP hS hL
  obtain ⟨r1, r2, r3, r4⟩ := sv_X_R X
  have hxn : x.toNatClampNeg = n := by rw [hx]; exact nI_clamp (by omega)
  have h0 : (nI 0).toNatClampNeg = 0 := nI_clamp (by decide)
  refine va_copyi X.1 X.2.1 (X.2.2.1.trans hL.1.symm) (sv_X_own X) (sv_X_word X hlink) (sv_X_word X hnat) (sv_X_word X hst) (sv_X_word X hini) (sv_X_K X) hP (sv_cells_D (sv_X_A X)) hS (sv_off k i j) (sv_off k i2 j2) 0 0 (ty := .int)
    ((sv_cells_at hv).trans (by rw [he])) ((sv_cells_at hv2).trans (by rw [he])) rfl rfl rfl (by decide) (by decide) (by rw [hx]; exact nI_pos (by omega)) (by rw [h0, hxn]; omega) (by rw [h0, hxn]; omega) (fun _ _ => rfl) (by omega) ?_ hd (fun H1 locs1 hP1 _ hS1 => ?_)
  · have : nativeFrameWords "java/lang/System" "arraycopy" 5 + 11 ≤ 28 := by decide +kernel
    omega
  · rw [h0, hxn, show va_cpy (M i k j) (M i2 k j2) 0 0 n = sv_upA M i2 k j2 (va_cpy (M i k j) (M i2 k j2) 0 0 n) i2 k j2 from (sv_upA_at M i2 k j2 _).symm, ← he, sv_cells_set hv2 (sv_upA_ne M i2 k j2 _)] at hP1
    exact kk H1 locs1 ls hP1 hS1 hL
theorem sw_mmax (X : sv_X G K cc own nL d) {index : Nat} {x y : Int32} (hlink : Cond.methodLink own index Lib.Math.max.name ∈ lw_g) (hst : Cond.static Lib.Math.max.name ∈ lw_g) (hini : Cond.initialized "java/lang/Math" ∈ lw_g) (hcode : Cond.code Lib.Math.max.name Lib.Math.max.code 2 (some .int) ∈ lw_g) (hd1 : 1 ≤ d) (hrest : (rest.map fun v => v.category).sum ≤ 8) (hd : decode cc pc = .ok (.invokestatic index, 3))
    (kk : sw_W G K nL (pc + 3) lo (.int (if x < y then y else x) :: rest) M) : sw_W G K nL pc lo (.int y :: .int x :: rest) M := by
  intro H locs ls hP hS hL
  obtain ⟨r1, r2, r3, r4⟩ := sv_X_R X
  exact va_mmax X.1 X.2.1 (X.2.2.1.trans hL.1.symm) (sv_X_own X) (sv_X_word X hlink) (sv_X_word X hst) (sv_X_word X hini) (sv_X_word X hcode) (by omega) (by omega) r3 r4 hd (kk H locs ls hP hS hL)
theorem sw_mmin (X : sv_X G K cc own nL d) {index : Nat} {x y : Int32} (hlink : Cond.methodLink own index Lib.Math.min.name ∈ lw_g) (hst : Cond.static Lib.Math.min.name ∈ lw_g) (hini : Cond.initialized "java/lang/Math" ∈ lw_g) (hcode : Cond.code Lib.Math.min.name Lib.Math.min.code 2 (some .int) ∈ lw_g) (hd1 : 1 ≤ d) (hrest : (rest.map fun v => v.category).sum ≤ 8) (hd : decode cc pc = .ok (.invokestatic index, 3))
    (kk : sw_W G K nL (pc + 3) lo (.int (if y < x then y else x) :: rest) M) : sw_W G K nL pc lo (.int y :: .int x :: rest) M := by
  intro H locs ls hP hS hL
  obtain ⟨r1, r2, r3, r4⟩ := sv_X_R X
  exact va_mmin X.1 X.2.1 (X.2.2.1.trans hL.1.symm) (sv_X_own X) (sv_X_word X hlink) (sv_X_word X hst) (sv_X_word X hini) (sv_X_word X hcode) (by omega) (by omega) r3 r4 hd (kk H locs ls hP hS hL)
end SWM
section SWC
variable {G : sv_G} {K : sv_K} {cc : ByteArray} {own : String} {nL d : Nat} {M M1 : sv_Mem} {pc : Nat} {lo : List (Option Value)} {rest : List Value} {k i j : Nat}
/-- the words of a method that any caller needs -/
def sv_MW (m : sv_M) : Prop := Cond.code m.1 m.2.1 m.2.2.1 m.2.2.2 ∈ lw_g ∧ Cond.initialized m.1.cls ∈ lw_g ∧ m.2.2.1 ≤ 17 ∧ (m.1.cls ≠ "java/lang/invoke/MethodHandle" ∧ m.1.cls ≠ "java/lang/invoke/VarHandle")
theorem sv_good {m : sv_M} (h : sv_MW m) : GoodIn lw_g (sv_ws m) := by
  intro w hw
  rcases List.mem_cons.mp hw with rfl | hw
  · exact ⟨h.1, good_of_word (List.mem_filter.mp h.1).2⟩
  · exact ⟨hw, good_of_word (List.mem_filter.mp hw).2⟩
theorem sv_blind {G : sv_G} {args : List Value} {M : sv_Mem} : FrameBlind (sv_Pc G args M) := fun a U g mk q => ⟨q.1, q.2.1, va_K.moved (u := U) (U := U.calling g mk a) (Vm.Alike.refl U.vm) q.2.2⟩
theorem sw_run (X : sv_X G K cc own nL d) {st : List Value} {ret : Option Value} {a : Array Value} (hr : ∀ H locs ls, va_P G.2.2.1 vwCl (sv_cells G M) H → sv_L ls nL lo → va_Run (kp K) G.1 (ke K) (kR K) (ks K) (km K) (kargs K) (kbelow K) (kmeth K) (kc K) H locs (kcells K) (kslots K) 0 0 (F0 (km K) pc ls st) rest (sv_Qc G ret M1 a) (fun q => G.2.1 ≤ q))
    (kk : sw_W G K nL (pc + 3) lo (ret.toList ++ rest) M1) : sw_W G K nL pc lo st M := by
  intro H locs ls hP hS hL T hT XX
  obtain ⟨v, st₀, t, T', L, h0, X', hLf, e1, e2, ⟨hv, hp, hz, hk⟩, stp⟩ := hr H locs ls hP hL T hT XX
  cases hv
  rw [h0] at hz hk
  obtain ⟨t2, a1, b1⟩ := kk T'.heap (locs ++ L) ls (by rw [e1]; exact hp) ⟨Nat.le_trans hS.1 (by rw [e1]; exact hz), fun q h1 h2 => by rw [e1, hk q (Nat.lt_of_lt_of_le h1 hS.1) (fun z => h2 (sv_X_A X q z))]; exact hS.2.1 q h1 h2, fun q hq => by
      rcases List.mem_append.mp hq with h | h
      · exact hS.2.2 q h
      · exact sv_X_A X _ (hLf q h)⟩ hL T' rfl X'
  exact ⟨t2, stp t2 a1, b1⟩
theorem sv_pre (X : sv_X G K cc own nL d) {H : Heap} {as : List Value} (hP : va_P G.2.2.1 vwCl (sv_cells G M) H) : ∀ U : State, U.heap = H → (ks K).WarmedH U.vm → sv_Pc G as M as.toArray U := fun U hU hW => ⟨rfl, by rw [hU]; exact hP, va_K.moved hW.alike (sv_X_K X)⟩
variable {m : sv_M} {d2 n index : Nat} {As : List Value} {ret : Option Value} {ci : Nat} {r : vw_C} {fs : List Value}
theorem sv_cnt (h : (parseMethodDescriptor m.1.desc).map (fun q => q.parameters.length) = some n) : ∀ sig, parseMethodDescriptor m.1.desc = some sig → n = sig.parameters.length := by
  intro sig h2
  rw [h2] at h
  exact (Option.some.inj h).symm
theorem sv_fit (X : sv_X G K cc own nL d) (h : sv_MW m) (hdd : d2 + 1 ≤ d) : (sv_room d2).frames + 1 ≤ (kR K).frames ∧ 8 + (m.2.2.1 + 11) + (sv_room d2).locals ≤ (kR K).locals := by
  obtain ⟨r1, r2, r3, r4⟩ := sv_X_R X
  obtain ⟨-, -, h3, -⟩ := h
  unfold sv_room
  constructor
  · show d2 + 1 ≤ _
    omega
  · show 8 + (m.2.2.1 + 11) + 36 * d2 ≤ _
    omega
theorem sv_B (X : sv_X G K cc own nL d) (hm : sv_MW m) (hn : (parseMethodDescriptor m.1.desc).map (fun q => q.parameters.length) = some n) (hl : Cond.methodLink own index m.1 ∈ lw_g) (hdd : d2 + 1 ≤ d) : CallB (kR K) (ks K) (kargs K) own index m.1 m.2.1 m.2.2.1 m.2.2.2 (sv_ws m) (sv_room d2) 0 0 n :=
  callB_of (ws' := lw_g) n X.2.2.2.2.1 (sv_good hm) rfl rfl rfl (sv_X_word X hm.2.1) (sv_X_word X hl) ⟨hm.2.2.2.1, hm.2.2.2.2, hn⟩ (sv_fit X hm hdd)
theorem sv_N (X : sv_X G K cc own nL d) {host : String} (hm : sv_MW m) (hn : (parseMethodDescriptor m.1.desc).map (fun q => q.parameters.length) = some n) (hl : Cond.methodLinkNest own index m.1 host ∈ lw_g) (hdd : d2 + 1 ≤ d) : va_CN (kR K) (ks K) (kargs K) own index m.1 host m.2.1 m.2.2.1 m.2.2.2 (sv_ws m) (sv_room d2) 0 0 n :=
  ⟨⟨rfl, rfl, (sv_fit X hm hdd).1, (sv_fit X hm hdd).2, pay_in X.2.2.2.2.1 (sv_good hm), List.mem_cons_self⟩, sv_X_word X hm.1, sv_X_word X hm.2.1, hm.2.2.2, sv_cnt hn, sv_X_word X hl⟩
/-- invokevirtual of a method of the receiver's own class -/
theorem sw_callV (X : sv_X G K cc own nL d) (hm : sv_MW m) (hv : sv_V k i j) (he : sv_ent G M k i j = .inr (ci, fs)) (hc : vwCl[ci]? = some r) (hrc : r.1 = m.1.cls) (hn : (parseMethodDescriptor m.1.desc).map (fun q => q.parameters.length) = some n) (hAs : As.length = n) (hl : Cond.methodLink own index m.1 ∈ lw_g) (hin : Cond.instanceMethod m.1 ∈ lw_g) (hse : Cond.selects m.1.cls m.1 m.1 ∈ lw_g) (hdd : d2 + 1 ≤ d)
    (hd : decode cc pc = .ok (.invokevirtual index, 3)) (hw : (rest.map fun v => v.category).sum ≤ 8) {st : List Value} (hst : st = As.reverse ++ .ref (sv_ad G k i j) :: rest) (hM : sv_Ct G m d2 (.ref (sv_ad G k i j) :: As) M ret M1) (kk : sw_W G K nL (pc + 3) lo (ret.toList ++ rest) M1) : sw_W G K nL pc lo st M := by
  refine sw_run X (fun H locs ls hP hL => va_runV (As := As) (rest := rest) (C := m.1.cls) ⟨X.1, X.2.1, X.2.2.1, sv_X_own X, X.2.2.2.2.1⟩ hM ⟨sv_B X hm hn hl hdd, sv_X_word X hin, sv_X_word X hse⟩ ⟨sv_blind, ?_, sv_pre X hP⟩ rfl hAs hL.1 hst (lv_room hw) hd ⟨(sv_X_R X).2.2.1, (sv_X_R X).2.2.2⟩) kk
  rw [← hrc]
  exact va_recv (sv_X_K X) hP (q0 := sv_off k i j) hc ((sv_cells_at hv).trans (by rw [he]))
theorem sw_callVN (X : sv_X G K cc own nL d) {host : String} (hm : sv_MW m) (hv : sv_V k i j) (he : sv_ent G M k i j = .inr (ci, fs)) (hc : vwCl[ci]? = some r) (hrc : r.1 = m.1.cls) (hn : (parseMethodDescriptor m.1.desc).map (fun q => q.parameters.length) = some n) (hAs : As.length = n) (hl : Cond.methodLinkNest own index m.1 host ∈ lw_g) (hin : Cond.instanceMethod m.1 ∈ lw_g) (hse : Cond.selects m.1.cls m.1 m.1 ∈ lw_g) (hdd : d2 + 1 ≤ d)
    (hd : decode cc pc = .ok (.invokevirtual index, 3)) (hw : (rest.map fun v => v.category).sum ≤ 8) {st : List Value} (hst : st = As.reverse ++ .ref (sv_ad G k i j) :: rest) (hM : sv_Ct G m d2 (.ref (sv_ad G k i j) :: As) M ret M1) (kk : sw_W G K nL (pc + 3) lo (ret.toList ++ rest) M1) : sw_W G K nL pc lo st M := by
  refine sw_run X (fun H locs ls hP hL => va_runVN (As := As) (rest := rest) (C := m.1.cls) ⟨X.1, X.2.1, X.2.2.1, sv_X_own X, X.2.2.2.2.1⟩ hM ⟨sv_N X hm hn hl hdd, sv_X_word X hin, sv_X_word X hse⟩ ⟨sv_blind, ?_, sv_pre X hP⟩ rfl hAs hL.1 hst (lv_room hw) hd ⟨(sv_X_R X).2.2.1, (sv_X_R X).2.2.2⟩) kk
  rw [← hrc]
  exact va_recv (sv_X_K X) hP (q0 := sv_off k i j) hc ((sv_cells_at hv).trans (by rw [he]))
theorem sw_callS (X : sv_X G K cc own nL d) (hm : sv_MW m) (hn : (parseMethodDescriptor m.1.desc).map (fun q => q.parameters.length) = some n) (hAs : As.length = n) (hl : Cond.methodLink own index m.1 ∈ lw_g) (hs : Cond.static m.1 ∈ lw_g) (hdd : d2 + 1 ≤ d)
    (hd : decode cc pc = .ok (.invokestatic index, 3)) (hw : (rest.map fun v => v.category).sum ≤ 8) {st : List Value} (hst : st = As.reverse ++ rest) (hM : sv_Ct G m d2 As M ret M1) (kk : sw_W G K nL (pc + 3) lo (ret.toList ++ rest) M1) : sw_W G K nL pc lo st M :=
  sw_run X (fun H locs ls hP hL => va_runS (As := As) (rest := rest) ⟨X.1, X.2.1, X.2.2.1, sv_X_own X, X.2.2.2.2.1⟩ hM ⟨sv_B X hm hn hl hdd, sv_X_word X hs⟩ ⟨sv_blind, sv_pre X hP⟩ rfl hAs hL.1 hst (lv_room hw) hd ⟨(sv_X_R X).2.2.1, (sv_X_R X).2.2.2⟩) kk
theorem sw_callSN (X : sv_X G K cc own nL d) {host : String} (hm : sv_MW m) (hn : (parseMethodDescriptor m.1.desc).map (fun q => q.parameters.length) = some n) (hAs : As.length = n) (hl : Cond.methodLinkNest own index m.1 host ∈ lw_g) (hs : Cond.static m.1 ∈ lw_g) (hdd : d2 + 1 ≤ d)
    (hd : decode cc pc = .ok (.invokestatic index, 3)) (hw : (rest.map fun v => v.category).sum ≤ 8) {st : List Value} (hst : st = As.reverse ++ rest) (hM : sv_Ct G m d2 As M ret M1) (kk : sw_W G K nL (pc + 3) lo (ret.toList ++ rest) M1) : sw_W G K nL pc lo st M :=
  sw_run X (fun H locs ls hP hL => va_runSN (As := As) (rest := rest) ⟨X.1, X.2.1, X.2.2.1, sv_X_own X, X.2.2.2.2.1⟩ hM ⟨sv_N X hm hn hl hdd, sv_X_word X hs, trivial⟩ ⟨sv_blind, sv_pre X hP⟩ rfl hAs hL.1 hst (lv_room hw) hd ⟨(sv_X_R X).2.2.1, (sv_X_R X).2.2.2⟩) kk
end SWC
section SWR
variable {G : sv_G} {K : sv_K} {cc : ByteArray} {own : String} {nL d : Nat} {M M1 : sv_Mem} {pc : Nat} {lo : List (Option Value)} {ret : Option Value}
theorem sv_post {rt : Option FieldType} (Y : sv_Y G K rt ret M1) {H : Heap} {locs : List Loc} (hM : M1 = M) (hP : va_P G.2.2.1 vwCl (sv_cells G M) H) (hS : va_S (kA K) (kH K) H locs) {v : Option Value} (hr : ret = v) : ∀ t : State, t.heap = H → (ks K).WarmedH t.vm → sv_Qc G ret M1 (kargs K) (ks K) (.returned v) t := by
  intro t ht hW
  obtain ⟨-, -, -, hH, hA⟩ := Y
  rw [hH, hA] at hS
  subst hM
  exact ⟨by rw [hr], by rw [ht]; exact hP, va_S.F hS ht⟩
theorem sv_free {rt : Option FieldType} (Y : sv_Y G K rt ret M1) {H : Heap} {locs : List Loc} (hS : va_S (kA K) (kH K) H locs) : ∀ q ∈ locs, G.2.1 ≤ q.base := by
  obtain ⟨-, -, -, hH, hA⟩ := Y
  rw [hA] at hS
  exact hS.2.2
theorem sw_iret (X : sv_X G K cc own nL d) (Y : sv_Y G K (some .int) ret M1) {v : Int32} (hd : decode cc pc = .ok (.ireturn, 1)) (hr : ret = some (.int v)) (hM : M1 = M) : sw_W G K nL pc lo [.int v] M := by
  intro H locs ls hP hS hL
  rw [Y.1]
  exact W.iret X.1 X.2.1 Y.2.1 (sv_post Y hM hP hS hr) (sv_free Y hS) hd Y.2.2.1
theorem sw_zret (X : sv_X G K cc own nL d) {ty : FieldType} (Y : sv_Y G K (some ty) ret M1) {v : Int32} (hd : decode cc pc = .ok (.ireturn, 1)) (hn : narrow ty (.int v) = .int v) (hr : ret = some (.int v)) (hM : M1 = M) : sw_W G K nL pc lo [.int v] M := by
  intro H locs ls hP hS hL
  rw [Y.1]
  exact W.zret X.1 X.2.1 Y.2.1 hn (sv_post Y hM hP hS hr) (sv_free Y hS) hd Y.2.2.1
theorem sw_vret (X : sv_X G K cc own nL d) (Y : sv_Y G K none ret M1) (hd : decode cc pc = .ok (.return_, 1)) (hr : ret = none) (hM : M1 = M) : sw_W G K nL pc lo [] M := by
  intro H locs ls hP hS hL
  rw [Y.1]
  exact W.vret X.1 X.2.1 Y.2.1 (sv_post Y hM hP hS hr) (sv_free Y hS) hd Y.2.2.1
theorem sw_dret (X : sv_X G K cc own nL d) (Y : sv_Y G K (some .double) ret M1) {v : UInt64} (hd : decode cc pc = .ok (.dreturn, 1)) (hr : ret = some (.double v)) (hM : M1 = M) : sw_W G K nL pc lo [.double v] M := by
  intro H locs ls hP hS hL
  rw [Y.1]
  exact W.dret X.1 X.2.1 Y.2.1 (sv_post Y hM hP hS hr) (sv_free Y hS) hd Y.2.2.1
/-- all arguments of one slot -/
def sv_cat1 (vs : List Value) : Bool := vs.all (fun v => match v with
  | .double _ => false
  | .long _ => false
  | _ => true)
theorem sv_sl1 : ∀ {vs : List Value}, sv_cat1 vs = true → lg_sl vs = vs.map Slot.val
  | [], _ => rfl
  | v :: vs, h => by
    have h2 : sv_cat1 vs = true := by
      unfold sv_cat1 at h ⊢
      rw [List.all_cons] at h
      exact (Bool.and_eq_true_iff.mp h).2
    have h1 : ¬ v.category = 2 := by
      intro hc
      unfold sv_cat1 at h
      rw [List.all_cons] at h
      have := (Bool.and_eq_true_iff.mp h).1
      cases v <;> simp [Value.category] at hc this
    have e : lg_sl (v :: vs) = (if v.category = 2 then [.val v, .second] else [.val v]) ++ lg_sl vs := rfl
    rw [e, if_neg h1, sv_sl1 h2]
    rfl
theorem sv_entry {vs : List Value} {nL : Nat} {lo : List (Option Value)} (h1 : sv_cat1 vs = true) (hn : vs.length ≤ nL) (hlo : vs.map some ++ List.replicate (nL - vs.length) none = lo) : sv_L ((lg_sl vs ++ List.replicate (nL - (lg_sl vs).length) Slot.unset).toArray) nL lo := by
  have e := sv_sl1 h1
  have el : (lg_sl vs).length = vs.length := by rw [e, List.length_map]
  obtain ⟨a, b, -⟩ := lv_entry vs (n := nL) (by rw [el]; exact hn)
  refine ⟨a, b, by rw [← hlo]; simp; omega, fun q v hq => ?_⟩
  rw [← hlo] at hq
  rw [List.getElem?_toArray]
  by_cases hl : q < vs.length
  · rw [List.getElem?_append_left (by rw [List.length_map]; exact hl), List.getElem?_map] at hq
    rw [List.getElem?_append_left (by rw [el]; exact hl), e, List.getElem?_map]
    cases hz : vs[q]? with
    | none => rw [hz] at hq; cases hq
    | some w =>
      rw [hz] at hq
      simp only [Option.map_some, Option.some.injEq] at hq
      rw [hq]
      rfl
  · rw [List.getElem?_append_right (by rw [List.length_map]; omega)] at hq
    have := List.mem_of_getElem? hq
    rw [List.mem_replicate] at this
    cases this.2
/-- a method's contract, out of the walk of its body -/
theorem sv_Ct_of {m : sv_M} {d : Nat} {vs : List Value} {lo : List (Option Value)} (hp : plainName m.1.cls = true) (h1 : sv_cat1 vs = true) (hn : vs.length ≤ m.2.2.1) (hlo : vs.map some ++ List.replicate (m.2.2.1 - vs.length) none = lo)
    (body : ∀ K : sv_K, sv_X G K m.2.1 m.1.cls m.2.2.1 d → sv_Y G K m.2.2.2 ret M1 → sw_W G K m.2.2.1 0 lo [] M) : sv_Ct G m d vs M ret M1 := by
  refine Met.ofW (cc := m.2.1) (maxL := m.2.2.1) (ret := m.2.2.2) (ws' := lw_g) hp rfl ?_
  intro p e s mm args below meth c s₁ B hml hv
  obtain ⟨rfl, hP, hK⟩ := hv
  have hts := atoms_spec (ws := sv_ws m) B.pre
  have hown : s.vm.findClass m.1.cls = some mm.cls := findClass_of_methodNamed B.named
  have hb := body (p, e, (headSpec (sv_ws m) (sv_room d)).room, s, mm, vs.toArray, below, meth, c, s.heap, (fun q => G.2.1 ≤ q), 0, 0, MQ below (sv_Qc G ret M1) vs.toArray s 0 0 (fun q => G.2.1 ≤ q))
    ⟨B.exec, B.bytes, hml, hown, fun w hw => hts w (List.mem_cons_of_mem _ hw), hK, fun q h => h, Nat.le_refl _, Nat.le_refl _, Nat.zero_le _, Nat.zero_le _⟩ ⟨rfl, B.returns, B.notSynchronized, rfl, rfl⟩
  rw [lg_entry_eq]
  exact hb s.heap [] _ hP va_S.rf (sv_entry h1 hn hlo)
end SWR
theorem zz_test : (1:Nat) = 2 := rfl
end
