-- ===== PART A: goes FIRST, ahead of the names: the tables' words, and 'selects' of the private methods out of them =====
/-- a private method of a class that the tables say can be made, by its rows of tables_1 -/
def lw_okq (q : MethodName × Nat) : Prop := (q.1.cls ≠ "java/lang/invoke/MethodHandle" ∧ q.1.cls ≠ "java/lang/invoke/VarHandle") ∧ Cond.instantiable q.1.cls q.2 ∈ tables_1 ∧ Cond.privateMethod q.1 ∈ tables_1 ∧ Cond.instanceMethod q.1 ∈ tables_1
theorem lw_p0 : lw_okq (⟨"SavepointStore$Transaction", "lockMode", "(I)I"⟩, 6) := ⟨⟨by decide +kernel, by decide +kernel⟩, List.mem_of_getElem? (i := 24) (by decide +kernel), List.mem_of_getElem? (i := 123) (by decide +kernel), List.mem_of_getElem? (i := 124) (by decide +kernel)⟩
theorem lw_p1 : lw_okq (⟨"SavepointStore$State", "committedValue", "(I)I"⟩, 4) := ⟨⟨by decide +kernel, by decide +kernel⟩, List.mem_of_getElem? (i := 17) (by decide +kernel), List.mem_of_getElem? (i := 131) (by decide +kernel), List.mem_of_getElem? (i := 132) (by decide +kernel)⟩
theorem lw_p2 : lw_okq (⟨"SavepointStore$Transaction", "valueAt", "(III)I"⟩, 6) := ⟨⟨by decide +kernel, by decide +kernel⟩, List.mem_of_getElem? (i := 24) (by decide +kernel), List.mem_of_getElem? (i := 135) (by decide +kernel), List.mem_of_getElem? (i := 136) (by decide +kernel)⟩
theorem lw_p3 : lw_okq (⟨"SavepointStore$State", "valueCount", "()I"⟩, 4) := ⟨⟨by decide +kernel, by decide +kernel⟩, List.mem_of_getElem? (i := 17) (by decide +kernel), List.mem_of_getElem? (i := 150) (by decide +kernel), List.mem_of_getElem? (i := 151) (by decide +kernel)⟩
theorem lw_p4 : lw_okq (⟨"SavepointStore$State", "valueSum", "()I"⟩, 4) := ⟨⟨by decide +kernel, by decide +kernel⟩, List.mem_of_getElem? (i := 17) (by decide +kernel), List.mem_of_getElem? (i := 154) (by decide +kernel), List.mem_of_getElem? (i := 155) (by decide +kernel)⟩
theorem lw_p5 : lw_okq (⟨"SavepointStore$Transaction", "isOpen", "()Z"⟩, 6) := ⟨⟨by decide +kernel, by decide +kernel⟩, List.mem_of_getElem? (i := 24) (by decide +kernel), List.mem_of_getElem? (i := 165) (by decide +kernel), List.mem_of_getElem? (i := 166) (by decide +kernel)⟩
theorem lw_p6 : lw_okq (⟨"SavepointStore$Transaction", "savepointCount", "()I"⟩, 6) := ⟨⟨by decide +kernel, by decide +kernel⟩, List.mem_of_getElem? (i := 24) (by decide +kernel), List.mem_of_getElem? (i := 169) (by decide +kernel), List.mem_of_getElem? (i := 170) (by decide +kernel)⟩
theorem lw_p7 : lw_okq (⟨"SavepointStore$Transaction", "keysChangedSince", "(I)I"⟩, 6) := ⟨⟨by decide +kernel, by decide +kernel⟩, List.mem_of_getElem? (i := 24) (by decide +kernel), List.mem_of_getElem? (i := 173) (by decide +kernel), List.mem_of_getElem? (i := 174) (by decide +kernel)⟩
theorem lw_p8 : lw_okq (⟨"SavepointStore$Transaction", "lockCount", "(I)I"⟩, 6) := ⟨⟨by decide +kernel, by decide +kernel⟩, List.mem_of_getElem? (i := 24) (by decide +kernel), List.mem_of_getElem? (i := 183) (by decide +kernel), List.mem_of_getElem? (i := 184) (by decide +kernel)⟩
theorem lw_p9 : lw_okq (⟨"SavepointStore$State", "hasSavepoint", "(II)Z"⟩, 4) := ⟨⟨by decide +kernel, by decide +kernel⟩, List.mem_of_getElem? (i := 17) (by decide +kernel), List.mem_of_getElem? (i := 192) (by decide +kernel), List.mem_of_getElem? (i := 193) (by decide +kernel)⟩
theorem lw_p10 : lw_okq (⟨"SavepointStore$Transaction", "locksChangedSince", "(I)I"⟩, 6) := ⟨⟨by decide +kernel, by decide +kernel⟩, List.mem_of_getElem? (i := 24) (by decide +kernel), List.mem_of_getElem? (i := 201) (by decide +kernel), List.mem_of_getElem? (i := 202) (by decide +kernel)⟩
theorem lw_p11 : lw_okq (⟨"SavepointStore$Transaction", "nearestSavepoint", "(I)I"⟩, 6) := ⟨⟨by decide +kernel, by decide +kernel⟩, List.mem_of_getElem? (i := 24) (by decide +kernel), List.mem_of_getElem? (i := 216) (by decide +kernel), List.mem_of_getElem? (i := 217) (by decide +kernel)⟩
theorem lw_p12 : lw_okq (⟨"SavepointStore$State", "isBusy", "(III)Z"⟩, 4) := ⟨⟨by decide +kernel, by decide +kernel⟩, List.mem_of_getElem? (i := 17) (by decide +kernel), List.mem_of_getElem? (i := 238) (by decide +kernel), List.mem_of_getElem? (i := 239) (by decide +kernel)⟩
theorem lw_p13 : lw_okq (⟨"SavepointStore", "rememberState", "()V"⟩, 7) := ⟨⟨by decide +kernel, by decide +kernel⟩, List.mem_of_getElem? (i := 9) (by decide +kernel), List.mem_of_getElem? (i := 254) (by decide +kernel), List.mem_of_getElem? (i := 255) (by decide +kernel)⟩
theorem lw_p14 : lw_okq (⟨"SavepointStore", "slotBehindHistory", "()I"⟩, 7) := ⟨⟨by decide +kernel, by decide +kernel⟩, List.mem_of_getElem? (i := 9) (by decide +kernel), List.mem_of_getElem? (i := 258) (by decide +kernel), List.mem_of_getElem? (i := 259) (by decide +kernel)⟩
theorem lw_p15 : lw_okq (⟨"SavepointStore$State", "copyFrom", "(LSavepointStore$State;)V"⟩, 4) := ⟨⟨by decide +kernel, by decide +kernel⟩, List.mem_of_getElem? (i := 17) (by decide +kernel), List.mem_of_getElem? (i := 262) (by decide +kernel), List.mem_of_getElem? (i := 263) (by decide +kernel)⟩
def lw_privs_1 : List (MethodName × Nat) := [(⟨"SavepointStore$Transaction", "lockMode", "(I)I"⟩, 6), (⟨"SavepointStore$State", "committedValue", "(I)I"⟩, 4), (⟨"SavepointStore$Transaction", "valueAt", "(III)I"⟩, 6), (⟨"SavepointStore$State", "valueCount", "()I"⟩, 4), (⟨"SavepointStore$State", "valueSum", "()I"⟩, 4), (⟨"SavepointStore$Transaction", "isOpen", "()Z"⟩, 6), (⟨"SavepointStore$Transaction", "savepointCount", "()I"⟩, 6), (⟨"SavepointStore$Transaction", "keysChangedSince", "(I)I"⟩, 6), (⟨"SavepointStore$Transaction", "lockCount", "(I)I"⟩, 6), (⟨"SavepointStore$State", "hasSavepoint", "(II)Z"⟩, 4), (⟨"SavepointStore$Transaction", "locksChangedSince", "(I)I"⟩, 6), (⟨"SavepointStore$Transaction", "nearestSavepoint", "(I)I"⟩, 6), (⟨"SavepointStore$State", "isBusy", "(III)Z"⟩, 4), (⟨"SavepointStore", "rememberState", "()V"⟩, 7), (⟨"SavepointStore", "slotBehindHistory", "()I"⟩, 7), (⟨"SavepointStore$State", "copyFrom", "(LSavepointStore$State;)V"⟩, 4)]
theorem lw_r1 : ∀ q ∈ lw_privs_1, lw_okq q := List.forall_mem_cons.mpr ⟨lw_p0, List.forall_mem_cons.mpr ⟨lw_p1, List.forall_mem_cons.mpr ⟨lw_p2, List.forall_mem_cons.mpr ⟨lw_p3, List.forall_mem_cons.mpr ⟨lw_p4, List.forall_mem_cons.mpr ⟨lw_p5, List.forall_mem_cons.mpr ⟨lw_p6, List.forall_mem_cons.mpr ⟨lw_p7, List.forall_mem_cons.mpr ⟨lw_p8, List.forall_mem_cons.mpr ⟨lw_p9, List.forall_mem_cons.mpr ⟨lw_p10, List.forall_mem_cons.mpr ⟨lw_p11, List.forall_mem_cons.mpr ⟨lw_p12, List.forall_mem_cons.mpr ⟨lw_p13, List.forall_mem_cons.mpr ⟨lw_p14, List.forall_mem_cons.mpr ⟨lw_p15, fun _ h => absurd h List.not_mem_nil⟩⟩⟩⟩⟩⟩⟩⟩⟩⟩⟩⟩⟩⟩⟩⟩
theorem lw_p16 : lw_okq (⟨"SavepointStore$Transaction", "copyFrom", "(LSavepointStore$Transaction;)V"⟩, 6) := ⟨⟨by decide +kernel, by decide +kernel⟩, List.mem_of_getElem? (i := 24) (by decide +kernel), List.mem_of_getElem? (i := 269) (by decide +kernel), List.mem_of_getElem? (i := 270) (by decide +kernel)⟩
theorem lw_p17 : lw_okq (⟨"SavepointStore$State", "readKey", "(II)I"⟩, 4) := ⟨⟨by decide +kernel, by decide +kernel⟩, List.mem_of_getElem? (i := 17) (by decide +kernel), List.mem_of_getElem? (i := 274) (by decide +kernel), List.mem_of_getElem? (i := 275) (by decide +kernel)⟩
theorem lw_p18 : lw_okq (⟨"SavepointStore$State", "whyImpossible", "(IZZ)I"⟩, 4) := ⟨⟨by decide +kernel, by decide +kernel⟩, List.mem_of_getElem? (i := 17) (by decide +kernel), List.mem_of_getElem? (i := 279) (by decide +kernel), List.mem_of_getElem? (i := 280) (by decide +kernel)⟩
theorem lw_p19 : lw_okq (⟨"SavepointStore$Transaction", "addMoment", "()V"⟩, 6) := ⟨⟨by decide +kernel, by decide +kernel⟩, List.mem_of_getElem? (i := 24) (by decide +kernel), List.mem_of_getElem? (i := 284) (by decide +kernel), List.mem_of_getElem? (i := 285) (by decide +kernel)⟩
theorem lw_p20 : lw_okq (⟨"SavepointStore$State", "takeLock", "(III)Z"⟩, 4) := ⟨⟨by decide +kernel, by decide +kernel⟩, List.mem_of_getElem? (i := 17) (by decide +kernel), List.mem_of_getElem? (i := 288) (by decide +kernel), List.mem_of_getElem? (i := 289) (by decide +kernel)⟩
theorem lw_p21 : lw_okq (⟨"SavepointStore$Transaction", "setLockMode", "(II)V"⟩, 6) := ⟨⟨by decide +kernel, by decide +kernel⟩, List.mem_of_getElem? (i := 24) (by decide +kernel), List.mem_of_getElem? (i := 293) (by decide +kernel), List.mem_of_getElem? (i := 294) (by decide +kernel)⟩
theorem lw_p22 : lw_okq (⟨"SavepointStore$State", "endStatement", "(II)I"⟩, 4) := ⟨⟨by decide +kernel, by decide +kernel⟩, List.mem_of_getElem? (i := 17) (by decide +kernel), List.mem_of_getElem? (i := 297) (by decide +kernel), List.mem_of_getElem? (i := 298) (by decide +kernel)⟩
theorem lw_p23 : lw_okq (⟨"SavepointStore$State", "undoToMoment", "(LSavepointStore$Transaction;I)I"⟩, 4) := ⟨⟨by decide +kernel, by decide +kernel⟩, List.mem_of_getElem? (i := 17) (by decide +kernel), List.mem_of_getElem? (i := 301) (by decide +kernel), List.mem_of_getElem? (i := 302) (by decide +kernel)⟩
theorem lw_p24 : lw_okq (⟨"SavepointStore$Transaction", "forgetChangesSince", "(I)V"⟩, 6) := ⟨⟨by decide +kernel, by decide +kernel⟩, List.mem_of_getElem? (i := 24) (by decide +kernel), List.mem_of_getElem? (i := 305) (by decide +kernel), List.mem_of_getElem? (i := 306) (by decide +kernel)⟩
theorem lw_p25 : lw_okq (⟨"SavepointStore$Transaction", "undoLocks", "(I)V"⟩, 6) := ⟨⟨by decide +kernel, by decide +kernel⟩, List.mem_of_getElem? (i := 24) (by decide +kernel), List.mem_of_getElem? (i := 309) (by decide +kernel), List.mem_of_getElem? (i := 310) (by decide +kernel)⟩
theorem lw_p26 : lw_okq (⟨"SavepointStore$Transaction", "dropMomentsAfter", "(I)V"⟩, 6) := ⟨⟨by decide +kernel, by decide +kernel⟩, List.mem_of_getElem? (i := 24) (by decide +kernel), List.mem_of_getElem? (i := 313) (by decide +kernel), List.mem_of_getElem? (i := 314) (by decide +kernel)⟩
theorem lw_p27 : lw_okq (⟨"SavepointStore$Transaction", "noteChangeAt", "(III)V"⟩, 6) := ⟨⟨by decide +kernel, by decide +kernel⟩, List.mem_of_getElem? (i := 24) (by decide +kernel), List.mem_of_getElem? (i := 317) (by decide +kernel), List.mem_of_getElem? (i := 318) (by decide +kernel)⟩
theorem lw_p28 : lw_okq (⟨"SavepointStore", "recordUnlessError", "(I)I"⟩, 7) := ⟨⟨by decide +kernel, by decide +kernel⟩, List.mem_of_getElem? (i := 9) (by decide +kernel), List.mem_of_getElem? (i := 324) (by decide +kernel), List.mem_of_getElem? (i := 325) (by decide +kernel)⟩
theorem lw_p29 : lw_okq (⟨"SavepointStore$State", "eraseKey", "(II)I"⟩, 4) := ⟨⟨by decide +kernel, by decide +kernel⟩, List.mem_of_getElem? (i := 17) (by decide +kernel), List.mem_of_getElem? (i := 335) (by decide +kernel), List.mem_of_getElem? (i := 336) (by decide +kernel)⟩
theorem lw_p30 : lw_okq (⟨"SavepointStore$State", "replaceValue", "(III)I"⟩, 4) := ⟨⟨by decide +kernel, by decide +kernel⟩, List.mem_of_getElem? (i := 17) (by decide +kernel), List.mem_of_getElem? (i := 339) (by decide +kernel), List.mem_of_getElem? (i := 340) (by decide +kernel)⟩
theorem lw_p31 : lw_okq (⟨"SavepointStore$Transaction", "noteChange", "(II)V"⟩, 6) := ⟨⟨by decide +kernel, by decide +kernel⟩, List.mem_of_getElem? (i := 24) (by decide +kernel), List.mem_of_getElem? (i := 343) (by decide +kernel), List.mem_of_getElem? (i := 344) (by decide +kernel)⟩
def lw_privs_2 : List (MethodName × Nat) := [(⟨"SavepointStore$Transaction", "copyFrom", "(LSavepointStore$Transaction;)V"⟩, 6), (⟨"SavepointStore$State", "readKey", "(II)I"⟩, 4), (⟨"SavepointStore$State", "whyImpossible", "(IZZ)I"⟩, 4), (⟨"SavepointStore$Transaction", "addMoment", "()V"⟩, 6), (⟨"SavepointStore$State", "takeLock", "(III)Z"⟩, 4), (⟨"SavepointStore$Transaction", "setLockMode", "(II)V"⟩, 6), (⟨"SavepointStore$State", "endStatement", "(II)I"⟩, 4), (⟨"SavepointStore$State", "undoToMoment", "(LSavepointStore$Transaction;I)I"⟩, 4), (⟨"SavepointStore$Transaction", "forgetChangesSince", "(I)V"⟩, 6), (⟨"SavepointStore$Transaction", "undoLocks", "(I)V"⟩, 6), (⟨"SavepointStore$Transaction", "dropMomentsAfter", "(I)V"⟩, 6), (⟨"SavepointStore$Transaction", "noteChangeAt", "(III)V"⟩, 6), (⟨"SavepointStore", "recordUnlessError", "(I)I"⟩, 7), (⟨"SavepointStore$State", "eraseKey", "(II)I"⟩, 4), (⟨"SavepointStore$State", "replaceValue", "(III)I"⟩, 4), (⟨"SavepointStore$Transaction", "noteChange", "(II)V"⟩, 6)]
theorem lw_r2 : ∀ q ∈ lw_privs_2, lw_okq q := List.forall_mem_cons.mpr ⟨lw_p16, List.forall_mem_cons.mpr ⟨lw_p17, List.forall_mem_cons.mpr ⟨lw_p18, List.forall_mem_cons.mpr ⟨lw_p19, List.forall_mem_cons.mpr ⟨lw_p20, List.forall_mem_cons.mpr ⟨lw_p21, List.forall_mem_cons.mpr ⟨lw_p22, List.forall_mem_cons.mpr ⟨lw_p23, List.forall_mem_cons.mpr ⟨lw_p24, List.forall_mem_cons.mpr ⟨lw_p25, List.forall_mem_cons.mpr ⟨lw_p26, List.forall_mem_cons.mpr ⟨lw_p27, List.forall_mem_cons.mpr ⟨lw_p28, List.forall_mem_cons.mpr ⟨lw_p29, List.forall_mem_cons.mpr ⟨lw_p30, List.forall_mem_cons.mpr ⟨lw_p31, fun _ h => absurd h List.not_mem_nil⟩⟩⟩⟩⟩⟩⟩⟩⟩⟩⟩⟩⟩⟩⟩⟩
theorem lw_p32 : lw_okq (⟨"SavepointStore$State", "writeKey", "(III)I"⟩, 4) := ⟨⟨by decide +kernel, by decide +kernel⟩, List.mem_of_getElem? (i := 17) (by decide +kernel), List.mem_of_getElem? (i := 351) (by decide +kernel), List.mem_of_getElem? (i := 352) (by decide +kernel)⟩
theorem lw_p33 : lw_okq (⟨"SavepointStore$State", "shiftKeys", "(III)I"⟩, 4) := ⟨⟨by decide +kernel, by decide +kernel⟩, List.mem_of_getElem? (i := 17) (by decide +kernel), List.mem_of_getElem? (i := 362) (by decide +kernel), List.mem_of_getElem? (i := 363) (by decide +kernel)⟩
theorem lw_p34 : lw_okq (⟨"SavepointStore$State", "addToValue", "(IIII)I"⟩, 4) := ⟨⟨by decide +kernel, by decide +kernel⟩, List.mem_of_getElem? (i := 17) (by decide +kernel), List.mem_of_getElem? (i := 368) (by decide +kernel), List.mem_of_getElem? (i := 369) (by decide +kernel)⟩
theorem lw_p35 : lw_okq (⟨"SavepointStore$State", "moveAmount", "(IIII)I"⟩, 4) := ⟨⟨by decide +kernel, by decide +kernel⟩, List.mem_of_getElem? (i := 17) (by decide +kernel), List.mem_of_getElem? (i := 376) (by decide +kernel), List.mem_of_getElem? (i := 377) (by decide +kernel)⟩
theorem lw_p36 : lw_okq (⟨"SavepointStore$State", "setSavepoint", "(II)I"⟩, 4) := ⟨⟨by decide +kernel, by decide +kernel⟩, List.mem_of_getElem? (i := 17) (by decide +kernel), List.mem_of_getElem? (i := 390) (by decide +kernel), List.mem_of_getElem? (i := 391) (by decide +kernel)⟩
theorem lw_p37 : lw_okq (⟨"SavepointStore$State", "undoToName", "(II)I"⟩, 4) := ⟨⟨by decide +kernel, by decide +kernel⟩, List.mem_of_getElem? (i := 17) (by decide +kernel), List.mem_of_getElem? (i := 402) (by decide +kernel), List.mem_of_getElem? (i := 403) (by decide +kernel)⟩
theorem lw_p38 : lw_okq (⟨"SavepointStore$State", "savepointOrError", "(II)I"⟩, 4) := ⟨⟨by decide +kernel, by decide +kernel⟩, List.mem_of_getElem? (i := 17) (by decide +kernel), List.mem_of_getElem? (i := 406) (by decide +kernel), List.mem_of_getElem? (i := 407) (by decide +kernel)⟩
theorem lw_p39 : lw_okq (⟨"SavepointStore$State", "releaseName", "(II)I"⟩, 4) := ⟨⟨by decide +kernel, by decide +kernel⟩, List.mem_of_getElem? (i := 17) (by decide +kernel), List.mem_of_getElem? (i := 416) (by decide +kernel), List.mem_of_getElem? (i := 417) (by decide +kernel)⟩
theorem lw_p40 : lw_okq (⟨"SavepointStore$State", "commitTransaction", "(I)I"⟩, 4) := ⟨⟨by decide +kernel, by decide +kernel⟩, List.mem_of_getElem? (i := 17) (by decide +kernel), List.mem_of_getElem? (i := 437) (by decide +kernel), List.mem_of_getElem? (i := 438) (by decide +kernel)⟩
theorem lw_p41 : lw_okq (⟨"SavepointStore$Transaction", "close", "()V"⟩, 6) := ⟨⟨by decide +kernel, by decide +kernel⟩, List.mem_of_getElem? (i := 24) (by decide +kernel), List.mem_of_getElem? (i := 441) (by decide +kernel), List.mem_of_getElem? (i := 442) (by decide +kernel)⟩
theorem lw_p42 : lw_okq (⟨"SavepointStore$State", "rollTransactionBack", "(I)I"⟩, 4) := ⟨⟨by decide +kernel, by decide +kernel⟩, List.mem_of_getElem? (i := 17) (by decide +kernel), List.mem_of_getElem? (i := 449) (by decide +kernel), List.mem_of_getElem? (i := 450) (by decide +kernel)⟩
theorem lw_p43 : lw_okq (⟨"SavepointStore$State", "openTransaction", "(I)I"⟩, 4) := ⟨⟨by decide +kernel, by decide +kernel⟩, List.mem_of_getElem? (i := 17) (by decide +kernel), List.mem_of_getElem? (i := 457) (by decide +kernel), List.mem_of_getElem? (i := 458) (by decide +kernel)⟩
def lw_privs_3 : List (MethodName × Nat) := [(⟨"SavepointStore$State", "writeKey", "(III)I"⟩, 4), (⟨"SavepointStore$State", "shiftKeys", "(III)I"⟩, 4), (⟨"SavepointStore$State", "addToValue", "(IIII)I"⟩, 4), (⟨"SavepointStore$State", "moveAmount", "(IIII)I"⟩, 4), (⟨"SavepointStore$State", "setSavepoint", "(II)I"⟩, 4), (⟨"SavepointStore$State", "undoToName", "(II)I"⟩, 4), (⟨"SavepointStore$State", "savepointOrError", "(II)I"⟩, 4), (⟨"SavepointStore$State", "releaseName", "(II)I"⟩, 4), (⟨"SavepointStore$State", "commitTransaction", "(I)I"⟩, 4), (⟨"SavepointStore$Transaction", "close", "()V"⟩, 6), (⟨"SavepointStore$State", "rollTransactionBack", "(I)I"⟩, 4), (⟨"SavepointStore$State", "openTransaction", "(I)I"⟩, 4)]
theorem lw_r3 : ∀ q ∈ lw_privs_3, lw_okq q := List.forall_mem_cons.mpr ⟨lw_p32, List.forall_mem_cons.mpr ⟨lw_p33, List.forall_mem_cons.mpr ⟨lw_p34, List.forall_mem_cons.mpr ⟨lw_p35, List.forall_mem_cons.mpr ⟨lw_p36, List.forall_mem_cons.mpr ⟨lw_p37, List.forall_mem_cons.mpr ⟨lw_p38, List.forall_mem_cons.mpr ⟨lw_p39, List.forall_mem_cons.mpr ⟨lw_p40, List.forall_mem_cons.mpr ⟨lw_p41, List.forall_mem_cons.mpr ⟨lw_p42, List.forall_mem_cons.mpr ⟨lw_p43, fun _ h => absurd h List.not_mem_nil⟩⟩⟩⟩⟩⟩⟩⟩⟩⟩⟩⟩
def lw_privs : List (MethodName × Nat) := lw_privs_1 ++ (lw_privs_2 ++ (lw_privs_3))
def lw_tbl : List Cond := k2_sels lw_privs ++ tables_1
theorem lw_privs_ok : ∀ q ∈ lw_privs, lw_okq q := by
  show ∀ q ∈ lw_privs_1 ++ (lw_privs_2 ++ (lw_privs_3)), lw_okq q
  exact List.forall_mem_append.mpr ⟨lw_r1, List.forall_mem_append.mpr ⟨lw_r2, lw_r3⟩⟩
/-- the streams that the claim lets the run draw from -/
abbrev lw_cs : List Choice := [Jvm.Choice.named "NaN.bits"]
theorem lw_bits : nanBits ∈ lw_cs := by first | decide | exact List.mem_cons_self | simp [lw_cs, nanBits]
-- ===== end of PART A; then your names; then what follows =====
def RX0 : String := "SavepointStore$Script"
def TX0 : u_T := fun k => match k with
  | 0 => ("SavepointStore$Script", "text", "[C", true)
  | _ => ("SavepointStore$Script", "length", "I", false)
def tyX0 : Nat → FieldType := fun k => match k with
  | 0 => .array .char
  | _ => .int
theorem nmX0 : ∀ a, a < 2 → ∀ b, b < 2 → a ≠ b → (TX0 a).2.1 ≠ (TX0 b).2.1 := by decide +kernel
theorem tyX0_ok : ∀ k, k < 2 → parseFieldDescriptor (TX0 k).2.2.1 = some (tyX0 k) := by decide +kernel
abbrev cX0_init : ByteArray := prog_2_method_1_code
def yX0_init : MethodName := ⟨RX0, "<init>", "()V"⟩
def RX1 : String := "SavepointStore$State"
def TX1 : u_T := fun k => match k with
  | 0 => ("SavepointStore$State", "isKept", "Z", false)
  | 1 => ("SavepointStore$State", "values", "[I", true)
  | 2 => ("SavepointStore$State", "transactions", "[LSavepointStore$Transaction;", true)
  | _ => ("SavepointStore$State", "totals", "[I", true)
def tyX1 : Nat → FieldType := fun k => match k with
  | 0 => .boolean
  | 1 => .array .int
  | 2 => .array (.object "SavepointStore$Transaction")
  | _ => .array .int
theorem nmX1 : ∀ a, a < 4 → ∀ b, b < 4 → a ≠ b → (TX1 a).2.1 ≠ (TX1 b).2.1 := by decide +kernel
theorem tyX1_ok : ∀ k, k < 4 → parseFieldDescriptor (TX1 k).2.2.1 = some (tyX1 k) := by decide +kernel
abbrev cX1_init : ByteArray := prog_3_method_1_code
def yX1_init : MethodName := ⟨RX1, "<init>", "()V"⟩
abbrev cX1_copyFrom : ByteArray := prog_3_method_2_code
def yX1_copyFrom : MethodName := ⟨RX1, "copyFrom", "(LSavepointStore$State;)V"⟩
abbrev cX1_valueCount : ByteArray := prog_3_method_3_code
def yX1_valueCount : MethodName := ⟨RX1, "valueCount", "()I"⟩
abbrev cX1_valueSum : ByteArray := prog_3_method_4_code
def yX1_valueSum : MethodName := ⟨RX1, "valueSum", "()I"⟩
abbrev cX1_committedValue : ByteArray := prog_3_method_5_code
def yX1_committedValue : MethodName := ⟨RX1, "committedValue", "(I)I"⟩
abbrev cX1_hasSavepoint : ByteArray := prog_3_method_6_code
def yX1_hasSavepoint : MethodName := ⟨RX1, "hasSavepoint", "(II)Z"⟩
abbrev cX1_openTransaction : ByteArray := prog_3_method_7_code
def yX1_openTransaction : MethodName := ⟨RX1, "openTransaction", "(I)I"⟩
abbrev cX1_commitTransaction : ByteArray := prog_3_method_8_code
def yX1_commitTransaction : MethodName := ⟨RX1, "commitTransaction", "(I)I"⟩
abbrev cX1_rollTransactionBack : ByteArray := prog_3_method_9_code
def yX1_rollTransactionBack : MethodName := ⟨RX1, "rollTransactionBack", "(I)I"⟩
abbrev cX1_setSavepoint : ByteArray := prog_3_method_10_code
def yX1_setSavepoint : MethodName := ⟨RX1, "setSavepoint", "(II)I"⟩
abbrev cX1_undoToName : ByteArray := prog_3_method_11_code
def yX1_undoToName : MethodName := ⟨RX1, "undoToName", "(II)I"⟩
abbrev cX1_releaseName : ByteArray := prog_3_method_12_code
def yX1_releaseName : MethodName := ⟨RX1, "releaseName", "(II)I"⟩
abbrev cX1_savepointOrError : ByteArray := prog_3_method_13_code
def yX1_savepointOrError : MethodName := ⟨RX1, "savepointOrError", "(II)I"⟩
abbrev cX1_readKey : ByteArray := prog_3_method_14_code
def yX1_readKey : MethodName := ⟨RX1, "readKey", "(II)I"⟩
abbrev cX1_writeKey : ByteArray := prog_3_method_15_code
def yX1_writeKey : MethodName := ⟨RX1, "writeKey", "(III)I"⟩
abbrev cX1_eraseKey : ByteArray := prog_3_method_16_code
def yX1_eraseKey : MethodName := ⟨RX1, "eraseKey", "(II)I"⟩
abbrev cX1_shiftKeys : ByteArray := prog_3_method_17_code
def yX1_shiftKeys : MethodName := ⟨RX1, "shiftKeys", "(III)I"⟩
abbrev cX1_moveAmount : ByteArray := prog_3_method_18_code
def yX1_moveAmount : MethodName := ⟨RX1, "moveAmount", "(IIII)I"⟩
abbrev cX1_whyImpossible : ByteArray := prog_3_method_19_code
def yX1_whyImpossible : MethodName := ⟨RX1, "whyImpossible", "(IZZ)I"⟩
abbrev cX1_endStatement : ByteArray := prog_3_method_20_code
def yX1_endStatement : MethodName := ⟨RX1, "endStatement", "(II)I"⟩
abbrev cX1_replaceValue : ByteArray := prog_3_method_21_code
def yX1_replaceValue : MethodName := ⟨RX1, "replaceValue", "(III)I"⟩
abbrev cX1_addToValue : ByteArray := prog_3_method_22_code
def yX1_addToValue : MethodName := ⟨RX1, "addToValue", "(IIII)I"⟩
abbrev cX1_takeLock : ByteArray := prog_3_method_23_code
def yX1_takeLock : MethodName := ⟨RX1, "takeLock", "(III)Z"⟩
abbrev cX1_isBusy : ByteArray := prog_3_method_24_code
def yX1_isBusy : MethodName := ⟨RX1, "isBusy", "(III)Z"⟩
abbrev cX1_undoToMoment : ByteArray := prog_3_method_25_code
def yX1_undoToMoment : MethodName := ⟨RX1, "undoToMoment", "(LSavepointStore$Transaction;I)I"⟩
def RX2 : String := "SavepointStore$Transaction"
def TX2 : u_T := fun k => match k with
  | 0 => ("SavepointStore$Transaction", "momentCount", "I", false)
  | 1 => ("SavepointStore$Transaction", "locks", "I", false)
  | 2 => ("SavepointStore$Transaction", "locksAt", "[I", true)
  | 3 => ("SavepointStore$Transaction", "names", "[I", true)
  | 4 => ("SavepointStore$Transaction", "changedKeys", "[I", true)
  | _ => ("SavepointStore$Transaction", "valuesBefore", "[I", true)
def tyX2 : Nat → FieldType := fun k => match k with
  | 0 => .int
  | 1 => .int
  | 2 => .array .int
  | 3 => .array .int
  | 4 => .array .int
  | _ => .array .int
theorem nmX2 : ∀ a, a < 6 → ∀ b, b < 6 → a ≠ b → (TX2 a).2.1 ≠ (TX2 b).2.1 := by decide +kernel
theorem tyX2_ok : ∀ k, k < 6 → parseFieldDescriptor (TX2 k).2.2.1 = some (tyX2 k) := by decide +kernel
abbrev cX2_init : ByteArray := prog_4_method_1_code
def yX2_init : MethodName := ⟨RX2, "<init>", "()V"⟩
abbrev cX2_isOpen : ByteArray := prog_4_method_2_code
def yX2_isOpen : MethodName := ⟨RX2, "isOpen", "()Z"⟩
abbrev cX2_savepointCount : ByteArray := prog_4_method_3_code
def yX2_savepointCount : MethodName := ⟨RX2, "savepointCount", "()I"⟩
abbrev cX2_addMoment : ByteArray := prog_4_method_4_code
def yX2_addMoment : MethodName := ⟨RX2, "addMoment", "()V"⟩
abbrev cX2_close : ByteArray := prog_4_method_5_code
def yX2_close : MethodName := ⟨RX2, "close", "()V"⟩
abbrev cX2_nearestSavepoint : ByteArray := prog_4_method_6_code
def yX2_nearestSavepoint : MethodName := ⟨RX2, "nearestSavepoint", "(I)I"⟩
abbrev cX2_lockMode : ByteArray := prog_4_method_7_code
def yX2_lockMode : MethodName := ⟨RX2, "lockMode", "(I)I"⟩
abbrev cX2_setLockMode : ByteArray := prog_4_method_8_code
def yX2_setLockMode : MethodName := ⟨RX2, "setLockMode", "(II)V"⟩
abbrev cX2_lockCount : ByteArray := prog_4_method_9_code
def yX2_lockCount : MethodName := ⟨RX2, "lockCount", "(I)I"⟩
abbrev cX2_locksChangedSince : ByteArray := prog_4_method_10_code
def yX2_locksChangedSince : MethodName := ⟨RX2, "locksChangedSince", "(I)I"⟩
abbrev cX2_undoLocks : ByteArray := prog_4_method_11_code
def yX2_undoLocks : MethodName := ⟨RX2, "undoLocks", "(I)V"⟩
abbrev cX2_noteChange : ByteArray := prog_4_method_12_code
def yX2_noteChange : MethodName := ⟨RX2, "noteChange", "(II)V"⟩
abbrev cX2_noteChangeAt : ByteArray := prog_4_method_13_code
def yX2_noteChangeAt : MethodName := ⟨RX2, "noteChangeAt", "(III)V"⟩
abbrev cX2_keysChangedSince : ByteArray := prog_4_method_14_code
def yX2_keysChangedSince : MethodName := ⟨RX2, "keysChangedSince", "(I)I"⟩
abbrev cX2_valueAt : ByteArray := prog_4_method_15_code
def yX2_valueAt : MethodName := ⟨RX2, "valueAt", "(III)I"⟩
abbrev cX2_forgetChangesSince : ByteArray := prog_4_method_16_code
def yX2_forgetChangesSince : MethodName := ⟨RX2, "forgetChangesSince", "(I)V"⟩
abbrev cX2_dropMomentsAfter : ByteArray := prog_4_method_17_code
def yX2_dropMomentsAfter : MethodName := ⟨RX2, "dropMomentsAfter", "(I)V"⟩
abbrev cX2_copyFrom : ByteArray := prog_4_method_18_code
def yX2_copyFrom : MethodName := ⟨RX2, "copyFrom", "(LSavepointStore$Transaction;)V"⟩
def RX3 : String := "SavepointStore"
def TX3 : u_T := fun k => match k with
  | 0 => ("SavepointStore", "now", "LSavepointStore$State;", true)
  | 1 => ("SavepointStore", "snapshot", "LSavepointStore$State;", true)
  | 2 => ("SavepointStore", "hasSnapshot", "Z", false)
  | 3 => ("SavepointStore", "history", "[LSavepointStore$State;", true)
  | 4 => ("SavepointStore", "oldestSlot", "I", false)
  | 5 => ("SavepointStore", "historyLength", "I", false)
  | _ => ("SavepointStore", "script", "LSavepointStore$Script;", true)
def tyX3 : Nat → FieldType := fun k => match k with
  | 0 => .object "SavepointStore$State"
  | 1 => .object "SavepointStore$State"
  | 2 => .boolean
  | 3 => .array (.object "SavepointStore$State")
  | 4 => .int
  | 5 => .int
  | _ => .object "SavepointStore$Script"
theorem nmX3 : ∀ a, a < 7 → ∀ b, b < 7 → a ≠ b → (TX3 a).2.1 ≠ (TX3 b).2.1 := by decide +kernel
theorem tyX3_ok : ∀ k, k < 7 → parseFieldDescriptor (TX3 k).2.2.1 = some (tyX3 k) := by decide +kernel
abbrev cX3_init : ByteArray := prog_1_method_1_code
def yX3_init : MethodName := ⟨RX3, "<init>", "()V"⟩
abbrev cX3_keep : ByteArray := prog_1_method_2_code
def yX3_keep : MethodName := ⟨RX3, "keep", "(Z)I"⟩
abbrev cX3_begin : ByteArray := prog_1_method_3_code
def yX3_begin : MethodName := ⟨RX3, "begin", "(I)I"⟩
abbrev cX3_commit : ByteArray := prog_1_method_4_code
def yX3_commit : MethodName := ⟨RX3, "commit", "(I)I"⟩
abbrev cX3_rollback : ByteArray := prog_1_method_5_code
def yX3_rollback : MethodName := ⟨RX3, "rollback", "(I)I"⟩
abbrev cX3_savepoint : ByteArray := prog_1_method_6_code
def yX3_savepoint : MethodName := ⟨RX3, "savepoint", "(II)I"⟩
abbrev cX3_undoTo : ByteArray := prog_1_method_7_code
def yX3_undoTo : MethodName := ⟨RX3, "undoTo", "(II)I"⟩
abbrev cX3_release : ByteArray := prog_1_method_8_code
def yX3_release : MethodName := ⟨RX3, "release", "(II)I"⟩
abbrev cX3_read : ByteArray := prog_1_method_9_code
def yX3_read : MethodName := ⟨RX3, "read", "(II)I"⟩
abbrev cX3_write : ByteArray := prog_1_method_10_code
def yX3_write : MethodName := ⟨RX3, "write", "(III)I"⟩
abbrev cX3_erase : ByteArray := prog_1_method_11_code
def yX3_erase : MethodName := ⟨RX3, "erase", "(II)I"⟩
abbrev cX3_shift : ByteArray := prog_1_method_12_code
def yX3_shift : MethodName := ⟨RX3, "shift", "(III)I"⟩
abbrev cX3_move : ByteArray := prog_1_method_13_code
def yX3_move : MethodName := ⟨RX3, "move", "(IIII)I"⟩
abbrev cX3_value : ByteArray := prog_1_method_21_code
def yX3_value : MethodName := ⟨RX3, "value", "(I)I"⟩
abbrev cX3_committed : ByteArray := prog_1_method_22_code
def yX3_committed : MethodName := ⟨RX3, "committed", "(I)I"⟩
abbrev cX3_mode : ByteArray := prog_1_method_23_code
def yX3_mode : MethodName := ⟨RX3, "mode", "(II)I"⟩
abbrev cX3_busyFor : ByteArray := prog_1_method_24_code
def yX3_busyFor : MethodName := ⟨RX3, "busyFor", "(II)I"⟩
abbrev cX3_session : ByteArray := prog_1_method_25_code
def yX3_session : MethodName := ⟨RX3, "session", "(II)I"⟩
abbrev cX3_nameOf : ByteArray := prog_1_method_26_code
def yX3_nameOf : MethodName := ⟨RX3, "nameOf", "(II)I"⟩
abbrev cX3_nearest : ByteArray := prog_1_method_27_code
def yX3_nearest : MethodName := ⟨RX3, "nearest", "(II)I"⟩
abbrev cX3_changedSince : ByteArray := prog_1_method_28_code
def yX3_changedSince : MethodName := ⟨RX3, "changedSince", "(IIZ)I"⟩
abbrev cX3_ifUndone : ByteArray := prog_1_method_29_code
def yX3_ifUndone : MethodName := ⟨RX3, "ifUndone", "(III)I"⟩
abbrev cX3_total : ByteArray := prog_1_method_30_code
def yX3_total : MethodName := ⟨RX3, "total", "(I)I"⟩
abbrev cX3_mean : ByteArray := prog_1_method_31_code
def yX3_mean : MethodName := ⟨RX3, "mean", "()D"⟩
abbrev cX3_slotBehindHistory : ByteArray := prog_1_method_32_code
def yX3_slotBehindHistory : MethodName := ⟨RX3, "slotBehindHistory", "()I"⟩
abbrev cX3_rememberState : ByteArray := prog_1_method_33_code
def yX3_rememberState : MethodName := ⟨RX3, "rememberState", "()V"⟩
abbrev cX3_recordUnlessError : ByteArray := prog_1_method_34_code
def yX3_recordUnlessError : MethodName := ⟨RX3, "recordUnlessError", "(I)I"⟩
abbrev cX3_isError : ByteArray := prog_1_method_36_code
def yX3_isError : MethodName := ⟨RX3, "isError", "(I)Z"⟩
abbrev cX3_isSession : ByteArray := prog_1_method_37_code
def yX3_isSession : MethodName := ⟨RX3, "isSession", "(I)Z"⟩
abbrev cX3_isKey : ByteArray := prog_1_method_38_code
def yX3_isKey : MethodName := ⟨RX3, "isKey", "(I)Z"⟩
abbrev cX3_isName : ByteArray := prog_1_method_39_code
def yX3_isName : MethodName := ⟨RX3, "isName", "(I)Z"⟩
abbrev cX3_isValue : ByteArray := prog_1_method_40_code
def yX3_isValue : MethodName := ⟨RX3, "isValue", "(I)Z"⟩
abbrev cX3_momentOf : ByteArray := prog_1_method_41_code
def yX3_momentOf : MethodName := ⟨RX3, "momentOf", "(I)I"⟩
def RX4 : String := "SavepointStoreModel"
def TX4 : u_T := fun k => match k with
  | _ => ("", "", "", false)
def tyX4 : Nat → FieldType := fun k => match k with
  | _ => .int
theorem nmX4 : ∀ a, a < 0 → ∀ b, b < 0 → a ≠ b → (TX4 a).2.1 ≠ (TX4 b).2.1 := by decide +kernel
theorem tyX4_ok : ∀ k, k < 0 → parseFieldDescriptor (TX4 k).2.2.1 = some (tyX4 k) := by decide +kernel
def RJ6 : String := "java/lang/Integer"
abbrev cJ6_bitCount_0f7a4 : ByteArray := prog_7_method_49_code
def yJ6_bitCount_0f7a4 : MethodName := ⟨RJ6, "bitCount", "(I)I"⟩
def RJ9 : String := "java/lang/Math"
abbrev cJ9_max_7cf53 : ByteArray := prog_8_method_65_code
def yJ9_max_7cf53 : MethodName := ⟨RJ9, "max", "(II)I"⟩
abbrev cJ9_min_7cf53 : ByteArray := prog_8_method_69_code
def yJ9_min_7cf53 : MethodName := ⟨RJ9, "min", "(II)I"⟩
def RJ10 : String := "java/lang/System"
def RL : String := "SavepointStoreLaw"
abbrev cL_cell : ByteArray := method_2_code
def yL_cell : MethodName := ⟨RL, "cell", "([II)I"⟩
abbrev cL_low : ByteArray := method_3_code
def yL_low : MethodName := ⟨RL, "low", "(II)I"⟩
abbrev cL_look : ByteArray := method_4_code
def yL_look : MethodName := ⟨RL, "look", "(LSavepointStore;[I[I)V"⟩
abbrev cL_areValues : ByteArray := method_5_code
def yL_areValues : MethodName := ⟨RL, "areValues", "(LSavepointStore;[I)Z"⟩
abbrev cL_otherModes : ByteArray := method_6_code
def yL_otherModes : MethodName := ⟨RL, "otherModes", "(LSavepointStore;[II)I"⟩
abbrev cL_isSession : ByteArray := method_7_code
def yL_isSession : MethodName := ⟨RL, "isSession", "(LSavepointStore;I)Z"⟩
abbrev cL_holds : ByteArray := method_8_code
def yL_holds : MethodName := ⟨RL, "holds", "(LSavepointStore;)Z"⟩
abbrev cL_doneBy : ByteArray := method_9_code
def yL_doneBy : MethodName := ⟨RL, "doneBy", "(LSavepointStore;III)I"⟩
abbrev cL_states : ByteArray := method_10_code
def yL_states : MethodName := ⟨RL, "states", "(LSavepointStore;IIII[I[I)Z"⟩
abbrev cL_undoes : ByteArray := method_11_code
def yL_undoes : MethodName := ⟨RL, "undoes", "(LSavepointStore;III[I[I)Z"⟩
abbrev cL_closes : ByteArray := method_12_code
def yL_closes : MethodName := ⟨RL, "closes", "(LSavepointStore;IZ[I[I)Z"⟩
abbrev cL_act : ByteArray := method_13_code
def yL_act : MethodName := ⟨RL, "act", "(LSavepointStore;II[I)Z"⟩
abbrev cL_law : ByteArray := code
def yL_law : MethodName := ⟨RL, "law", "([I)Z"⟩
abbrev vwCl : List vw_C := [(RX0, TX0, 2), (RX1, TX1, 4), (RX2, TX2, 6), (RX3, TX3, 7)]
/-- the words of the tables that any method may hand on to those that it calls -/
def lw_g : List Cond := lw_tbl.filter goodWord
theorem lw_g_in {w : Cond} (h : w ∈ lw_g) : w ∈ lw_tbl := (List.mem_filter.mp h).1
theorem lw_g_of {w : Cond} (h : w ∈ lw_tbl) (g : goodWord w = true) : w ∈ lw_g := List.mem_filter.mpr ⟨h, g⟩
/-- links between nest mates: they hold in any later state of the machine too -/
def lw_nest : Cond → Bool
  | .fieldLinkNest .. => true
  | .methodLinkNest .. => true
  | _ => false
def lw_n : List Cond := lw_tbl.filter lw_nest
theorem lw_n_of {w : Cond} (h : w ∈ lw_tbl) (g : lw_nest w = true) : w ∈ lw_n := List.mem_filter.mpr ⟨h, g⟩
def sv_Nw (U : State) : Prop := ∀ w ∈ lw_n, va_Nw w U
theorem sv_Nw_warm {s U : State} (hW : s.WarmedH U.vm) (h : sv_Nw s) : sv_Nw U := by
  intro w hw
  have h1 := h w hw
  have h2 := (List.mem_filter.mp hw).2
  cases w <;> first | exact va_Nw.warmF hW h1 | exact va_Nw.warmM hW h1 | (simp [lw_nest] at h2)
theorem inX0 : ∀ w ∈ u_ws RX0 TX0 2, w ∈ lw_g := by decide +kernel
theorem inX1 : ∀ w ∈ u_ws RX1 TX1 4, w ∈ lw_g := by decide +kernel
theorem inX2 : ∀ w ∈ u_ws RX2 TX2 6, w ∈ lw_g := by decide +kernel
theorem inX3 : ∀ w ∈ u_ws RX3 TX3 7, w ∈ lw_g := by decide +kernel
