section
-- ===== PART A: goes FIRST, ahead of the names: the tables' words, and 'selects' of the private methods out of them =====
/-- a private method of a class that the tables say can be made, by its rows of tables_1 -/
def lw_okq (q : MethodName × Nat) : Prop := (q.1.cls ≠ "java/lang/invoke/MethodHandle" ∧ q.1.cls ≠ "java/lang/invoke/VarHandle") ∧ Cond.instantiable q.1.cls q.2 ∈ tables_1 ∧ Cond.privateMethod q.1 ∈ tables_1 ∧ Cond.instanceMethod q.1 ∈ tables_1
theorem lw_p0 : lw_okq (⟨"SavepointStore$Transaction", "lockMode", "(I)I"⟩, 6) := ⟨⟨by decide +kernel, by decide +kernel⟩, List.mem_of_getElem? (i := 24) (by decide +kernel), List.mem_of_getElem? (i := 123) (by decide +kernel), List.mem_of_getElem? (i := 124) (by decide +kernel)⟩
theorem lw_p1 : lw_okq (⟨"SavepointStore$State", "committedValue", "(I)I"⟩, 4) := ⟨⟨by decide +kernel, by decide +kernel⟩, List.mem_of_getElem? (i := 17) (by decide +kernel), List.mem_of_getElem? (i := 131) (by decide +kernel), List.mem_of_getElem? (i := 132) (by decide +kernel)⟩
theorem lw_p2 : lw_okq (⟨"SavepointStore$Transaction", "valueAt", "(III)I"⟩, 6) := ⟨⟨by decide +kernel, by decide +kernel⟩, List.mem_of_getElem? (i := 24) (by decide +kernel), List.mem_of_getElem? (i := 135) (by decide +kernel), List.mem_of_getElem? (i := 136) (by decide +kernel)⟩
theorem lw_p3 : lw_okq (⟨"SavepointStore$State", "valueCount", "()I"⟩, 4) := ⟨⟨by decide +kernel, by decide +kernel⟩, List.mem_of_getElem? (i := 17) (by decide +kernel), List.mem_of_getElem? (i := 150) (by decide +kernel), List.mem_of_getElem? (i := 151) (by decide +kernel)⟩
theorem lw_p4 : lw_okq (⟨"SavepointStore$State", "valueSum", "()I"⟩, 4) := ⟨⟨by decide +kernel, by decide +kernel⟩, List.mem_of_getElem? (i := 17) (by decide +kernel), List.mem_of_getElem? (i := 154) (by decide +kernel), List.mem_of_getElem? (i := 155) (by decide +kernel)⟩
theorem lw_p5 : lw_okq (⟨"SavepointStore$Transaction", "isOpen", "()Z"⟩, 6) := ⟨⟨by decide +kernel, by decide +kernel⟩, List.mem_of_getElem? (i := 24) (by decide +kernel), List.mem_of_getElem? (i := 165) (by decide +kernel), List.mem_of_getElem? (i := 166) (by decide +kernel)⟩
theorem lw_p6 : lw_okq (⟨"SavepointStore$Transaction", "savepointCount", "()I"⟩, 6) := ⟨⟨by decide +kernel, by decide +kernel⟩, List.mem_of_getElem? (i := 24) (by decide +kernel), List.mem_of_getElem? (i := 169) (by decide +kernel), List.mem_of_getElem? (i := 170) (by decide +kernel)⟩
theorem lw_p7 : lw_okq (⟨"SavepointStore$Transaction", "keysChangedSince", "(I)I"⟩, 6) := ⟨⟨by decide +kernel, by decide +kernel⟩, List.mem_of_getElem? (i := 24) (by decide +kernel), List.mem_of_getElem? (i := 173) (by decide +kernel), List.mem_of_getElem? (i := 174) (by decide +kernel)⟩
theorem lw_p8 : lw_okq (⟨"SavepointStore$Transaction", "lockCount", "(I)I"⟩, 6) := ⟨⟨by decide +kernel, by decide +kernel⟩, List.mem_of_getElem? (i := 24) (by decide +kernel), List.mem_of_getElem? (i := 183) (by decide +kernel), List.mem_of_getElem? (i := 184) (by decide +kernel)⟩
theorem lw_p9 : lw_okq (⟨"SavepointStore$State", "hasSavepoint", "(II)Z"⟩, 4) := ⟨⟨by decide +kernel, by decide +kernel⟩, List.mem_of_getElem? (i := 17) (by decide +kernel), List.mem_of_getElem? (i := 192) (by decide +kernel), List.mem_of_getElem? (i := 193) (by decide +kernel)⟩
theorem lw_p10 : lw_okq (⟨"SavepointStore$Transaction", "locksChangedSince", "(I)I"⟩, 6) := ⟨⟨by decide +kernel, by decide +kernel⟩, List.mem_of_getElem? (i := 24) (by decide +kernel), List.mem_of_getElem? (i := 201) (by decide +kernel), List.mem_of_getElem? (i := 202) (by decide +kernel)⟩
theorem lw_p11 : lw_okq (⟨"SavepointStore$Transaction", "nearestSavepoint", "(I)I"⟩, 6) := ⟨⟨by decide +kernel, by decide +kernel⟩, List.mem_of_getElem? (i := 24) (by decide +kernel), List.mem_of_getElem? (i := 216) (by decide +kernel), List.mem_of_getElem? (i := 217) (by decide +kernel)⟩
theorem lw_p12 : lw_okq (⟨"SavepointStore$State", "isBusy", "(III)Z"⟩, 4) := ⟨⟨by decide +kernel, by decide +kernel⟩, List.mem_of_getElem? (i := 17) (by decide +kernel), List.mem_of_getElem? (i := 238) (by decide +kernel), List.mem_of_getElem? (i := 239) (by decide +kernel)⟩
theorem lw_p13 : lw_okq (⟨"SavepointStore", "rememberState", "()V"⟩, 7) := ⟨⟨by decide +kernel, by decide +kernel⟩, List.mem_of_getElem? (i := 9) (by decide +kernel), List.mem_of_getElem? (i := 254) (by decide +kernel), List.mem_of_getElem? (i := 255) (by decide +kernel)⟩
theorem lw_p14 : lw_okq (⟨"SavepointStore", "slotBehindHistory", "()I"⟩, 7) := ⟨⟨by decide +kernel, by decide +kernel⟩, List.mem_of_getElem? (i := 9) (by decide +kernel), List.mem_of_getElem? (i := 258) (by decide +kernel), List.mem_of_getElem? (i := 259) (by decide +kernel)⟩
theorem lw_p15 : lw_okq (⟨"SavepointStore$State", "copyFrom", "(LSavepointStore$State;)V"⟩, 4) := ⟨⟨by decide +kernel, by decide +kernel⟩, List.mem_of_getElem? (i := 17) (by decide +kernel), List.mem_of_getElem? (i := 262) (by decide +kernel), List.mem_of_getElem? (i := 263) (by decide +kernel)⟩
def lw_privs_1 : List (MethodName × Nat) := [(⟨"SavepointStore$Transaction", "lockMode", "(I)I"⟩, 6), (⟨"SavepointStore$State", "committedValue", "(I)I"⟩, 4), (⟨"SavepointStore$Transaction", "valueAt", "(III)I"⟩, 6), (⟨"SavepointStore$State", "valueCount", "()I"⟩, 4), (⟨"SavepointStore$State", "valueSum", "()I"⟩, 4), (⟨"SavepointStore$Transaction", "isOpen", "()Z"⟩, 6), (⟨"SavepointStore$Transaction", "savepointCount", "()I"⟩, 6), (⟨"SavepointStore$Transaction", "keysChangedSince", "(I)I"⟩, 6), (⟨"SavepointStore$Transaction", "lockCount", "(I)I"⟩, 6), (⟨"SavepointStore$State", "hasSavepoint", "(II)Z"⟩, 4), (⟨"SavepointStore$Transaction", "locksChangedSince", "(I)I"⟩, 6), (⟨"SavepointStore$Transaction", "nearestSavepoint", "(I)I"⟩, 6), (⟨"SavepointStore$State", "isBusy", "(III)Z"⟩, 4), (⟨"SavepointStore", "rememberState", "()V"⟩, 7), (⟨"SavepointStore", "slotBehindHistory", "()I"⟩, 7), (⟨"SavepointStore$State", "copyFrom", "(LSavepointStore$State;)V"⟩, 4)]
theorem lw_r1 : ∀ q ∈ lw_privs_1, lw_okq q := List.forall_mem_cons.mpr ⟨lw_p0, List.forall_mem_cons.mpr ⟨lw_p1, List.forall_mem_cons.mpr ⟨lw_p2, List.forall_mem_cons.mpr ⟨lw_p3, List.forall_mem_cons.mpr ⟨lw_p4, List.forall_mem_cons.mpr ⟨lw_p5, List.forall_mem_cons.mpr ⟨lw_p6, List.forall_mem_cons.mpr ⟨lw_p7, List.forall_mem_cons.mpr ⟨lw_p8, List.forall_mem_cons.mpr ⟨lw_p9, List.forall_mem_cons.mpr ⟨lw_p10, List.forall_mem_cons.mpr ⟨lw_p11, List.forall_mem_cons.mpr ⟨lw_p12, List.forall_mem_cons.mpr ⟨lw_p13, List.forall_mem_cons.mpr ⟨lw_p14, List.forall_mem_cons.mpr ⟨lw_p15, fun _ h => absurd h List.not_mem_nil⟩⟩⟩⟩⟩⟩⟩⟩⟩⟩⟩⟩⟩⟩⟩⟩
theorem lw_p16 : lw_okq (⟨"SavepointStore$Transaction", "copyFrom", "(LSavepointStore$Transaction;)V"⟩, 6) := ⟨⟨by decide +kernel, by decide +kernel⟩, List.mem_of_getElem? (i := 24) (by decide +kernel), List.mem_of_getElem? (i := 269) (by decide +kernel), List.mem_of_getElem? (i := 270) (by decide +kernel)⟩
theorem lw_p17 : lw_okq (⟨"SavepointStore$State", "readKey", "(II)I"⟩, 4) := ⟨⟨by decide +kernel, by decide +kernel⟩, List.mem_of_getElem? (i := 17) (by decide +kernel), List.mem_of_getElem? (i := 274) (by decide +kernel), List.mem_of_getElem? (i := 275) (by decide +kernel)⟩
theorem lw_p18 : lw_okq (⟨"SavepointStore$State", "whyImpossible", "(IZZ)I"⟩, 4) := ⟨⟨by decide +kernel, by decide +kernel⟩, List.mem_of_getElem? (i := 17) (by decide +kernel), List.mem_of_getElem? (i := 279) (by decide +kernel), List.mem_of_getElem? (i := 280) (by decide +kernel)⟩
theorem lw_p19 : lw_okq (⟨"SavepointStore$Transaction", "addMoment", "()V"⟩, 6) := ⟨⟨by decide +kernel, by decide +kernel⟩, List.mem_of_getElem? (i := 24) (by decide +kernel), List.mem_of_getElem? (i := 284) (by decide +kernel), List.mem_of_getElem? (i := 285) (by decide +kernel)⟩
theorem lw_p20 : lw_okq (⟨"SavepointStore$State", "takeLock", "(III)Z"⟩, 4) := ⟨⟨by decide +kernel, by decide +kernel⟩, List.mem_of_getElem? (i := 17) (by decide +kernel), List.mem_of_getElem? (i := 288) (by decide +kernel), List.mem_of_getElem? (i := 289) (by decide +kernel)⟩
theorem lw_p21 : lw_okq (⟨"SavepointStore$Transaction", "setLockMode", "(II)V"⟩, 6) := ⟨⟨by decide +kernel, by decide +kernel⟩, List.mem_of_getElem? (i := 24) (by decide +kernel), List.mem_of_getElem? (i := 293) (by decide +kernel), List.mem_of_getElem? (i := 294) (by decide +kernel)⟩
theorem lw_p22 : lw_okq (⟨"SavepointStore$State", "endStatement", "(II)I"⟩, 4) := ⟨⟨by decide +kernel, by decide +kernel⟩, List.mem_of_getElem? (i := 17) (by decide +kernel), List.mem_of_getElem? (i := 297) (by decide +kernel), List.mem_of_getElem? (i := 298) (by decide +kernel)⟩
theorem lw_p23 : lw_okq (⟨"SavepointStore$State", "undoToMoment", "(LSavepointStore$Transaction;I)I"⟩, 4) := ⟨⟨by decide +kernel, by decide +kernel⟩, List.mem_of_getElem? (i := 17) (by decide +kernel), List.mem_of_getElem? (i := 301) (by decide +kernel), List.mem_of_getElem? (i := 302) (by decide +kernel)⟩
theorem lw_p24 : lw_okq (⟨"SavepointStore$Transaction", "forgetChangesSince", "(I)V"⟩, 6) := ⟨⟨by decide +kernel, by decide +kernel⟩, List.mem_of_getElem? (i := 24) (by decide +kernel), List.mem_of_getElem? (i := 305) (by decide +kernel), List.mem_of_getElem? (i := 306) (by decide +kernel)⟩
theorem lw_p25 : lw_okq (⟨"SavepointStore$Transaction", "undoLocks", "(I)V"⟩, 6) := ⟨⟨by decide +kernel, by decide +kernel⟩, List.mem_of_getElem? (i := 24) (by decide +kernel), List.mem_of_getElem? (i := 309) (by decide +kernel), List.mem_of_getElem? (i := 310) (by decide +kernel)⟩
theorem lw_p26 : lw_okq (⟨"SavepointStore$Transaction", "dropMomentsAfter", "(I)V"⟩, 6) := ⟨⟨by decide +kernel, by decide +kernel⟩, List.mem_of_getElem? (i := 24) (by decide +kernel), List.mem_of_getElem? (i := 313) (by decide +kernel), List.mem_of_getElem? (i := 314) (by decide +kernel)⟩
theorem lw_p27 : lw_okq (⟨"SavepointStore$Transaction", "noteChangeAt", "(III)V"⟩, 6) := ⟨⟨by decide +kernel, by decide +kernel⟩, List.mem_of_getElem? (i := 24) (by decide +kernel), List.mem_of_getElem? (i := 317) (by decide +kernel), List.mem_of_getElem? (i := 318) (by decide +kernel)⟩
theorem lw_p28 : lw_okq (⟨"SavepointStore", "recordUnlessError", "(I)I"⟩, 7) := ⟨⟨by decide +kernel, by decide +kernel⟩, List.mem_of_getElem? (i := 9) (by decide +kernel), List.mem_of_getElem? (i := 324) (by decide +kernel), List.mem_of_getElem? (i := 325) (by decide +kernel)⟩
theorem lw_p29 : lw_okq (⟨"SavepointStore$State", "eraseKey", "(II)I"⟩, 4) := ⟨⟨by decide +kernel, by decide +kernel⟩, List.mem_of_getElem? (i := 17) (by decide +kernel), List.mem_of_getElem? (i := 335) (by decide +kernel), List.mem_of_getElem? (i := 336) (by decide +kernel)⟩
theorem lw_p30 : lw_okq (⟨"SavepointStore$State", "replaceValue", "(III)I"⟩, 4) := ⟨⟨by decide +kernel, by decide +kernel⟩, List.mem_of_getElem? (i := 17) (by decide +kernel), List.mem_of_getElem? (i := 339) (by decide +kernel), List.mem_of_getElem? (i := 340) (by decide +kernel)⟩
theorem lw_p31 : lw_okq (⟨"SavepointStore$Transaction", "noteChange", "(II)V"⟩, 6) := ⟨⟨by decide +kernel, by decide +kernel⟩, List.mem_of_getElem? (i := 24) (by decide +kernel), List.mem_of_getElem? (i := 343) (by decide +kernel), List.mem_of_getElem? (i := 344) (by decide +kernel)⟩
def lw_privs_2 : List (MethodName × Nat) := [(⟨"SavepointStore$Transaction", "copyFrom", "(LSavepointStore$Transaction;)V"⟩, 6), (⟨"SavepointStore$State", "readKey", "(II)I"⟩, 4), (⟨"SavepointStore$State", "whyImpossible", "(IZZ)I"⟩, 4), (⟨"SavepointStore$Transaction", "addMoment", "()V"⟩, 6), (⟨"SavepointStore$State", "takeLock", "(III)Z"⟩, 4), (⟨"SavepointStore$Transaction", "setLockMode", "(II)V"⟩, 6), (⟨"SavepointStore$State", "endStatement", "(II)I"⟩, 4), (⟨"SavepointStore$State", "undoToMoment", "(LSavepointStore$Transaction;I)I"⟩, 4), (⟨"SavepointStore$Transaction", "forgetChangesSince", "(I)V"⟩, 6), (⟨"SavepointStore$Transaction", "undoLocks", "(I)V"⟩, 6), (⟨"SavepointStore$Transaction", "dropMomentsAfter", "(I)V"⟩, 6), (⟨"SavepointStore$Transaction", "noteChangeAt", "(III)V"⟩, 6), (⟨"SavepointStore", "recordUnlessError", "(I)I"⟩, 7), (⟨"SavepointStore$State", "eraseKey", "(II)I"⟩, 4), (⟨"SavepointStore$State", "replaceValue", "(III)I"⟩, 4), (⟨"SavepointStore$Transaction", "noteChange", "(II)V"⟩, 6)]
theorem lw_r2 : ∀ q ∈ lw_privs_2, lw_okq q := List.forall_mem_cons.mpr ⟨lw_p16, List.forall_mem_cons.mpr ⟨lw_p17, List.forall_mem_cons.mpr ⟨lw_p18, List.forall_mem_cons.mpr ⟨lw_p19, List.forall_mem_cons.mpr ⟨lw_p20, List.forall_mem_cons.mpr ⟨lw_p21, List.forall_mem_cons.mpr ⟨lw_p22, List.forall_mem_cons.mpr ⟨lw_p23, List.forall_mem_cons.mpr ⟨lw_p24, List.forall_mem_cons.mpr ⟨lw_p25, List.forall_mem_cons.mpr ⟨lw_p26, List.forall_mem_cons.mpr ⟨lw_p27, List.forall_mem_cons.mpr ⟨lw_p28, List.forall_mem_cons.mpr ⟨lw_p29, List.forall_mem_cons.mpr ⟨lw_p30, List.forall_mem_cons.mpr ⟨lw_p31, fun _ h => absurd h List.not_mem_nil⟩⟩⟩⟩⟩⟩⟩⟩⟩⟩⟩⟩⟩⟩⟩⟩
theorem lw_p32 : lw_okq (⟨"SavepointStore$State", "writeKey", "(III)I"⟩, 4) := ⟨⟨by decide +kernel, by decide +kernel⟩, List.mem_of_getElem? (i := 17) (by decide +kernel), List.mem_of_getElem? (i := 351) (by decide +kernel), List.mem_of_getElem? (i := 352) (by decide +kernel)⟩
theorem lw_p33 : lw_okq (⟨"SavepointStore$State", "shiftKeys", "(III)I"⟩, 4) := ⟨⟨by decide +kernel, by decide +kernel⟩, List.mem_of_getElem? (i := 17) (by decide +kernel), List.mem_of_getElem? (i := 362) (by decide +kernel), List.mem_of_getElem? (i := 363) (by decide +kernel)⟩
theorem lw_p34 : lw_okq (⟨"SavepointStore$State", "addToValue", "(IIII)I"⟩, 4) := ⟨⟨by decide +kernel, by decide +kernel⟩, List.mem_of_getElem? (i := 17) (by decide +kernel), List.mem_of_getElem? (i := 368) (by decide +kernel), List.mem_of_getElem? (i := 369) (by decide +kernel)⟩
theorem lw_p35 : lw_okq (⟨"SavepointStore$State", "moveAmount", "(IIII)I"⟩, 4) := ⟨⟨by decide +kernel, by decide +kernel⟩, List.mem_of_getElem? (i := 17) (by decide +kernel), List.mem_of_getElem? (i := 376) (by decide +kernel), List.mem_of_getElem? (i := 377) (by decide +kernel)⟩
theorem lw_p36 : lw_okq (⟨"SavepointStore$State", "setSavepoint", "(II)I"⟩, 4) := ⟨⟨by decide +kernel, by decide +kernel⟩, List.mem_of_getElem? (i := 17) (by decide +kernel), List.mem_of_getElem? (i := 390) (by decide +kernel), List.mem_of_getElem? (i := 391) (by decide +kernel)⟩
theorem lw_p37 : lw_okq (⟨"SavepointStore$State", "undoToName", "(II)I"⟩, 4) := ⟨⟨by decide +kernel, by decide +kernel⟩, List.mem_of_getElem? (i := 17) (by decide +kernel), List.mem_of_getElem? (i := 402) (by decide +kernel), List.mem_of_getElem? (i := 403) (by decide +kernel)⟩
theorem lw_p38 : lw_okq (⟨"SavepointStore$State", "savepointOrError", "(II)I"⟩, 4) := ⟨⟨by decide +kernel, by decide +kernel⟩, List.mem_of_getElem? (i := 17) (by decide +kernel), List.mem_of_getElem? (i := 406) (by decide +kernel), List.mem_of_getElem? (i := 407) (by decide +kernel)⟩
theorem lw_p39 : lw_okq (⟨"SavepointStore$State", "releaseName", "(II)I"⟩, 4) := ⟨⟨by decide +kernel, by decide +kernel⟩, List.mem_of_getElem? (i := 17) (by decide +kernel), List.mem_of_getElem? (i := 416) (by decide +kernel), List.mem_of_getElem? (i := 417) (by decide +kernel)⟩
theorem lw_p40 : lw_okq (⟨"SavepointStore$State", "commitTransaction", "(I)I"⟩, 4) := ⟨⟨by decide +kernel, by decide +kernel⟩, List.mem_of_getElem? (i := 17) (by decide +kernel), List.mem_of_getElem? (i := 437) (by decide +kernel), List.mem_of_getElem? (i := 438) (by decide +kernel)⟩
theorem lw_p41 : lw_okq (⟨"SavepointStore$Transaction", "close", "()V"⟩, 6) := ⟨⟨by decide +kernel, by decide +kernel⟩, List.mem_of_getElem? (i := 24) (by decide +kernel), List.mem_of_getElem? (i := 441) (by decide +kernel), List.mem_of_getElem? (i := 442) (by decide +kernel)⟩
theorem lw_p42 : lw_okq (⟨"SavepointStore$State", "rollTransactionBack", "(I)I"⟩, 4) := ⟨⟨by decide +kernel, by decide +kernel⟩, List.mem_of_getElem? (i := 17) (by decide +kernel), List.mem_of_getElem? (i := 449) (by decide +kernel), List.mem_of_getElem? (i := 450) (by decide +kernel)⟩
theorem lw_p43 : lw_okq (⟨"SavepointStore$State", "openTransaction", "(I)I"⟩, 4) := ⟨⟨by decide +kernel, by decide +kernel⟩, List.mem_of_getElem? (i := 17) (by decide +kernel), List.mem_of_getElem? (i := 457) (by decide +kernel), List.mem_of_getElem? (i := 458) (by decide +kernel)⟩
def lw_privs_3 : List (MethodName × Nat) := [(⟨"SavepointStore$State", "writeKey", "(III)I"⟩, 4), (⟨"SavepointStore$State", "shiftKeys", "(III)I"⟩, 4), (⟨"SavepointStore$State", "addToValue", "(IIII)I"⟩, 4), (⟨"SavepointStore$State", "moveAmount", "(IIII)I"⟩, 4), (⟨"SavepointStore$State", "setSavepoint", "(II)I"⟩, 4), (⟨"SavepointStore$State", "undoToName", "(II)I"⟩, 4), (⟨"SavepointStore$State", "savepointOrError", "(II)I"⟩, 4), (⟨"SavepointStore$State", "releaseName", "(II)I"⟩, 4), (⟨"SavepointStore$State", "commitTransaction", "(I)I"⟩, 4), (⟨"SavepointStore$Transaction", "close", "()V"⟩, 6), (⟨"SavepointStore$State", "rollTransactionBack", "(I)I"⟩, 4), (⟨"SavepointStore$State", "openTransaction", "(I)I"⟩, 4)]
theorem lw_r3 : ∀ q ∈ lw_privs_3, lw_okq q := List.forall_mem_cons.mpr ⟨lw_p32, List.forall_mem_cons.mpr ⟨lw_p33, List.forall_mem_cons.mpr ⟨lw_p34, List.forall_mem_cons.mpr ⟨lw_p35, List.forall_mem_cons.mpr ⟨lw_p36, List.forall_mem_cons.mpr ⟨lw_p37, List.forall_mem_cons.mpr ⟨lw_p38, List.forall_mem_cons.mpr ⟨lw_p39, List.forall_mem_cons.mpr ⟨lw_p40, List.forall_mem_cons.mpr ⟨lw_p41, List.forall_mem_cons.mpr ⟨lw_p42, List.forall_mem_cons.mpr ⟨lw_p43, fun _ h => absurd h List.not_mem_nil⟩⟩⟩⟩⟩⟩⟩⟩⟩⟩⟩⟩
def lw_privs : List (MethodName × Nat) := lw_privs_1 ++ (lw_privs_2 ++ (lw_privs_3))
def lw_tbl : List Cond := k2_sels lw_privs ++ tables_1
theorem lw_privs_ok : ∀ q ∈ lw_privs, lw_okq q := by
  show ∀ q ∈ lw_privs_1 ++ (lw_privs_2 ++ (lw_privs_3)), lw_okq q
  exact List.forall_mem_append.mpr ⟨lw_r1, List.forall_mem_append.mpr ⟨lw_r2, lw_r3⟩⟩
/-- the streams that the claim lets the run draw from -/
abbrev lw_cs : List Choice := [Jvm.Choice.named "NaN.bits"]
theorem lw_bits : nanBits ∈ lw_cs := by first | decide | exact List.mem_cons_self | simp [lw_cs, nanBits]
-- ===== end of PART A; then your names; then what follows =====
def RX0 : String := "SavepointStore$Script"
def TX0 : u_T := fun k => match k with
  | 0 => ("SavepointStore$Script", "text", "[C", true)
  | _ => ("SavepointStore$Script", "length", "I", false)
def tyX0 : Nat → FieldType := fun k => match k with
  | 0 => .array .char
  | _ => .int
theorem nmX0 : ∀ a, a < 2 → ∀ b, b < 2 → a ≠ b → (TX0 a).2.1 ≠ (TX0 b).2.1 := by decide +kernel
theorem tyX0_ok : ∀ k, k < 2 → parseFieldDescriptor (TX0 k).2.2.1 = some (tyX0 k) := by decide +kernel
abbrev cX0_init : ByteArray := prog_2_method_1_code
def yX0_init : MethodName := ⟨RX0, "<init>", "()V"⟩
def RX1 : String := "SavepointStore$State"
def TX1 : u_T := fun k => match k with
  | 0 => ("SavepointStore$State", "isKept", "Z", false)
  | 1 => ("SavepointStore$State", "values", "[I", true)
  | 2 => ("SavepointStore$State", "transactions", "[LSavepointStore$Transaction;", true)
  | _ => ("SavepointStore$State", "totals", "[I", true)
def tyX1 : Nat → FieldType := fun k => match k with
  | 0 => .boolean
  | 1 => .array .int
  | 2 => .array (.object "SavepointStore$Transaction")
  | _ => .array .int
theorem nmX1 : ∀ a, a < 4 → ∀ b, b < 4 → a ≠ b → (TX1 a).2.1 ≠ (TX1 b).2.1 := by decide +kernel
theorem tyX1_ok : ∀ k, k < 4 → parseFieldDescriptor (TX1 k).2.2.1 = some (tyX1 k) := by decide +kernel
abbrev cX1_init : ByteArray := prog_3_method_1_code
def yX1_init : MethodName := ⟨RX1, "<init>", "()V"⟩
abbrev cX1_copyFrom : ByteArray := prog_3_method_2_code
def yX1_copyFrom : MethodName := ⟨RX1, "copyFrom", "(LSavepointStore$State;)V"⟩
abbrev cX1_valueCount : ByteArray := prog_3_method_3_code
def yX1_valueCount : MethodName := ⟨RX1, "valueCount", "()I"⟩
abbrev cX1_valueSum : ByteArray := prog_3_method_4_code
def yX1_valueSum : MethodName := ⟨RX1, "valueSum", "()I"⟩
abbrev cX1_committedValue : ByteArray := prog_3_method_5_code
def yX1_committedValue : MethodName := ⟨RX1, "committedValue", "(I)I"⟩
abbrev cX1_hasSavepoint : ByteArray := prog_3_method_6_code
def yX1_hasSavepoint : MethodName := ⟨RX1, "hasSavepoint", "(II)Z"⟩
abbrev cX1_openTransaction : ByteArray := prog_3_method_7_code
def yX1_openTransaction : MethodName := ⟨RX1, "openTransaction", "(I)I"⟩
abbrev cX1_commitTransaction : ByteArray := prog_3_method_8_code
def yX1_commitTransaction : MethodName := ⟨RX1, "commitTransaction", "(I)I"⟩
abbrev cX1_rollTransactionBack : ByteArray := prog_3_method_9_code
def yX1_rollTransactionBack : MethodName := ⟨RX1, "rollTransactionBack", "(I)I"⟩
abbrev cX1_setSavepoint : ByteArray := prog_3_method_10_code
def yX1_setSavepoint : MethodName := ⟨RX1, "setSavepoint", "(II)I"⟩
abbrev cX1_undoToName : ByteArray := prog_3_method_11_code
def yX1_undoToName : MethodName := ⟨RX1, "undoToName", "(II)I"⟩
abbrev cX1_releaseName : ByteArray := prog_3_method_12_code
def yX1_releaseName : MethodName := ⟨RX1, "releaseName", "(II)I"⟩
abbrev cX1_savepointOrError : ByteArray := prog_3_method_13_code
def yX1_savepointOrError : MethodName := ⟨RX1, "savepointOrError", "(II)I"⟩
abbrev cX1_readKey : ByteArray := prog_3_method_14_code
def yX1_readKey : MethodName := ⟨RX1, "readKey", "(II)I"⟩
abbrev cX1_writeKey : ByteArray := prog_3_method_15_code
def yX1_writeKey : MethodName := ⟨RX1, "writeKey", "(III)I"⟩
abbrev cX1_eraseKey : ByteArray := prog_3_method_16_code
def yX1_eraseKey : MethodName := ⟨RX1, "eraseKey", "(II)I"⟩
abbrev cX1_shiftKeys : ByteArray := prog_3_method_17_code
def yX1_shiftKeys : MethodName := ⟨RX1, "shiftKeys", "(III)I"⟩
abbrev cX1_moveAmount : ByteArray := prog_3_method_18_code
def yX1_moveAmount : MethodName := ⟨RX1, "moveAmount", "(IIII)I"⟩
abbrev cX1_whyImpossible : ByteArray := prog_3_method_19_code
def yX1_whyImpossible : MethodName := ⟨RX1, "whyImpossible", "(IZZ)I"⟩
abbrev cX1_endStatement : ByteArray := prog_3_method_20_code
def yX1_endStatement : MethodName := ⟨RX1, "endStatement", "(II)I"⟩
abbrev cX1_replaceValue : ByteArray := prog_3_method_21_code
def yX1_replaceValue : MethodName := ⟨RX1, "replaceValue", "(III)I"⟩
abbrev cX1_addToValue : ByteArray := prog_3_method_22_code
def yX1_addToValue : MethodName := ⟨RX1, "addToValue", "(IIII)I"⟩
abbrev cX1_takeLock : ByteArray := prog_3_method_23_code
def yX1_takeLock : MethodName := ⟨RX1, "takeLock", "(III)Z"⟩
abbrev cX1_isBusy : ByteArray := prog_3_method_24_code
def yX1_isBusy : MethodName := ⟨RX1, "isBusy", "(III)Z"⟩
abbrev cX1_undoToMoment : ByteArray := prog_3_method_25_code
def yX1_undoToMoment : MethodName := ⟨RX1, "undoToMoment", "(LSavepointStore$Transaction;I)I"⟩
def RX2 : String := "SavepointStore$Transaction"
def TX2 : u_T := fun k => match k with
  | 0 => ("SavepointStore$Transaction", "momentCount", "I", false)
  | 1 => ("SavepointStore$Transaction", "locks", "I", false)
  | 2 => ("SavepointStore$Transaction", "locksAt", "[I", true)
  | 3 => ("SavepointStore$Transaction", "names", "[I", true)
  | 4 => ("SavepointStore$Transaction", "changedKeys", "[I", true)
  | _ => ("SavepointStore$Transaction", "valuesBefore", "[I", true)
def tyX2 : Nat → FieldType := fun k => match k with
  | 0 => .int
  | 1 => .int
  | 2 => .array .int
  | 3 => .array .int
  | 4 => .array .int
  | _ => .array .int
theorem nmX2 : ∀ a, a < 6 → ∀ b, b < 6 → a ≠ b → (TX2 a).2.1 ≠ (TX2 b).2.1 := by decide +kernel
theorem tyX2_ok : ∀ k, k < 6 → parseFieldDescriptor (TX2 k).2.2.1 = some (tyX2 k) := by decide +kernel
abbrev cX2_init : ByteArray := prog_4_method_1_code
def yX2_init : MethodName := ⟨RX2, "<init>", "()V"⟩
abbrev cX2_isOpen : ByteArray := prog_4_method_2_code
def yX2_isOpen : MethodName := ⟨RX2, "isOpen", "()Z"⟩
abbrev cX2_savepointCount : ByteArray := prog_4_method_3_code
def yX2_savepointCount : MethodName := ⟨RX2, "savepointCount", "()I"⟩
abbrev cX2_addMoment : ByteArray := prog_4_method_4_code
def yX2_addMoment : MethodName := ⟨RX2, "addMoment", "()V"⟩
abbrev cX2_close : ByteArray := prog_4_method_5_code
def yX2_close : MethodName := ⟨RX2, "close", "()V"⟩
abbrev cX2_nearestSavepoint : ByteArray := prog_4_method_6_code
def yX2_nearestSavepoint : MethodName := ⟨RX2, "nearestSavepoint", "(I)I"⟩
abbrev cX2_lockMode : ByteArray := prog_4_method_7_code
def yX2_lockMode : MethodName := ⟨RX2, "lockMode", "(I)I"⟩
abbrev cX2_setLockMode : ByteArray := prog_4_method_8_code
def yX2_setLockMode : MethodName := ⟨RX2, "setLockMode", "(II)V"⟩
abbrev cX2_lockCount : ByteArray := prog_4_method_9_code
def yX2_lockCount : MethodName := ⟨RX2, "lockCount", "(I)I"⟩
abbrev cX2_locksChangedSince : ByteArray := prog_4_method_10_code
def yX2_locksChangedSince : MethodName := ⟨RX2, "locksChangedSince", "(I)I"⟩
abbrev cX2_undoLocks : ByteArray := prog_4_method_11_code
def yX2_undoLocks : MethodName := ⟨RX2, "undoLocks", "(I)V"⟩
abbrev cX2_noteChange : ByteArray := prog_4_method_12_code
def yX2_noteChange : MethodName := ⟨RX2, "noteChange", "(II)V"⟩
abbrev cX2_noteChangeAt : ByteArray := prog_4_method_13_code
def yX2_noteChangeAt : MethodName := ⟨RX2, "noteChangeAt", "(III)V"⟩
abbrev cX2_keysChangedSince : ByteArray := prog_4_method_14_code
def yX2_keysChangedSince : MethodName := ⟨RX2, "keysChangedSince", "(I)I"⟩
abbrev cX2_valueAt : ByteArray := prog_4_method_15_code
def yX2_valueAt : MethodName := ⟨RX2, "valueAt", "(III)I"⟩
abbrev cX2_forgetChangesSince : ByteArray := prog_4_method_16_code
def yX2_forgetChangesSince : MethodName := ⟨RX2, "forgetChangesSince", "(I)V"⟩
abbrev cX2_dropMomentsAfter : ByteArray := prog_4_method_17_code
def yX2_dropMomentsAfter : MethodName := ⟨RX2, "dropMomentsAfter", "(I)V"⟩
abbrev cX2_copyFrom : ByteArray := prog_4_method_18_code
def yX2_copyFrom : MethodName := ⟨RX2, "copyFrom", "(LSavepointStore$Transaction;)V"⟩
def RX3 : String := "SavepointStore"
def TX3 : u_T := fun k => match k with
  | 0 => ("SavepointStore", "now", "LSavepointStore$State;", true)
  | 1 => ("SavepointStore", "snapshot", "LSavepointStore$State;", true)
  | 2 => ("SavepointStore", "hasSnapshot", "Z", false)
  | 3 => ("SavepointStore", "history", "[LSavepointStore$State;", true)
  | 4 => ("SavepointStore", "oldestSlot", "I", false)
  | 5 => ("SavepointStore", "historyLength", "I", false)
  | _ => ("SavepointStore", "script", "LSavepointStore$Script;", true)
def tyX3 : Nat → FieldType := fun k => match k with
  | 0 => .object "SavepointStore$State"
  | 1 => .object "SavepointStore$State"
  | 2 => .boolean
  | 3 => .array (.object "SavepointStore$State")
  | 4 => .int
  | 5 => .int
  | _ => .object "SavepointStore$Script"
theorem nmX3 : ∀ a, a < 7 → ∀ b, b < 7 → a ≠ b → (TX3 a).2.1 ≠ (TX3 b).2.1 := by decide +kernel
theorem tyX3_ok : ∀ k, k < 7 → parseFieldDescriptor (TX3 k).2.2.1 = some (tyX3 k) := by decide +kernel
abbrev cX3_init : ByteArray := prog_1_method_1_code
def yX3_init : MethodName := ⟨RX3, "<init>", "()V"⟩
abbrev cX3_keep : ByteArray := prog_1_method_2_code
def yX3_keep : MethodName := ⟨RX3, "keep", "(Z)I"⟩
abbrev cX3_begin : ByteArray := prog_1_method_3_code
def yX3_begin : MethodName := ⟨RX3, "begin", "(I)I"⟩
abbrev cX3_commit : ByteArray := prog_1_method_4_code
def yX3_commit : MethodName := ⟨RX3, "commit", "(I)I"⟩
abbrev cX3_rollback : ByteArray := prog_1_method_5_code
def yX3_rollback : MethodName := ⟨RX3, "rollback", "(I)I"⟩
abbrev cX3_savepoint : ByteArray := prog_1_method_6_code
def yX3_savepoint : MethodName := ⟨RX3, "savepoint", "(II)I"⟩
abbrev cX3_undoTo : ByteArray := prog_1_method_7_code
def yX3_undoTo : MethodName := ⟨RX3, "undoTo", "(II)I"⟩
abbrev cX3_release : ByteArray := prog_1_method_8_code
def yX3_release : MethodName := ⟨RX3, "release", "(II)I"⟩
abbrev cX3_read : ByteArray := prog_1_method_9_code
def yX3_read : MethodName := ⟨RX3, "read", "(II)I"⟩
abbrev cX3_write : ByteArray := prog_1_method_10_code
def yX3_write : MethodName := ⟨RX3, "write", "(III)I"⟩
abbrev cX3_erase : ByteArray := prog_1_method_11_code
def yX3_erase : MethodName := ⟨RX3, "erase", "(II)I"⟩
abbrev cX3_shift : ByteArray := prog_1_method_12_code
def yX3_shift : MethodName := ⟨RX3, "shift", "(III)I"⟩
abbrev cX3_move : ByteArray := prog_1_method_13_code
def yX3_move : MethodName := ⟨RX3, "move", "(IIII)I"⟩
abbrev cX3_value : ByteArray := prog_1_method_21_code
def yX3_value : MethodName := ⟨RX3, "value", "(I)I"⟩
abbrev cX3_committed : ByteArray := prog_1_method_22_code
def yX3_committed : MethodName := ⟨RX3, "committed", "(I)I"⟩
abbrev cX3_mode : ByteArray := prog_1_method_23_code
def yX3_mode : MethodName := ⟨RX3, "mode", "(II)I"⟩
abbrev cX3_busyFor : ByteArray := prog_1_method_24_code
def yX3_busyFor : MethodName := ⟨RX3, "busyFor", "(II)I"⟩
abbrev cX3_session : ByteArray := prog_1_method_25_code
def yX3_session : MethodName := ⟨RX3, "session", "(II)I"⟩
abbrev cX3_nameOf : ByteArray := prog_1_method_26_code
def yX3_nameOf : MethodName := ⟨RX3, "nameOf", "(II)I"⟩
abbrev cX3_nearest : ByteArray := prog_1_method_27_code
def yX3_nearest : MethodName := ⟨RX3, "nearest", "(II)I"⟩
abbrev cX3_changedSince : ByteArray := prog_1_method_28_code
def yX3_changedSince : MethodName := ⟨RX3, "changedSince", "(IIZ)I"⟩
abbrev cX3_ifUndone : ByteArray := prog_1_method_29_code
def yX3_ifUndone : MethodName := ⟨RX3, "ifUndone", "(III)I"⟩
abbrev cX3_total : ByteArray := prog_1_method_30_code
def yX3_total : MethodName := ⟨RX3, "total", "(I)I"⟩
abbrev cX3_mean : ByteArray := prog_1_method_31_code
def yX3_mean : MethodName := ⟨RX3, "mean", "()D"⟩
abbrev cX3_slotBehindHistory : ByteArray := prog_1_method_32_code
def yX3_slotBehindHistory : MethodName := ⟨RX3, "slotBehindHistory", "()I"⟩
abbrev cX3_rememberState : ByteArray := prog_1_method_33_code
def yX3_rememberState : MethodName := ⟨RX3, "rememberState", "()V"⟩
abbrev cX3_recordUnlessError : ByteArray := prog_1_method_34_code
def yX3_recordUnlessError : MethodName := ⟨RX3, "recordUnlessError", "(I)I"⟩
abbrev cX3_isError : ByteArray := prog_1_method_36_code
def yX3_isError : MethodName := ⟨RX3, "isError", "(I)Z"⟩
abbrev cX3_isSession : ByteArray := prog_1_method_37_code
def yX3_isSession : MethodName := ⟨RX3, "isSession", "(I)Z"⟩
abbrev cX3_isKey : ByteArray := prog_1_method_38_code
def yX3_isKey : MethodName := ⟨RX3, "isKey", "(I)Z"⟩
abbrev cX3_isName : ByteArray := prog_1_method_39_code
def yX3_isName : MethodName := ⟨RX3, "isName", "(I)Z"⟩
abbrev cX3_isValue : ByteArray := prog_1_method_40_code
def yX3_isValue : MethodName := ⟨RX3, "isValue", "(I)Z"⟩
abbrev cX3_momentOf : ByteArray := prog_1_method_41_code
def yX3_momentOf : MethodName := ⟨RX3, "momentOf", "(I)I"⟩
def RX4 : String := "SavepointStoreModel"
def TX4 : u_T := fun k => match k with
  | _ => ("", "", "", false)
def tyX4 : Nat → FieldType := fun k => match k with
  | _ => .int
theorem nmX4 : ∀ a, a < 0 → ∀ b, b < 0 → a ≠ b → (TX4 a).2.1 ≠ (TX4 b).2.1 := by decide +kernel
theorem tyX4_ok : ∀ k, k < 0 → parseFieldDescriptor (TX4 k).2.2.1 = some (tyX4 k) := by decide +kernel
def RJ6 : String := "java/lang/Integer"
abbrev cJ6_bitCount_0f7a4 : ByteArray := prog_7_method_49_code
def yJ6_bitCount_0f7a4 : MethodName := ⟨RJ6, "bitCount", "(I)I"⟩
def RJ9 : String := "java/lang/Math"
abbrev cJ9_max_7cf53 : ByteArray := prog_8_method_65_code
def yJ9_max_7cf53 : MethodName := ⟨RJ9, "max", "(II)I"⟩
abbrev cJ9_min_7cf53 : ByteArray := prog_8_method_69_code
def yJ9_min_7cf53 : MethodName := ⟨RJ9, "min", "(II)I"⟩
def RJ10 : String := "java/lang/System"
def RL : String := "SavepointStoreLaw"
abbrev cL_cell : ByteArray := method_2_code
def yL_cell : MethodName := ⟨RL, "cell", "([II)I"⟩
abbrev cL_low : ByteArray := method_3_code
def yL_low : MethodName := ⟨RL, "low", "(II)I"⟩
abbrev cL_look : ByteArray := method_4_code
def yL_look : MethodName := ⟨RL, "look", "(LSavepointStore;[I[I)V"⟩
abbrev cL_areValues : ByteArray := method_5_code
def yL_areValues : MethodName := ⟨RL, "areValues", "(LSavepointStore;[I)Z"⟩
abbrev cL_otherModes : ByteArray := method_6_code
def yL_otherModes : MethodName := ⟨RL, "otherModes", "(LSavepointStore;[II)I"⟩
abbrev cL_isSession : ByteArray := method_7_code
def yL_isSession : MethodName := ⟨RL, "isSession", "(LSavepointStore;I)Z"⟩
abbrev cL_holds : ByteArray := method_8_code
def yL_holds : MethodName := ⟨RL, "holds", "(LSavepointStore;)Z"⟩
abbrev cL_doneBy : ByteArray := method_9_code
def yL_doneBy : MethodName := ⟨RL, "doneBy", "(LSavepointStore;III)I"⟩
abbrev cL_states : ByteArray := method_10_code
def yL_states : MethodName := ⟨RL, "states", "(LSavepointStore;IIII[I[I)Z"⟩
abbrev cL_undoes : ByteArray := method_11_code
def yL_undoes : MethodName := ⟨RL, "undoes", "(LSavepointStore;III[I[I)Z"⟩
abbrev cL_closes : ByteArray := method_12_code
def yL_closes : MethodName := ⟨RL, "closes", "(LSavepointStore;IZ[I[I)Z"⟩
abbrev cL_act : ByteArray := method_13_code
def yL_act : MethodName := ⟨RL, "act", "(LSavepointStore;II[I)Z"⟩
abbrev cL_law : ByteArray := code
def yL_law : MethodName := ⟨RL, "law", "([I)Z"⟩
abbrev vwCl : List vw_C := [(RX0, TX0, 2), (RX1, TX1, 4), (RX2, TX2, 6), (RX3, TX3, 7)]
/-- the words of the tables that any method may hand on to those that it calls -/
def lw_g : List Cond := lw_tbl.filter goodWord
theorem lw_g_in {w : Cond} (h : w ∈ lw_g) : w ∈ lw_tbl := (List.mem_filter.mp h).1
theorem lw_g_of {w : Cond} (h : w ∈ lw_tbl) (g : goodWord w = true) : w ∈ lw_g := List.mem_filter.mpr ⟨h, g⟩
/-- links between nest mates: they hold in any later state of the machine too -/
def lw_nest : Cond → Bool
  | .fieldLinkNest .. => true
  | .methodLinkNest .. => true
  | _ => false
def lw_n : List Cond := lw_tbl.filter lw_nest
theorem lw_n_of {w : Cond} (h : w ∈ lw_tbl) (g : lw_nest w = true) : w ∈ lw_n := List.mem_filter.mpr ⟨h, g⟩
def sv_Nw (U : State) : Prop := ∀ w ∈ lw_n, va_Nw w U
theorem sv_Nw_warm {s U : State} (hW : s.WarmedH U.vm) (h : sv_Nw s) : sv_Nw U := by
  intro w hw
  have h1 := h w hw
  have h2 := (List.mem_filter.mp hw).2
  cases w <;> first | exact va_Nw.warmF hW h1 | exact va_Nw.warmM hW h1 | (simp [lw_nest] at h2)
theorem inX0 : ∀ w ∈ u_ws RX0 TX0 2, w ∈ lw_g := by decide +kernel
theorem inX1 : ∀ w ∈ u_ws RX1 TX1 4, w ∈ lw_g := by decide +kernel
theorem inX2 : ∀ w ∈ u_ws RX2 TX2 6, w ∈ lw_g := by decide +kernel
theorem inX3 : ∀ w ∈ u_ws RX3 TX3 7, w ∈ lw_g := by decide +kernel
end
section
set_option maxRecDepth 20000 in
theorem dX0_init_0 : decode cX0_init 0 = .ok (.aload_n 0, 1) := by decide +kernel
set_option maxRecDepth 20000 in
theorem dX0_init_1 : decode cX0_init 1 = .ok (.invokespecial 3, 3) := by decide +kernel
set_option maxRecDepth 20000 in
theorem dX0_init_4 : decode cX0_init 4 = .ok (.aload_n 0, 1) := by decide +kernel
set_option maxRecDepth 20000 in
theorem dX0_init_5 : decode cX0_init 5 = .ok (.bipush 80, 2) := by decide +kernel
set_option maxRecDepth 20000 in
theorem dX0_init_7 : decode cX0_init 7 = .ok (.newarray .char, 2) := by decide +kernel
set_option maxRecDepth 20000 in
theorem dX0_init_9 : decode cX0_init 9 = .ok (.putfield 9, 3) := by decide +kernel
set_option maxRecDepth 20000 in
theorem dX0_init_12 : decode cX0_init 12 = .ok (.return_, 1) := by decide +kernel
set_option maxRecDepth 20000 in
theorem dX1_init_0 : decode cX1_init 0 = .ok (.aload_n 0, 1) := by decide +kernel
set_option maxRecDepth 20000 in
theorem dX1_init_1 : decode cX1_init 1 = .ok (.invokespecial 3, 3) := by decide +kernel
set_option maxRecDepth 20000 in
theorem dX1_init_4 : decode cX1_init 4 = .ok (.aload_n 0, 1) := by decide +kernel
set_option maxRecDepth 20000 in
theorem dX1_init_5 : decode cX1_init 5 = .ok (.bipush 16, 2) := by decide +kernel
set_option maxRecDepth 20000 in
theorem dX1_init_7 : decode cX1_init 7 = .ok (.newarray .int, 2) := by decide +kernel
set_option maxRecDepth 20000 in
theorem dX1_init_9 : decode cX1_init 9 = .ok (.putfield 9, 3) := by decide +kernel
set_option maxRecDepth 20000 in
theorem dX1_init_12 : decode cX1_init 12 = .ok (.aload_n 0, 1) := by decide +kernel
set_option maxRecDepth 20000 in
theorem dX1_init_13 : decode cX1_init 13 = .ok (.iconst 3, 1) := by decide +kernel
set_option maxRecDepth 20000 in
theorem dX1_init_14 : decode cX1_init 14 = .ok (.anewarray 15, 3) := by decide +kernel
set_option maxRecDepth 20000 in
theorem dX1_init_17 : decode cX1_init 17 = .ok (.putfield 17, 3) := by decide +kernel
set_option maxRecDepth 20000 in
theorem dX1_init_20 : decode cX1_init 20 = .ok (.aload_n 0, 1) := by decide +kernel
set_option maxRecDepth 20000 in
theorem dX1_init_21 : decode cX1_init 21 = .ok (.bipush 7, 2) := by decide +kernel
set_option maxRecDepth 20000 in
theorem dX1_init_23 : decode cX1_init 23 = .ok (.newarray .int, 2) := by decide +kernel
set_option maxRecDepth 20000 in
theorem dX1_init_25 : decode cX1_init 25 = .ok (.putfield 21, 3) := by decide +kernel
set_option maxRecDepth 20000 in
theorem dX1_init_28 : decode cX1_init 28 = .ok (.iconst 0, 1) := by decide +kernel
set_option maxRecDepth 20000 in
theorem dX1_init_29 : decode cX1_init 29 = .ok (.istore_n 1, 1) := by decide +kernel
set_option maxRecDepth 20000 in
theorem dX1_init_30 : decode cX1_init 30 = .ok (.iload_n 1, 1) := by decide +kernel
set_option maxRecDepth 20000 in
theorem dX1_init_31 : decode cX1_init 31 = .ok (.bipush 16, 2) := by decide +kernel
set_option maxRecDepth 20000 in
theorem dX1_init_33 : decode cX1_init 33 = .ok (.if_icmp .ge 17, 3) := by decide +kernel
set_option maxRecDepth 20000 in
theorem dX1_init_36 : decode cX1_init 36 = .ok (.aload_n 0, 1) := by decide +kernel
set_option maxRecDepth 20000 in
theorem dX1_init_37 : decode cX1_init 37 = .ok (.getfield 9, 3) := by decide +kernel
set_option maxRecDepth 20000 in
theorem dX1_init_40 : decode cX1_init 40 = .ok (.iload_n 1, 1) := by decide +kernel
set_option maxRecDepth 20000 in
theorem dX1_init_41 : decode cX1_init 41 = .ok (.bipush (-5), 2) := by decide +kernel
set_option maxRecDepth 20000 in
theorem dX1_init_43 : decode cX1_init 43 = .ok (.iastore, 1) := by decide +kernel
set_option maxRecDepth 20000 in
theorem dX1_init_44 : decode cX1_init 44 = .ok (.iinc 1 1, 3) := by decide +kernel
set_option maxRecDepth 20000 in
theorem dX1_init_47 : decode cX1_init 47 = .ok (.goto (-17), 3) := by decide +kernel
set_option maxRecDepth 20000 in
theorem dX1_init_50 : decode cX1_init 50 = .ok (.iconst 0, 1) := by decide +kernel
set_option maxRecDepth 20000 in
theorem dX1_init_51 : decode cX1_init 51 = .ok (.istore_n 1, 1) := by decide +kernel
set_option maxRecDepth 20000 in
theorem dX1_init_52 : decode cX1_init 52 = .ok (.iload_n 1, 1) := by decide +kernel
set_option maxRecDepth 20000 in
theorem dX1_init_53 : decode cX1_init 53 = .ok (.iconst 3, 1) := by decide +kernel
set_option maxRecDepth 20000 in
theorem dX1_init_54 : decode cX1_init 54 = .ok (.if_icmp .ge 22, 3) := by decide +kernel
set_option maxRecDepth 20000 in
theorem dX1_init_57 : decode cX1_init 57 = .ok (.aload_n 0, 1) := by decide +kernel
set_option maxRecDepth 20000 in
theorem dX1_init_58 : decode cX1_init 58 = .ok (.getfield 17, 3) := by decide +kernel
set_option maxRecDepth 20000 in
theorem dX1_init_61 : decode cX1_init 61 = .ok (.iload_n 1, 1) := by decide +kernel
set_option maxRecDepth 20000 in
theorem dX1_init_62 : decode cX1_init 62 = .ok (.new 15, 3) := by decide +kernel
set_option maxRecDepth 20000 in
theorem dX1_init_65 : decode cX1_init 65 = .ok (.dup, 1) := by decide +kernel
set_option maxRecDepth 20000 in
theorem dX1_init_66 : decode cX1_init 66 = .ok (.invokespecial 24, 3) := by decide +kernel
set_option maxRecDepth 20000 in
theorem dX1_init_69 : decode cX1_init 69 = .ok (.aastore, 1) := by decide +kernel
set_option maxRecDepth 20000 in
theorem dX1_init_70 : decode cX1_init 70 = .ok (.iinc 1 1, 3) := by decide +kernel
set_option maxRecDepth 20000 in
theorem dX1_init_73 : decode cX1_init 73 = .ok (.goto (-21), 3) := by decide +kernel
set_option maxRecDepth 20000 in
theorem dX1_init_76 : decode cX1_init 76 = .ok (.return_, 1) := by decide +kernel
set_option maxRecDepth 20000 in
theorem dX1_copyFrom_0 : decode cX1_copyFrom 0 = .ok (.aload_n 0, 1) := by decide +kernel
set_option maxRecDepth 20000 in
theorem dX1_copyFrom_1 : decode cX1_copyFrom 1 = .ok (.aload_n 1, 1) := by decide +kernel
set_option maxRecDepth 20000 in
theorem dX1_copyFrom_2 : decode cX1_copyFrom 2 = .ok (.getfield 25, 3) := by decide +kernel
set_option maxRecDepth 20000 in
theorem dX1_copyFrom_5 : decode cX1_copyFrom 5 = .ok (.putfield 25, 3) := by decide +kernel
set_option maxRecDepth 20000 in
theorem dX1_copyFrom_8 : decode cX1_copyFrom 8 = .ok (.aload_n 1, 1) := by decide +kernel
set_option maxRecDepth 20000 in
theorem dX1_copyFrom_9 : decode cX1_copyFrom 9 = .ok (.getfield 9, 3) := by decide +kernel
set_option maxRecDepth 20000 in
theorem dX1_copyFrom_12 : decode cX1_copyFrom 12 = .ok (.iconst 0, 1) := by decide +kernel
set_option maxRecDepth 20000 in
theorem dX1_copyFrom_13 : decode cX1_copyFrom 13 = .ok (.aload_n 0, 1) := by decide +kernel
set_option maxRecDepth 20000 in
theorem dX1_copyFrom_14 : decode cX1_copyFrom 14 = .ok (.getfield 9, 3) := by decide +kernel
set_option maxRecDepth 20000 in
theorem dX1_copyFrom_17 : decode cX1_copyFrom 17 = .ok (.iconst 0, 1) := by decide +kernel
set_option maxRecDepth 20000 in
theorem dX1_copyFrom_18 : decode cX1_copyFrom 18 = .ok (.bipush 16, 2) := by decide +kernel
set_option maxRecDepth 20000 in
theorem dX1_copyFrom_20 : decode cX1_copyFrom 20 = .ok (.invokestatic 29, 3) := by decide +kernel
set_option maxRecDepth 20000 in
theorem dX1_copyFrom_23 : decode cX1_copyFrom 23 = .ok (.iconst 0, 1) := by decide +kernel
set_option maxRecDepth 20000 in
theorem dX1_copyFrom_24 : decode cX1_copyFrom 24 = .ok (.istore_n 2, 1) := by decide +kernel
set_option maxRecDepth 20000 in
theorem dX1_copyFrom_25 : decode cX1_copyFrom 25 = .ok (.iload_n 2, 1) := by decide +kernel
set_option maxRecDepth 20000 in
theorem dX1_copyFrom_26 : decode cX1_copyFrom 26 = .ok (.iconst 3, 1) := by decide +kernel
set_option maxRecDepth 20000 in
theorem dX1_copyFrom_27 : decode cX1_copyFrom 27 = .ok (.if_icmp .ge 24, 3) := by decide +kernel
set_option maxRecDepth 20000 in
theorem dX1_copyFrom_30 : decode cX1_copyFrom 30 = .ok (.aload_n 0, 1) := by decide +kernel
set_option maxRecDepth 20000 in
theorem dX1_copyFrom_31 : decode cX1_copyFrom 31 = .ok (.getfield 17, 3) := by decide +kernel
set_option maxRecDepth 20000 in
theorem dX1_copyFrom_34 : decode cX1_copyFrom 34 = .ok (.iload_n 2, 1) := by decide +kernel
set_option maxRecDepth 20000 in
theorem dX1_copyFrom_35 : decode cX1_copyFrom 35 = .ok (.aaload, 1) := by decide +kernel
set_option maxRecDepth 20000 in
theorem dX1_copyFrom_36 : decode cX1_copyFrom 36 = .ok (.aload_n 1, 1) := by decide +kernel
set_option maxRecDepth 20000 in
theorem dX1_copyFrom_37 : decode cX1_copyFrom 37 = .ok (.getfield 17, 3) := by decide +kernel
set_option maxRecDepth 20000 in
theorem dX1_copyFrom_40 : decode cX1_copyFrom 40 = .ok (.iload_n 2, 1) := by decide +kernel
set_option maxRecDepth 20000 in
theorem dX1_copyFrom_41 : decode cX1_copyFrom 41 = .ok (.aaload, 1) := by decide +kernel
set_option maxRecDepth 20000 in
theorem dX1_copyFrom_42 : decode cX1_copyFrom 42 = .ok (.invokevirtual 35, 3) := by decide +kernel
set_option maxRecDepth 20000 in
theorem dX1_copyFrom_45 : decode cX1_copyFrom 45 = .ok (.iinc 2 1, 3) := by decide +kernel
set_option maxRecDepth 20000 in
theorem dX1_copyFrom_48 : decode cX1_copyFrom 48 = .ok (.goto (-23), 3) := by decide +kernel
set_option maxRecDepth 20000 in
theorem dX1_copyFrom_51 : decode cX1_copyFrom 51 = .ok (.aload_n 1, 1) := by decide +kernel
set_option maxRecDepth 20000 in
theorem dX1_copyFrom_52 : decode cX1_copyFrom 52 = .ok (.getfield 21, 3) := by decide +kernel
set_option maxRecDepth 20000 in
theorem dX1_copyFrom_55 : decode cX1_copyFrom 55 = .ok (.iconst 0, 1) := by decide +kernel
set_option maxRecDepth 20000 in
theorem dX1_copyFrom_56 : decode cX1_copyFrom 56 = .ok (.aload_n 0, 1) := by decide +kernel
set_option maxRecDepth 20000 in
theorem dX1_copyFrom_57 : decode cX1_copyFrom 57 = .ok (.getfield 21, 3) := by decide +kernel
set_option maxRecDepth 20000 in
theorem dX1_copyFrom_60 : decode cX1_copyFrom 60 = .ok (.iconst 0, 1) := by decide +kernel
set_option maxRecDepth 20000 in
theorem dX1_copyFrom_61 : decode cX1_copyFrom 61 = .ok (.bipush 7, 2) := by decide +kernel
set_option maxRecDepth 20000 in
theorem dX1_copyFrom_63 : decode cX1_copyFrom 63 = .ok (.invokestatic 29, 3) := by decide +kernel
set_option maxRecDepth 20000 in
theorem dX1_copyFrom_66 : decode cX1_copyFrom 66 = .ok (.return_, 1) := by decide +kernel
set_option maxRecDepth 20000 in
theorem dX1_valueCount_0 : decode cX1_valueCount 0 = .ok (.iconst 0, 1) := by decide +kernel
set_option maxRecDepth 20000 in
theorem dX1_valueCount_1 : decode cX1_valueCount 1 = .ok (.istore_n 1, 1) := by decide +kernel
set_option maxRecDepth 20000 in
theorem dX1_valueCount_2 : decode cX1_valueCount 2 = .ok (.iconst 0, 1) := by decide +kernel
set_option maxRecDepth 20000 in
theorem dX1_valueCount_3 : decode cX1_valueCount 3 = .ok (.istore_n 2, 1) := by decide +kernel
set_option maxRecDepth 20000 in
theorem dX1_valueCount_4 : decode cX1_valueCount 4 = .ok (.iload_n 2, 1) := by decide +kernel
set_option maxRecDepth 20000 in
theorem dX1_valueCount_5 : decode cX1_valueCount 5 = .ok (.bipush 16, 2) := by decide +kernel
set_option maxRecDepth 20000 in
theorem dX1_valueCount_7 : decode cX1_valueCount 7 = .ok (.if_icmp .ge 23, 3) := by decide +kernel
set_option maxRecDepth 20000 in
theorem dX1_valueCount_10 : decode cX1_valueCount 10 = .ok (.aload_n 0, 1) := by decide +kernel
set_option maxRecDepth 20000 in
theorem dX1_valueCount_11 : decode cX1_valueCount 11 = .ok (.getfield 9, 3) := by decide +kernel
set_option maxRecDepth 20000 in
theorem dX1_valueCount_14 : decode cX1_valueCount 14 = .ok (.iload_n 2, 1) := by decide +kernel
set_option maxRecDepth 20000 in
theorem dX1_valueCount_15 : decode cX1_valueCount 15 = .ok (.iaload, 1) := by decide +kernel
set_option maxRecDepth 20000 in
theorem dX1_valueCount_16 : decode cX1_valueCount 16 = .ok (.bipush (-5), 2) := by decide +kernel
set_option maxRecDepth 20000 in
theorem dX1_valueCount_18 : decode cX1_valueCount 18 = .ok (.if_icmp .eq 6, 3) := by decide +kernel
set_option maxRecDepth 20000 in
theorem dX1_valueCount_21 : decode cX1_valueCount 21 = .ok (.iinc 1 1, 3) := by decide +kernel
set_option maxRecDepth 20000 in
theorem dX1_valueCount_24 : decode cX1_valueCount 24 = .ok (.iinc 2 1, 3) := by decide +kernel
set_option maxRecDepth 20000 in
theorem dX1_valueCount_27 : decode cX1_valueCount 27 = .ok (.goto (-23), 3) := by decide +kernel
set_option maxRecDepth 20000 in
theorem dX1_valueCount_30 : decode cX1_valueCount 30 = .ok (.iload_n 1, 1) := by decide +kernel
set_option maxRecDepth 20000 in
theorem dX1_valueCount_31 : decode cX1_valueCount 31 = .ok (.ireturn, 1) := by decide +kernel
set_option maxRecDepth 20000 in
theorem dX1_valueSum_0 : decode cX1_valueSum 0 = .ok (.iconst 0, 1) := by decide +kernel
set_option maxRecDepth 20000 in
theorem dX1_valueSum_1 : decode cX1_valueSum 1 = .ok (.istore_n 1, 1) := by decide +kernel
set_option maxRecDepth 20000 in
theorem dX1_valueSum_2 : decode cX1_valueSum 2 = .ok (.iconst 0, 1) := by decide +kernel
set_option maxRecDepth 20000 in
theorem dX1_valueSum_3 : decode cX1_valueSum 3 = .ok (.istore_n 2, 1) := by decide +kernel
set_option maxRecDepth 20000 in
theorem dX1_valueSum_4 : decode cX1_valueSum 4 = .ok (.iload_n 2, 1) := by decide +kernel
set_option maxRecDepth 20000 in
theorem dX1_valueSum_5 : decode cX1_valueSum 5 = .ok (.bipush 16, 2) := by decide +kernel
set_option maxRecDepth 20000 in
theorem dX1_valueSum_7 : decode cX1_valueSum 7 = .ok (.if_icmp .ge 29, 3) := by decide +kernel
set_option maxRecDepth 20000 in
theorem dX1_valueSum_10 : decode cX1_valueSum 10 = .ok (.aload_n 0, 1) := by decide +kernel
set_option maxRecDepth 20000 in
theorem dX1_valueSum_11 : decode cX1_valueSum 11 = .ok (.getfield 9, 3) := by decide +kernel
set_option maxRecDepth 20000 in
theorem dX1_valueSum_14 : decode cX1_valueSum 14 = .ok (.iload_n 2, 1) := by decide +kernel
set_option maxRecDepth 20000 in
theorem dX1_valueSum_15 : decode cX1_valueSum 15 = .ok (.iaload, 1) := by decide +kernel
set_option maxRecDepth 20000 in
theorem dX1_valueSum_16 : decode cX1_valueSum 16 = .ok (.bipush (-5), 2) := by decide +kernel
set_option maxRecDepth 20000 in
theorem dX1_valueSum_18 : decode cX1_valueSum 18 = .ok (.if_icmp .eq 12, 3) := by decide +kernel
set_option maxRecDepth 20000 in
theorem dX1_valueSum_21 : decode cX1_valueSum 21 = .ok (.iload_n 1, 1) := by decide +kernel
set_option maxRecDepth 20000 in
theorem dX1_valueSum_22 : decode cX1_valueSum 22 = .ok (.aload_n 0, 1) := by decide +kernel
set_option maxRecDepth 20000 in
theorem dX1_valueSum_23 : decode cX1_valueSum 23 = .ok (.getfield 9, 3) := by decide +kernel
set_option maxRecDepth 20000 in
theorem dX1_valueSum_26 : decode cX1_valueSum 26 = .ok (.iload_n 2, 1) := by decide +kernel
set_option maxRecDepth 20000 in
theorem dX1_valueSum_27 : decode cX1_valueSum 27 = .ok (.iaload, 1) := by decide +kernel
set_option maxRecDepth 20000 in
theorem dX1_valueSum_28 : decode cX1_valueSum 28 = .ok (.iadd, 1) := by decide +kernel
set_option maxRecDepth 20000 in
theorem dX1_valueSum_29 : decode cX1_valueSum 29 = .ok (.istore_n 1, 1) := by decide +kernel
set_option maxRecDepth 20000 in
theorem dX1_valueSum_30 : decode cX1_valueSum 30 = .ok (.iinc 2 1, 3) := by decide +kernel
set_option maxRecDepth 20000 in
theorem dX1_valueSum_33 : decode cX1_valueSum 33 = .ok (.goto (-29), 3) := by decide +kernel
set_option maxRecDepth 20000 in
theorem dX1_valueSum_36 : decode cX1_valueSum 36 = .ok (.iload_n 1, 1) := by decide +kernel
set_option maxRecDepth 20000 in
theorem dX1_valueSum_37 : decode cX1_valueSum 37 = .ok (.ireturn, 1) := by decide +kernel
set_option maxRecDepth 20000 in
theorem dX1_committedValue_0 : decode cX1_committedValue 0 = .ok (.aload_n 0, 1) := by decide +kernel
set_option maxRecDepth 20000 in
theorem dX1_committedValue_1 : decode cX1_committedValue 1 = .ok (.getfield 9, 3) := by decide +kernel
set_option maxRecDepth 20000 in
theorem dX1_committedValue_4 : decode cX1_committedValue 4 = .ok (.iload_n 1, 1) := by decide +kernel
set_option maxRecDepth 20000 in
theorem dX1_committedValue_5 : decode cX1_committedValue 5 = .ok (.iaload, 1) := by decide +kernel
set_option maxRecDepth 20000 in
theorem dX1_committedValue_6 : decode cX1_committedValue 6 = .ok (.istore_n 2, 1) := by decide +kernel
set_option maxRecDepth 20000 in
theorem dX1_committedValue_7 : decode cX1_committedValue 7 = .ok (.iconst 0, 1) := by decide +kernel
set_option maxRecDepth 20000 in
theorem dX1_committedValue_8 : decode cX1_committedValue 8 = .ok (.istore_n 3, 1) := by decide +kernel
set_option maxRecDepth 20000 in
theorem dX1_committedValue_9 : decode cX1_committedValue 9 = .ok (.iload_n 3, 1) := by decide +kernel
set_option maxRecDepth 20000 in
theorem dX1_committedValue_10 : decode cX1_committedValue 10 = .ok (.iconst 3, 1) := by decide +kernel
set_option maxRecDepth 20000 in
theorem dX1_committedValue_11 : decode cX1_committedValue 11 = .ok (.if_icmp .ge 22, 3) := by decide +kernel
set_option maxRecDepth 20000 in
theorem dX1_committedValue_14 : decode cX1_committedValue 14 = .ok (.aload_n 0, 1) := by decide +kernel
set_option maxRecDepth 20000 in
theorem dX1_committedValue_15 : decode cX1_committedValue 15 = .ok (.getfield 17, 3) := by decide +kernel
set_option maxRecDepth 20000 in
theorem dX1_committedValue_18 : decode cX1_committedValue 18 = .ok (.iload_n 3, 1) := by decide +kernel
set_option maxRecDepth 20000 in
theorem dX1_committedValue_19 : decode cX1_committedValue 19 = .ok (.aaload, 1) := by decide +kernel
set_option maxRecDepth 20000 in
theorem dX1_committedValue_20 : decode cX1_committedValue 20 = .ok (.iconst 0, 1) := by decide +kernel
set_option maxRecDepth 20000 in
theorem dX1_committedValue_21 : decode cX1_committedValue 21 = .ok (.iload_n 1, 1) := by decide +kernel
set_option maxRecDepth 20000 in
theorem dX1_committedValue_22 : decode cX1_committedValue 22 = .ok (.iload_n 2, 1) := by decide +kernel
set_option maxRecDepth 20000 in
theorem dX1_committedValue_23 : decode cX1_committedValue 23 = .ok (.invokevirtual 39, 3) := by decide +kernel
set_option maxRecDepth 20000 in
theorem dX1_committedValue_26 : decode cX1_committedValue 26 = .ok (.istore_n 2, 1) := by decide +kernel
set_option maxRecDepth 20000 in
theorem dX1_committedValue_27 : decode cX1_committedValue 27 = .ok (.iinc 3 1, 3) := by decide +kernel
set_option maxRecDepth 20000 in
theorem dX1_committedValue_30 : decode cX1_committedValue 30 = .ok (.goto (-21), 3) := by decide +kernel
set_option maxRecDepth 20000 in
theorem dX1_committedValue_33 : decode cX1_committedValue 33 = .ok (.iload_n 2, 1) := by decide +kernel
set_option maxRecDepth 20000 in
theorem dX1_committedValue_34 : decode cX1_committedValue 34 = .ok (.ireturn, 1) := by decide +kernel
set_option maxRecDepth 20000 in
theorem dX1_hasSavepoint_0 : decode cX1_hasSavepoint 0 = .ok (.iload_n 1, 1) := by decide +kernel
set_option maxRecDepth 20000 in
theorem dX1_hasSavepoint_1 : decode cX1_hasSavepoint 1 = .ok (.invokestatic 43, 3) := by decide +kernel
set_option maxRecDepth 20000 in
theorem dX1_hasSavepoint_4 : decode cX1_hasSavepoint 4 = .ok (.ifCond .eq 24, 3) := by decide +kernel
set_option maxRecDepth 20000 in
theorem dX1_hasSavepoint_7 : decode cX1_hasSavepoint 7 = .ok (.iload_n 2, 1) := by decide +kernel
set_option maxRecDepth 20000 in
theorem dX1_hasSavepoint_8 : decode cX1_hasSavepoint 8 = .ok (.ifCond .lt 20, 3) := by decide +kernel
set_option maxRecDepth 20000 in
theorem dX1_hasSavepoint_11 : decode cX1_hasSavepoint 11 = .ok (.iload_n 2, 1) := by decide +kernel
set_option maxRecDepth 20000 in
theorem dX1_hasSavepoint_12 : decode cX1_hasSavepoint 12 = .ok (.aload_n 0, 1) := by decide +kernel
set_option maxRecDepth 20000 in
theorem dX1_hasSavepoint_13 : decode cX1_hasSavepoint 13 = .ok (.getfield 17, 3) := by decide +kernel
set_option maxRecDepth 20000 in
theorem dX1_hasSavepoint_16 : decode cX1_hasSavepoint 16 = .ok (.iload_n 1, 1) := by decide +kernel
set_option maxRecDepth 20000 in
theorem dX1_hasSavepoint_17 : decode cX1_hasSavepoint 17 = .ok (.aaload, 1) := by decide +kernel
set_option maxRecDepth 20000 in
theorem dX1_hasSavepoint_18 : decode cX1_hasSavepoint 18 = .ok (.invokevirtual 47, 3) := by decide +kernel
set_option maxRecDepth 20000 in
theorem dX1_hasSavepoint_21 : decode cX1_hasSavepoint 21 = .ok (.if_icmp .ge 7, 3) := by decide +kernel
set_option maxRecDepth 20000 in
theorem dX1_hasSavepoint_24 : decode cX1_hasSavepoint 24 = .ok (.iconst 1, 1) := by decide +kernel
set_option maxRecDepth 20000 in
theorem dX1_hasSavepoint_25 : decode cX1_hasSavepoint 25 = .ok (.goto 4, 3) := by decide +kernel
set_option maxRecDepth 20000 in
theorem dX1_hasSavepoint_28 : decode cX1_hasSavepoint 28 = .ok (.iconst 0, 1) := by decide +kernel
set_option maxRecDepth 20000 in
theorem dX1_hasSavepoint_29 : decode cX1_hasSavepoint 29 = .ok (.ireturn, 1) := by decide +kernel
set_option maxRecDepth 20000 in
theorem dX1_openTransaction_0 : decode cX1_openTransaction 0 = .ok (.iload_n 1, 1) := by decide +kernel
set_option maxRecDepth 20000 in
theorem dX1_openTransaction_1 : decode cX1_openTransaction 1 = .ok (.invokestatic 43, 3) := by decide +kernel
set_option maxRecDepth 20000 in
theorem dX1_openTransaction_4 : decode cX1_openTransaction 4 = .ok (.ifCond .ne 5, 3) := by decide +kernel
set_option maxRecDepth 20000 in
theorem dX1_openTransaction_7 : decode cX1_openTransaction 7 = .ok (.iconst (-1), 1) := by decide +kernel
set_option maxRecDepth 20000 in
theorem dX1_openTransaction_8 : decode cX1_openTransaction 8 = .ok (.ireturn, 1) := by decide +kernel
set_option maxRecDepth 20000 in
theorem dX1_openTransaction_9 : decode cX1_openTransaction 9 = .ok (.aload_n 0, 1) := by decide +kernel
set_option maxRecDepth 20000 in
theorem dX1_openTransaction_10 : decode cX1_openTransaction 10 = .ok (.getfield 17, 3) := by decide +kernel
set_option maxRecDepth 20000 in
theorem dX1_openTransaction_13 : decode cX1_openTransaction 13 = .ok (.iload_n 1, 1) := by decide +kernel
set_option maxRecDepth 20000 in
theorem dX1_openTransaction_14 : decode cX1_openTransaction 14 = .ok (.aaload, 1) := by decide +kernel
set_option maxRecDepth 20000 in
theorem dX1_openTransaction_15 : decode cX1_openTransaction 15 = .ok (.invokevirtual 51, 3) := by decide +kernel
set_option maxRecDepth 20000 in
theorem dX1_openTransaction_18 : decode cX1_openTransaction 18 = .ok (.ifCond .eq 6, 3) := by decide +kernel
set_option maxRecDepth 20000 in
theorem dX1_openTransaction_21 : decode cX1_openTransaction 21 = .ok (.bipush (-4), 2) := by decide +kernel
set_option maxRecDepth 20000 in
theorem dX1_openTransaction_23 : decode cX1_openTransaction 23 = .ok (.ireturn, 1) := by decide +kernel
set_option maxRecDepth 20000 in
theorem dX1_openTransaction_24 : decode cX1_openTransaction 24 = .ok (.aload_n 0, 1) := by decide +kernel
set_option maxRecDepth 20000 in
theorem dX1_openTransaction_25 : decode cX1_openTransaction 25 = .ok (.getfield 17, 3) := by decide +kernel
set_option maxRecDepth 20000 in
theorem dX1_openTransaction_28 : decode cX1_openTransaction 28 = .ok (.iload_n 1, 1) := by decide +kernel
set_option maxRecDepth 20000 in
theorem dX1_openTransaction_29 : decode cX1_openTransaction 29 = .ok (.aaload, 1) := by decide +kernel
set_option maxRecDepth 20000 in
theorem dX1_openTransaction_30 : decode cX1_openTransaction 30 = .ok (.invokevirtual 55, 3) := by decide +kernel
set_option maxRecDepth 20000 in
theorem dX1_openTransaction_33 : decode cX1_openTransaction 33 = .ok (.iconst 0, 1) := by decide +kernel
set_option maxRecDepth 20000 in
theorem dX1_openTransaction_34 : decode cX1_openTransaction 34 = .ok (.istore_n 2, 1) := by decide +kernel
set_option maxRecDepth 20000 in
theorem dX1_openTransaction_35 : decode cX1_openTransaction 35 = .ok (.iconst 0, 1) := by decide +kernel
set_option maxRecDepth 20000 in
theorem dX1_openTransaction_36 : decode cX1_openTransaction 36 = .ok (.istore_n 3, 1) := by decide +kernel
set_option maxRecDepth 20000 in
theorem dX1_openTransaction_37 : decode cX1_openTransaction 37 = .ok (.iload_n 3, 1) := by decide +kernel
set_option maxRecDepth 20000 in
theorem dX1_openTransaction_38 : decode cX1_openTransaction 38 = .ok (.iconst 3, 1) := by decide +kernel
set_option maxRecDepth 20000 in
theorem dX1_openTransaction_39 : decode cX1_openTransaction 39 = .ok (.if_icmp .ge 24, 3) := by decide +kernel
set_option maxRecDepth 20000 in
theorem dX1_openTransaction_42 : decode cX1_openTransaction 42 = .ok (.aload_n 0, 1) := by decide +kernel
set_option maxRecDepth 20000 in
theorem dX1_openTransaction_43 : decode cX1_openTransaction 43 = .ok (.getfield 17, 3) := by decide +kernel
set_option maxRecDepth 20000 in
theorem dX1_openTransaction_46 : decode cX1_openTransaction 46 = .ok (.iload_n 3, 1) := by decide +kernel
set_option maxRecDepth 20000 in
theorem dX1_openTransaction_47 : decode cX1_openTransaction 47 = .ok (.aaload, 1) := by decide +kernel
set_option maxRecDepth 20000 in
theorem dX1_openTransaction_48 : decode cX1_openTransaction 48 = .ok (.invokevirtual 51, 3) := by decide +kernel
set_option maxRecDepth 20000 in
theorem dX1_openTransaction_51 : decode cX1_openTransaction 51 = .ok (.ifCond .eq 6, 3) := by decide +kernel
set_option maxRecDepth 20000 in
theorem dX1_openTransaction_54 : decode cX1_openTransaction 54 = .ok (.iinc 2 1, 3) := by decide +kernel
set_option maxRecDepth 20000 in
theorem dX1_openTransaction_57 : decode cX1_openTransaction 57 = .ok (.iinc 3 1, 3) := by decide +kernel
set_option maxRecDepth 20000 in
theorem dX1_openTransaction_60 : decode cX1_openTransaction 60 = .ok (.goto (-23), 3) := by decide +kernel
set_option maxRecDepth 20000 in
theorem dX1_openTransaction_63 : decode cX1_openTransaction 63 = .ok (.iload_n 2, 1) := by decide +kernel
set_option maxRecDepth 20000 in
theorem dX1_openTransaction_64 : decode cX1_openTransaction 64 = .ok (.ireturn, 1) := by decide +kernel
set_option maxRecDepth 20000 in
theorem dX1_commitTransaction_0 : decode cX1_commitTransaction 0 = .ok (.aload_n 0, 1) := by decide +kernel
set_option maxRecDepth 20000 in
theorem dX1_commitTransaction_1 : decode cX1_commitTransaction 1 = .ok (.iload_n 1, 1) := by decide +kernel
set_option maxRecDepth 20000 in
theorem dX1_commitTransaction_2 : decode cX1_commitTransaction 2 = .ok (.iconst 1, 1) := by decide +kernel
set_option maxRecDepth 20000 in
theorem dX1_commitTransaction_3 : decode cX1_commitTransaction 3 = .ok (.iconst 1, 1) := by decide +kernel
set_option maxRecDepth 20000 in
theorem dX1_commitTransaction_4 : decode cX1_commitTransaction 4 = .ok (.invokevirtual 58, 3) := by decide +kernel
set_option maxRecDepth 20000 in
theorem dX1_commitTransaction_7 : decode cX1_commitTransaction 7 = .ok (.istore_n 2, 1) := by decide +kernel
set_option maxRecDepth 20000 in
theorem dX1_commitTransaction_8 : decode cX1_commitTransaction 8 = .ok (.iload_n 2, 1) := by decide +kernel
set_option maxRecDepth 20000 in
theorem dX1_commitTransaction_9 : decode cX1_commitTransaction 9 = .ok (.ifCond .eq 5, 3) := by decide +kernel
set_option maxRecDepth 20000 in
theorem dX1_commitTransaction_12 : decode cX1_commitTransaction 12 = .ok (.iload_n 2, 1) := by decide +kernel
set_option maxRecDepth 20000 in
theorem dX1_commitTransaction_13 : decode cX1_commitTransaction 13 = .ok (.ireturn, 1) := by decide +kernel
set_option maxRecDepth 20000 in
theorem dX1_commitTransaction_14 : decode cX1_commitTransaction 14 = .ok (.iconst 0, 1) := by decide +kernel
set_option maxRecDepth 20000 in
theorem dX1_commitTransaction_15 : decode cX1_commitTransaction 15 = .ok (.istore_n 3, 1) := by decide +kernel
set_option maxRecDepth 20000 in
theorem dX1_commitTransaction_16 : decode cX1_commitTransaction 16 = .ok (.iconst 0, 1) := by decide +kernel
set_option maxRecDepth 20000 in
theorem dX1_commitTransaction_17 : decode cX1_commitTransaction 17 = .ok (.istore 4, 2) := by decide +kernel
set_option maxRecDepth 20000 in
theorem dX1_commitTransaction_19 : decode cX1_commitTransaction 19 = .ok (.iload 4, 2) := by decide +kernel
set_option maxRecDepth 20000 in
theorem dX1_commitTransaction_21 : decode cX1_commitTransaction 21 = .ok (.bipush 16, 2) := by decide +kernel
set_option maxRecDepth 20000 in
theorem dX1_commitTransaction_23 : decode cX1_commitTransaction 23 = .ok (.if_icmp .ge 41, 3) := by decide +kernel
set_option maxRecDepth 20000 in
theorem dX1_commitTransaction_26 : decode cX1_commitTransaction 26 = .ok (.aload_n 0, 1) := by decide +kernel
set_option maxRecDepth 20000 in
theorem dX1_commitTransaction_27 : decode cX1_commitTransaction 27 = .ok (.getfield 17, 3) := by decide +kernel
set_option maxRecDepth 20000 in
theorem dX1_commitTransaction_30 : decode cX1_commitTransaction 30 = .ok (.iload_n 1, 1) := by decide +kernel
set_option maxRecDepth 20000 in
theorem dX1_commitTransaction_31 : decode cX1_commitTransaction 31 = .ok (.aaload, 1) := by decide +kernel
set_option maxRecDepth 20000 in
theorem dX1_commitTransaction_32 : decode cX1_commitTransaction 32 = .ok (.iconst 0, 1) := by decide +kernel
set_option maxRecDepth 20000 in
theorem dX1_commitTransaction_33 : decode cX1_commitTransaction 33 = .ok (.iload 4, 2) := by decide +kernel
set_option maxRecDepth 20000 in
theorem dX1_commitTransaction_35 : decode cX1_commitTransaction 35 = .ok (.aload_n 0, 1) := by decide +kernel
set_option maxRecDepth 20000 in
theorem dX1_commitTransaction_36 : decode cX1_commitTransaction 36 = .ok (.getfield 9, 3) := by decide +kernel
set_option maxRecDepth 20000 in
theorem dX1_commitTransaction_39 : decode cX1_commitTransaction 39 = .ok (.iload 4, 2) := by decide +kernel
set_option maxRecDepth 20000 in
theorem dX1_commitTransaction_41 : decode cX1_commitTransaction 41 = .ok (.iaload, 1) := by decide +kernel
set_option maxRecDepth 20000 in
theorem dX1_commitTransaction_42 : decode cX1_commitTransaction 42 = .ok (.invokevirtual 39, 3) := by decide +kernel
set_option maxRecDepth 20000 in
theorem dX1_commitTransaction_45 : decode cX1_commitTransaction 45 = .ok (.aload_n 0, 1) := by decide +kernel
set_option maxRecDepth 20000 in
theorem dX1_commitTransaction_46 : decode cX1_commitTransaction 46 = .ok (.getfield 9, 3) := by decide +kernel
set_option maxRecDepth 20000 in
theorem dX1_commitTransaction_49 : decode cX1_commitTransaction 49 = .ok (.iload 4, 2) := by decide +kernel
set_option maxRecDepth 20000 in
theorem dX1_commitTransaction_51 : decode cX1_commitTransaction 51 = .ok (.iaload, 1) := by decide +kernel
set_option maxRecDepth 20000 in
theorem dX1_commitTransaction_52 : decode cX1_commitTransaction 52 = .ok (.if_icmp .eq 6, 3) := by decide +kernel
set_option maxRecDepth 20000 in
theorem dX1_commitTransaction_55 : decode cX1_commitTransaction 55 = .ok (.iinc 3 1, 3) := by decide +kernel
set_option maxRecDepth 20000 in
theorem dX1_commitTransaction_58 : decode cX1_commitTransaction 58 = .ok (.iinc 4 1, 3) := by decide +kernel
set_option maxRecDepth 20000 in
theorem dX1_commitTransaction_61 : decode cX1_commitTransaction 61 = .ok (.goto (-42), 3) := by decide +kernel
set_option maxRecDepth 20000 in
theorem dX1_commitTransaction_64 : decode cX1_commitTransaction 64 = .ok (.aload_n 0, 1) := by decide +kernel
set_option maxRecDepth 20000 in
theorem dX1_commitTransaction_65 : decode cX1_commitTransaction 65 = .ok (.getfield 17, 3) := by decide +kernel
set_option maxRecDepth 20000 in
theorem dX1_commitTransaction_68 : decode cX1_commitTransaction 68 = .ok (.iload_n 1, 1) := by decide +kernel
set_option maxRecDepth 20000 in
theorem dX1_commitTransaction_69 : decode cX1_commitTransaction 69 = .ok (.aaload, 1) := by decide +kernel
set_option maxRecDepth 20000 in
theorem dX1_commitTransaction_70 : decode cX1_commitTransaction 70 = .ok (.invokevirtual 62, 3) := by decide +kernel
set_option maxRecDepth 20000 in
theorem dX1_commitTransaction_73 : decode cX1_commitTransaction 73 = .ok (.aload_n 0, 1) := by decide +kernel
set_option maxRecDepth 20000 in
theorem dX1_commitTransaction_74 : decode cX1_commitTransaction 74 = .ok (.getfield 21, 3) := by decide +kernel
set_option maxRecDepth 20000 in
theorem dX1_commitTransaction_77 : decode cX1_commitTransaction 77 = .ok (.iconst 0, 1) := by decide +kernel
set_option maxRecDepth 20000 in
theorem dX1_commitTransaction_78 : decode cX1_commitTransaction 78 = .ok (.dup2, 1) := by decide +kernel
set_option maxRecDepth 20000 in
theorem dX1_commitTransaction_79 : decode cX1_commitTransaction 79 = .ok (.iaload, 1) := by decide +kernel
set_option maxRecDepth 20000 in
theorem dX1_commitTransaction_80 : decode cX1_commitTransaction 80 = .ok (.iconst 1, 1) := by decide +kernel
set_option maxRecDepth 20000 in
theorem dX1_commitTransaction_81 : decode cX1_commitTransaction 81 = .ok (.iadd, 1) := by decide +kernel
set_option maxRecDepth 20000 in
theorem dX1_commitTransaction_82 : decode cX1_commitTransaction 82 = .ok (.iastore, 1) := by decide +kernel
set_option maxRecDepth 20000 in
theorem dX1_commitTransaction_83 : decode cX1_commitTransaction 83 = .ok (.iload_n 3, 1) := by decide +kernel
set_option maxRecDepth 20000 in
theorem dX1_commitTransaction_84 : decode cX1_commitTransaction 84 = .ok (.ireturn, 1) := by decide +kernel
set_option maxRecDepth 20000 in
theorem dX1_rollTransactionBack_0 : decode cX1_rollTransactionBack 0 = .ok (.aload_n 0, 1) := by decide +kernel
set_option maxRecDepth 20000 in
theorem dX1_rollTransactionBack_1 : decode cX1_rollTransactionBack 1 = .ok (.iload_n 1, 1) := by decide +kernel
set_option maxRecDepth 20000 in
theorem dX1_rollTransactionBack_2 : decode cX1_rollTransactionBack 2 = .ok (.iconst 1, 1) := by decide +kernel
set_option maxRecDepth 20000 in
theorem dX1_rollTransactionBack_3 : decode cX1_rollTransactionBack 3 = .ok (.iconst 1, 1) := by decide +kernel
set_option maxRecDepth 20000 in
theorem dX1_rollTransactionBack_4 : decode cX1_rollTransactionBack 4 = .ok (.invokevirtual 58, 3) := by decide +kernel
set_option maxRecDepth 20000 in
theorem dX1_rollTransactionBack_7 : decode cX1_rollTransactionBack 7 = .ok (.istore_n 2, 1) := by decide +kernel
set_option maxRecDepth 20000 in
theorem dX1_rollTransactionBack_8 : decode cX1_rollTransactionBack 8 = .ok (.iload_n 2, 1) := by decide +kernel
set_option maxRecDepth 20000 in
theorem dX1_rollTransactionBack_9 : decode cX1_rollTransactionBack 9 = .ok (.ifCond .eq 5, 3) := by decide +kernel
set_option maxRecDepth 20000 in
theorem dX1_rollTransactionBack_12 : decode cX1_rollTransactionBack 12 = .ok (.iload_n 2, 1) := by decide +kernel
set_option maxRecDepth 20000 in
theorem dX1_rollTransactionBack_13 : decode cX1_rollTransactionBack 13 = .ok (.ireturn, 1) := by decide +kernel
set_option maxRecDepth 20000 in
theorem dX1_rollTransactionBack_14 : decode cX1_rollTransactionBack 14 = .ok (.aload_n 0, 1) := by decide +kernel
set_option maxRecDepth 20000 in
theorem dX1_rollTransactionBack_15 : decode cX1_rollTransactionBack 15 = .ok (.aload_n 0, 1) := by decide +kernel
set_option maxRecDepth 20000 in
theorem dX1_rollTransactionBack_16 : decode cX1_rollTransactionBack 16 = .ok (.getfield 17, 3) := by decide +kernel
set_option maxRecDepth 20000 in
theorem dX1_rollTransactionBack_19 : decode cX1_rollTransactionBack 19 = .ok (.iload_n 1, 1) := by decide +kernel
set_option maxRecDepth 20000 in
theorem dX1_rollTransactionBack_20 : decode cX1_rollTransactionBack 20 = .ok (.aaload, 1) := by decide +kernel
set_option maxRecDepth 20000 in
theorem dX1_rollTransactionBack_21 : decode cX1_rollTransactionBack 21 = .ok (.iconst 0, 1) := by decide +kernel
set_option maxRecDepth 20000 in
theorem dX1_rollTransactionBack_22 : decode cX1_rollTransactionBack 22 = .ok (.invokevirtual 65, 3) := by decide +kernel
set_option maxRecDepth 20000 in
theorem dX1_rollTransactionBack_25 : decode cX1_rollTransactionBack 25 = .ok (.istore_n 3, 1) := by decide +kernel
set_option maxRecDepth 20000 in
theorem dX1_rollTransactionBack_26 : decode cX1_rollTransactionBack 26 = .ok (.aload_n 0, 1) := by decide +kernel
set_option maxRecDepth 20000 in
theorem dX1_rollTransactionBack_27 : decode cX1_rollTransactionBack 27 = .ok (.getfield 17, 3) := by decide +kernel
set_option maxRecDepth 20000 in
theorem dX1_rollTransactionBack_30 : decode cX1_rollTransactionBack 30 = .ok (.iload_n 1, 1) := by decide +kernel
set_option maxRecDepth 20000 in
theorem dX1_rollTransactionBack_31 : decode cX1_rollTransactionBack 31 = .ok (.aaload, 1) := by decide +kernel
set_option maxRecDepth 20000 in
theorem dX1_rollTransactionBack_32 : decode cX1_rollTransactionBack 32 = .ok (.invokevirtual 62, 3) := by decide +kernel
set_option maxRecDepth 20000 in
theorem dX1_rollTransactionBack_35 : decode cX1_rollTransactionBack 35 = .ok (.aload_n 0, 1) := by decide +kernel
set_option maxRecDepth 20000 in
theorem dX1_rollTransactionBack_36 : decode cX1_rollTransactionBack 36 = .ok (.getfield 21, 3) := by decide +kernel
set_option maxRecDepth 20000 in
theorem dX1_rollTransactionBack_39 : decode cX1_rollTransactionBack 39 = .ok (.iconst 1, 1) := by decide +kernel
set_option maxRecDepth 20000 in
theorem dX1_rollTransactionBack_40 : decode cX1_rollTransactionBack 40 = .ok (.dup2, 1) := by decide +kernel
set_option maxRecDepth 20000 in
theorem dX1_rollTransactionBack_41 : decode cX1_rollTransactionBack 41 = .ok (.iaload, 1) := by decide +kernel
set_option maxRecDepth 20000 in
theorem dX1_rollTransactionBack_42 : decode cX1_rollTransactionBack 42 = .ok (.iconst 1, 1) := by decide +kernel
set_option maxRecDepth 20000 in
theorem dX1_rollTransactionBack_43 : decode cX1_rollTransactionBack 43 = .ok (.iadd, 1) := by decide +kernel
set_option maxRecDepth 20000 in
theorem dX1_rollTransactionBack_44 : decode cX1_rollTransactionBack 44 = .ok (.iastore, 1) := by decide +kernel
set_option maxRecDepth 20000 in
theorem dX1_rollTransactionBack_45 : decode cX1_rollTransactionBack 45 = .ok (.iload_n 3, 1) := by decide +kernel
set_option maxRecDepth 20000 in
theorem dX1_rollTransactionBack_46 : decode cX1_rollTransactionBack 46 = .ok (.ireturn, 1) := by decide +kernel
set_option maxRecDepth 20000 in
theorem dX1_setSavepoint_0 : decode cX1_setSavepoint 0 = .ok (.aload_n 0, 1) := by decide +kernel
set_option maxRecDepth 20000 in
theorem dX1_setSavepoint_1 : decode cX1_setSavepoint 1 = .ok (.iload_n 1, 1) := by decide +kernel
set_option maxRecDepth 20000 in
theorem dX1_setSavepoint_2 : decode cX1_setSavepoint 2 = .ok (.iconst 1, 1) := by decide +kernel
set_option maxRecDepth 20000 in
theorem dX1_setSavepoint_3 : decode cX1_setSavepoint 3 = .ok (.iload_n 2, 1) := by decide +kernel
set_option maxRecDepth 20000 in
theorem dX1_setSavepoint_4 : decode cX1_setSavepoint 4 = .ok (.invokestatic 69, 3) := by decide +kernel
set_option maxRecDepth 20000 in
theorem dX1_setSavepoint_7 : decode cX1_setSavepoint 7 = .ok (.invokevirtual 58, 3) := by decide +kernel
set_option maxRecDepth 20000 in
theorem dX1_setSavepoint_10 : decode cX1_setSavepoint 10 = .ok (.istore_n 3, 1) := by decide +kernel
set_option maxRecDepth 20000 in
theorem dX1_setSavepoint_11 : decode cX1_setSavepoint 11 = .ok (.iload_n 3, 1) := by decide +kernel
set_option maxRecDepth 20000 in
theorem dX1_setSavepoint_12 : decode cX1_setSavepoint 12 = .ok (.ifCond .eq 5, 3) := by decide +kernel
set_option maxRecDepth 20000 in
theorem dX1_setSavepoint_15 : decode cX1_setSavepoint 15 = .ok (.iload_n 3, 1) := by decide +kernel
set_option maxRecDepth 20000 in
theorem dX1_setSavepoint_16 : decode cX1_setSavepoint 16 = .ok (.ireturn, 1) := by decide +kernel
set_option maxRecDepth 20000 in
theorem dX1_setSavepoint_17 : decode cX1_setSavepoint 17 = .ok (.aload_n 0, 1) := by decide +kernel
set_option maxRecDepth 20000 in
theorem dX1_setSavepoint_18 : decode cX1_setSavepoint 18 = .ok (.getfield 17, 3) := by decide +kernel
set_option maxRecDepth 20000 in
theorem dX1_setSavepoint_21 : decode cX1_setSavepoint 21 = .ok (.iload_n 1, 1) := by decide +kernel
set_option maxRecDepth 20000 in
theorem dX1_setSavepoint_22 : decode cX1_setSavepoint 22 = .ok (.aaload, 1) := by decide +kernel
set_option maxRecDepth 20000 in
theorem dX1_setSavepoint_23 : decode cX1_setSavepoint 23 = .ok (.astore 4, 2) := by decide +kernel
set_option maxRecDepth 20000 in
theorem dX1_setSavepoint_25 : decode cX1_setSavepoint 25 = .ok (.aload 4, 2) := by decide +kernel
set_option maxRecDepth 20000 in
theorem dX1_setSavepoint_27 : decode cX1_setSavepoint 27 = .ok (.invokevirtual 47, 3) := by decide +kernel
set_option maxRecDepth 20000 in
theorem dX1_setSavepoint_30 : decode cX1_setSavepoint 30 = .ok (.istore 5, 2) := by decide +kernel
set_option maxRecDepth 20000 in
theorem dX1_setSavepoint_32 : decode cX1_setSavepoint 32 = .ok (.iload 5, 2) := by decide +kernel
set_option maxRecDepth 20000 in
theorem dX1_setSavepoint_34 : decode cX1_setSavepoint 34 = .ok (.bipush 12, 2) := by decide +kernel
set_option maxRecDepth 20000 in
theorem dX1_setSavepoint_36 : decode cX1_setSavepoint 36 = .ok (.if_icmp .lt 6, 3) := by decide +kernel
set_option maxRecDepth 20000 in
theorem dX1_setSavepoint_39 : decode cX1_setSavepoint 39 = .ok (.bipush (-3), 2) := by decide +kernel
set_option maxRecDepth 20000 in
theorem dX1_setSavepoint_41 : decode cX1_setSavepoint 41 = .ok (.ireturn, 1) := by decide +kernel
set_option maxRecDepth 20000 in
theorem dX1_setSavepoint_42 : decode cX1_setSavepoint 42 = .ok (.aload 4, 2) := by decide +kernel
set_option maxRecDepth 20000 in
theorem dX1_setSavepoint_44 : decode cX1_setSavepoint 44 = .ok (.getfield 72, 3) := by decide +kernel
set_option maxRecDepth 20000 in
theorem dX1_setSavepoint_47 : decode cX1_setSavepoint 47 = .ok (.iload 5, 2) := by decide +kernel
set_option maxRecDepth 20000 in
theorem dX1_setSavepoint_49 : decode cX1_setSavepoint 49 = .ok (.iload_n 2, 1) := by decide +kernel
set_option maxRecDepth 20000 in
theorem dX1_setSavepoint_50 : decode cX1_setSavepoint 50 = .ok (.iastore, 1) := by decide +kernel
set_option maxRecDepth 20000 in
theorem dX1_setSavepoint_51 : decode cX1_setSavepoint 51 = .ok (.aload 4, 2) := by decide +kernel
set_option maxRecDepth 20000 in
theorem dX1_setSavepoint_53 : decode cX1_setSavepoint 53 = .ok (.invokevirtual 55, 3) := by decide +kernel
set_option maxRecDepth 20000 in
theorem dX1_setSavepoint_56 : decode cX1_setSavepoint 56 = .ok (.aload_n 0, 1) := by decide +kernel
set_option maxRecDepth 20000 in
theorem dX1_setSavepoint_57 : decode cX1_setSavepoint 57 = .ok (.getfield 21, 3) := by decide +kernel
set_option maxRecDepth 20000 in
theorem dX1_setSavepoint_60 : decode cX1_setSavepoint 60 = .ok (.bipush 6, 2) := by decide +kernel
set_option maxRecDepth 20000 in
theorem dX1_setSavepoint_62 : decode cX1_setSavepoint 62 = .ok (.dup2, 1) := by decide +kernel
set_option maxRecDepth 20000 in
theorem dX1_setSavepoint_63 : decode cX1_setSavepoint 63 = .ok (.iaload, 1) := by decide +kernel
set_option maxRecDepth 20000 in
theorem dX1_setSavepoint_64 : decode cX1_setSavepoint 64 = .ok (.iconst 1, 1) := by decide +kernel
set_option maxRecDepth 20000 in
theorem dX1_setSavepoint_65 : decode cX1_setSavepoint 65 = .ok (.iadd, 1) := by decide +kernel
set_option maxRecDepth 20000 in
theorem dX1_setSavepoint_66 : decode cX1_setSavepoint 66 = .ok (.iastore, 1) := by decide +kernel
set_option maxRecDepth 20000 in
theorem dX1_setSavepoint_67 : decode cX1_setSavepoint 67 = .ok (.iload 5, 2) := by decide +kernel
set_option maxRecDepth 20000 in
theorem dX1_setSavepoint_69 : decode cX1_setSavepoint 69 = .ok (.ireturn, 1) := by decide +kernel
set_option maxRecDepth 20000 in
theorem dX1_undoToName_0 : decode cX1_undoToName 0 = .ok (.aload_n 0, 1) := by decide +kernel
set_option maxRecDepth 20000 in
theorem dX1_undoToName_1 : decode cX1_undoToName 1 = .ok (.iload_n 1, 1) := by decide +kernel
set_option maxRecDepth 20000 in
theorem dX1_undoToName_2 : decode cX1_undoToName 2 = .ok (.iload_n 2, 1) := by decide +kernel
set_option maxRecDepth 20000 in
theorem dX1_undoToName_3 : decode cX1_undoToName 3 = .ok (.invokevirtual 75, 3) := by decide +kernel
set_option maxRecDepth 20000 in
theorem dX1_undoToName_6 : decode cX1_undoToName 6 = .ok (.istore_n 3, 1) := by decide +kernel
set_option maxRecDepth 20000 in
theorem dX1_undoToName_7 : decode cX1_undoToName 7 = .ok (.iload_n 3, 1) := by decide +kernel
set_option maxRecDepth 20000 in
theorem dX1_undoToName_8 : decode cX1_undoToName 8 = .ok (.ifCond .ge 5, 3) := by decide +kernel
set_option maxRecDepth 20000 in
theorem dX1_undoToName_11 : decode cX1_undoToName 11 = .ok (.iload_n 3, 1) := by decide +kernel
set_option maxRecDepth 20000 in
theorem dX1_undoToName_12 : decode cX1_undoToName 12 = .ok (.ireturn, 1) := by decide +kernel
set_option maxRecDepth 20000 in
theorem dX1_undoToName_13 : decode cX1_undoToName 13 = .ok (.iload_n 3, 1) := by decide +kernel
set_option maxRecDepth 20000 in
theorem dX1_undoToName_14 : decode cX1_undoToName 14 = .ok (.invokestatic 79, 3) := by decide +kernel
set_option maxRecDepth 20000 in
theorem dX1_undoToName_17 : decode cX1_undoToName 17 = .ok (.istore 4, 2) := by decide +kernel
set_option maxRecDepth 20000 in
theorem dX1_undoToName_19 : decode cX1_undoToName 19 = .ok (.aload_n 0, 1) := by decide +kernel
set_option maxRecDepth 20000 in
theorem dX1_undoToName_20 : decode cX1_undoToName 20 = .ok (.aload_n 0, 1) := by decide +kernel
set_option maxRecDepth 20000 in
theorem dX1_undoToName_21 : decode cX1_undoToName 21 = .ok (.getfield 17, 3) := by decide +kernel
set_option maxRecDepth 20000 in
theorem dX1_undoToName_24 : decode cX1_undoToName 24 = .ok (.iload_n 1, 1) := by decide +kernel
set_option maxRecDepth 20000 in
theorem dX1_undoToName_25 : decode cX1_undoToName 25 = .ok (.aaload, 1) := by decide +kernel
set_option maxRecDepth 20000 in
theorem dX1_undoToName_26 : decode cX1_undoToName 26 = .ok (.iload 4, 2) := by decide +kernel
set_option maxRecDepth 20000 in
theorem dX1_undoToName_28 : decode cX1_undoToName 28 = .ok (.invokevirtual 65, 3) := by decide +kernel
set_option maxRecDepth 20000 in
theorem dX1_undoToName_31 : decode cX1_undoToName 31 = .ok (.istore 5, 2) := by decide +kernel
set_option maxRecDepth 20000 in
theorem dX1_undoToName_33 : decode cX1_undoToName 33 = .ok (.aload_n 0, 1) := by decide +kernel
set_option maxRecDepth 20000 in
theorem dX1_undoToName_34 : decode cX1_undoToName 34 = .ok (.getfield 17, 3) := by decide +kernel
set_option maxRecDepth 20000 in
theorem dX1_undoToName_37 : decode cX1_undoToName 37 = .ok (.iload_n 1, 1) := by decide +kernel
set_option maxRecDepth 20000 in
theorem dX1_undoToName_38 : decode cX1_undoToName 38 = .ok (.aaload, 1) := by decide +kernel
set_option maxRecDepth 20000 in
theorem dX1_undoToName_39 : decode cX1_undoToName 39 = .ok (.iload 4, 2) := by decide +kernel
set_option maxRecDepth 20000 in
theorem dX1_undoToName_41 : decode cX1_undoToName 41 = .ok (.invokevirtual 83, 3) := by decide +kernel
set_option maxRecDepth 20000 in
theorem dX1_undoToName_44 : decode cX1_undoToName 44 = .ok (.aload_n 0, 1) := by decide +kernel
set_option maxRecDepth 20000 in
theorem dX1_undoToName_45 : decode cX1_undoToName 45 = .ok (.getfield 21, 3) := by decide +kernel
set_option maxRecDepth 20000 in
theorem dX1_undoToName_48 : decode cX1_undoToName 48 = .ok (.iconst 5, 1) := by decide +kernel
set_option maxRecDepth 20000 in
theorem dX1_undoToName_49 : decode cX1_undoToName 49 = .ok (.dup2, 1) := by decide +kernel
set_option maxRecDepth 20000 in
theorem dX1_undoToName_50 : decode cX1_undoToName 50 = .ok (.iaload, 1) := by decide +kernel
set_option maxRecDepth 20000 in
theorem dX1_undoToName_51 : decode cX1_undoToName 51 = .ok (.iconst 1, 1) := by decide +kernel
set_option maxRecDepth 20000 in
theorem dX1_undoToName_52 : decode cX1_undoToName 52 = .ok (.iadd, 1) := by decide +kernel
set_option maxRecDepth 20000 in
theorem dX1_undoToName_53 : decode cX1_undoToName 53 = .ok (.iastore, 1) := by decide +kernel
set_option maxRecDepth 20000 in
theorem dX1_undoToName_54 : decode cX1_undoToName 54 = .ok (.iload 5, 2) := by decide +kernel
set_option maxRecDepth 20000 in
theorem dX1_undoToName_56 : decode cX1_undoToName 56 = .ok (.ireturn, 1) := by decide +kernel
set_option maxRecDepth 20000 in
theorem dX1_releaseName_0 : decode cX1_releaseName 0 = .ok (.aload_n 0, 1) := by decide +kernel
set_option maxRecDepth 20000 in
theorem dX1_releaseName_1 : decode cX1_releaseName 1 = .ok (.iload_n 1, 1) := by decide +kernel
set_option maxRecDepth 20000 in
theorem dX1_releaseName_2 : decode cX1_releaseName 2 = .ok (.iload_n 2, 1) := by decide +kernel
set_option maxRecDepth 20000 in
theorem dX1_releaseName_3 : decode cX1_releaseName 3 = .ok (.invokevirtual 75, 3) := by decide +kernel
set_option maxRecDepth 20000 in
theorem dX1_releaseName_6 : decode cX1_releaseName 6 = .ok (.istore_n 3, 1) := by decide +kernel
set_option maxRecDepth 20000 in
theorem dX1_releaseName_7 : decode cX1_releaseName 7 = .ok (.iload_n 3, 1) := by decide +kernel
set_option maxRecDepth 20000 in
theorem dX1_releaseName_8 : decode cX1_releaseName 8 = .ok (.ifCond .ge 5, 3) := by decide +kernel
set_option maxRecDepth 20000 in
theorem dX1_releaseName_11 : decode cX1_releaseName 11 = .ok (.iload_n 3, 1) := by decide +kernel
set_option maxRecDepth 20000 in
theorem dX1_releaseName_12 : decode cX1_releaseName 12 = .ok (.ireturn, 1) := by decide +kernel
set_option maxRecDepth 20000 in
theorem dX1_releaseName_13 : decode cX1_releaseName 13 = .ok (.aload_n 0, 1) := by decide +kernel
set_option maxRecDepth 20000 in
theorem dX1_releaseName_14 : decode cX1_releaseName 14 = .ok (.getfield 17, 3) := by decide +kernel
set_option maxRecDepth 20000 in
theorem dX1_releaseName_17 : decode cX1_releaseName 17 = .ok (.iload_n 1, 1) := by decide +kernel
set_option maxRecDepth 20000 in
theorem dX1_releaseName_18 : decode cX1_releaseName 18 = .ok (.aaload, 1) := by decide +kernel
set_option maxRecDepth 20000 in
theorem dX1_releaseName_19 : decode cX1_releaseName 19 = .ok (.astore 4, 2) := by decide +kernel
set_option maxRecDepth 20000 in
theorem dX1_releaseName_21 : decode cX1_releaseName 21 = .ok (.aload 4, 2) := by decide +kernel
set_option maxRecDepth 20000 in
theorem dX1_releaseName_23 : decode cX1_releaseName 23 = .ok (.invokevirtual 47, 3) := by decide +kernel
set_option maxRecDepth 20000 in
theorem dX1_releaseName_26 : decode cX1_releaseName 26 = .ok (.iload_n 3, 1) := by decide +kernel
set_option maxRecDepth 20000 in
theorem dX1_releaseName_27 : decode cX1_releaseName 27 = .ok (.isub, 1) := by decide +kernel
set_option maxRecDepth 20000 in
theorem dX1_releaseName_28 : decode cX1_releaseName 28 = .ok (.istore 5, 2) := by decide +kernel
set_option maxRecDepth 20000 in
theorem dX1_releaseName_30 : decode cX1_releaseName 30 = .ok (.aload 4, 2) := by decide +kernel
set_option maxRecDepth 20000 in
theorem dX1_releaseName_32 : decode cX1_releaseName 32 = .ok (.iload_n 3, 1) := by decide +kernel
set_option maxRecDepth 20000 in
theorem dX1_releaseName_33 : decode cX1_releaseName 33 = .ok (.invokestatic 79, 3) := by decide +kernel
set_option maxRecDepth 20000 in
theorem dX1_releaseName_36 : decode cX1_releaseName 36 = .ok (.iconst 1, 1) := by decide +kernel
set_option maxRecDepth 20000 in
theorem dX1_releaseName_37 : decode cX1_releaseName 37 = .ok (.isub, 1) := by decide +kernel
set_option maxRecDepth 20000 in
theorem dX1_releaseName_38 : decode cX1_releaseName 38 = .ok (.invokevirtual 83, 3) := by decide +kernel
set_option maxRecDepth 20000 in
theorem dX1_releaseName_41 : decode cX1_releaseName 41 = .ok (.iload 5, 2) := by decide +kernel
set_option maxRecDepth 20000 in
theorem dX1_releaseName_43 : decode cX1_releaseName 43 = .ok (.ireturn, 1) := by decide +kernel
set_option maxRecDepth 20000 in
theorem dX1_savepointOrError_0 : decode cX1_savepointOrError 0 = .ok (.aload_n 0, 1) := by decide +kernel
set_option maxRecDepth 20000 in
theorem dX1_savepointOrError_1 : decode cX1_savepointOrError 1 = .ok (.iload_n 1, 1) := by decide +kernel
set_option maxRecDepth 20000 in
theorem dX1_savepointOrError_2 : decode cX1_savepointOrError 2 = .ok (.iconst 1, 1) := by decide +kernel
set_option maxRecDepth 20000 in
theorem dX1_savepointOrError_3 : decode cX1_savepointOrError 3 = .ok (.iload_n 2, 1) := by decide +kernel
set_option maxRecDepth 20000 in
theorem dX1_savepointOrError_4 : decode cX1_savepointOrError 4 = .ok (.invokestatic 69, 3) := by decide +kernel
set_option maxRecDepth 20000 in
theorem dX1_savepointOrError_7 : decode cX1_savepointOrError 7 = .ok (.invokevirtual 58, 3) := by decide +kernel
set_option maxRecDepth 20000 in
theorem dX1_savepointOrError_10 : decode cX1_savepointOrError 10 = .ok (.istore_n 3, 1) := by decide +kernel
set_option maxRecDepth 20000 in
theorem dX1_savepointOrError_11 : decode cX1_savepointOrError 11 = .ok (.iload_n 3, 1) := by decide +kernel
set_option maxRecDepth 20000 in
theorem dX1_savepointOrError_12 : decode cX1_savepointOrError 12 = .ok (.ifCond .eq 5, 3) := by decide +kernel
set_option maxRecDepth 20000 in
theorem dX1_savepointOrError_15 : decode cX1_savepointOrError 15 = .ok (.iload_n 3, 1) := by decide +kernel
set_option maxRecDepth 20000 in
theorem dX1_savepointOrError_16 : decode cX1_savepointOrError 16 = .ok (.ireturn, 1) := by decide +kernel
set_option maxRecDepth 20000 in
theorem dX1_savepointOrError_17 : decode cX1_savepointOrError 17 = .ok (.aload_n 0, 1) := by decide +kernel
set_option maxRecDepth 20000 in
theorem dX1_savepointOrError_18 : decode cX1_savepointOrError 18 = .ok (.getfield 17, 3) := by decide +kernel
set_option maxRecDepth 20000 in
theorem dX1_savepointOrError_21 : decode cX1_savepointOrError 21 = .ok (.iload_n 1, 1) := by decide +kernel
set_option maxRecDepth 20000 in
theorem dX1_savepointOrError_22 : decode cX1_savepointOrError 22 = .ok (.aaload, 1) := by decide +kernel
set_option maxRecDepth 20000 in
theorem dX1_savepointOrError_23 : decode cX1_savepointOrError 23 = .ok (.iload_n 2, 1) := by decide +kernel
set_option maxRecDepth 20000 in
theorem dX1_savepointOrError_24 : decode cX1_savepointOrError 24 = .ok (.invokevirtual 87, 3) := by decide +kernel
set_option maxRecDepth 20000 in
theorem dX1_savepointOrError_27 : decode cX1_savepointOrError 27 = .ok (.istore 4, 2) := by decide +kernel
set_option maxRecDepth 20000 in
theorem dX1_savepointOrError_29 : decode cX1_savepointOrError 29 = .ok (.iload 4, 2) := by decide +kernel
set_option maxRecDepth 20000 in
theorem dX1_savepointOrError_31 : decode cX1_savepointOrError 31 = .ok (.ifCond .ge 8, 3) := by decide +kernel
set_option maxRecDepth 20000 in
theorem dX1_savepointOrError_34 : decode cX1_savepointOrError 34 = .ok (.bipush (-4), 2) := by decide +kernel
set_option maxRecDepth 20000 in
theorem dX1_savepointOrError_36 : decode cX1_savepointOrError 36 = .ok (.goto 5, 3) := by decide +kernel
set_option maxRecDepth 20000 in
theorem dX1_savepointOrError_39 : decode cX1_savepointOrError 39 = .ok (.iload 4, 2) := by decide +kernel
set_option maxRecDepth 20000 in
theorem dX1_savepointOrError_41 : decode cX1_savepointOrError 41 = .ok (.ireturn, 1) := by decide +kernel
set_option maxRecDepth 20000 in
theorem dX1_readKey_0 : decode cX1_readKey 0 = .ok (.aload_n 0, 1) := by decide +kernel
set_option maxRecDepth 20000 in
theorem dX1_readKey_1 : decode cX1_readKey 1 = .ok (.iload_n 1, 1) := by decide +kernel
set_option maxRecDepth 20000 in
theorem dX1_readKey_2 : decode cX1_readKey 2 = .ok (.iload_n 2, 1) := by decide +kernel
set_option maxRecDepth 20000 in
theorem dX1_readKey_3 : decode cX1_readKey 3 = .ok (.invokestatic 90, 3) := by decide +kernel
set_option maxRecDepth 20000 in
theorem dX1_readKey_6 : decode cX1_readKey 6 = .ok (.iconst 1, 1) := by decide +kernel
set_option maxRecDepth 20000 in
theorem dX1_readKey_7 : decode cX1_readKey 7 = .ok (.invokevirtual 58, 3) := by decide +kernel
set_option maxRecDepth 20000 in
theorem dX1_readKey_10 : decode cX1_readKey 10 = .ok (.istore_n 3, 1) := by decide +kernel
set_option maxRecDepth 20000 in
theorem dX1_readKey_11 : decode cX1_readKey 11 = .ok (.iload_n 3, 1) := by decide +kernel
set_option maxRecDepth 20000 in
theorem dX1_readKey_12 : decode cX1_readKey 12 = .ok (.ifCond .eq 5, 3) := by decide +kernel
set_option maxRecDepth 20000 in
theorem dX1_readKey_15 : decode cX1_readKey 15 = .ok (.iload_n 3, 1) := by decide +kernel
set_option maxRecDepth 20000 in
theorem dX1_readKey_16 : decode cX1_readKey 16 = .ok (.ireturn, 1) := by decide +kernel
set_option maxRecDepth 20000 in
theorem dX1_readKey_17 : decode cX1_readKey 17 = .ok (.aload_n 0, 1) := by decide +kernel
set_option maxRecDepth 20000 in
theorem dX1_readKey_18 : decode cX1_readKey 18 = .ok (.getfield 17, 3) := by decide +kernel
set_option maxRecDepth 20000 in
theorem dX1_readKey_21 : decode cX1_readKey 21 = .ok (.iload_n 1, 1) := by decide +kernel
set_option maxRecDepth 20000 in
theorem dX1_readKey_22 : decode cX1_readKey 22 = .ok (.aaload, 1) := by decide +kernel
set_option maxRecDepth 20000 in
theorem dX1_readKey_23 : decode cX1_readKey 23 = .ok (.invokevirtual 55, 3) := by decide +kernel
set_option maxRecDepth 20000 in
theorem dX1_readKey_26 : decode cX1_readKey 26 = .ok (.aload_n 0, 1) := by decide +kernel
set_option maxRecDepth 20000 in
theorem dX1_readKey_27 : decode cX1_readKey 27 = .ok (.iload_n 1, 1) := by decide +kernel
set_option maxRecDepth 20000 in
theorem dX1_readKey_28 : decode cX1_readKey 28 = .ok (.iload_n 2, 1) := by decide +kernel
set_option maxRecDepth 20000 in
theorem dX1_readKey_29 : decode cX1_readKey 29 = .ok (.iconst 1, 1) := by decide +kernel
set_option maxRecDepth 20000 in
theorem dX1_readKey_30 : decode cX1_readKey 30 = .ok (.invokevirtual 93, 3) := by decide +kernel
set_option maxRecDepth 20000 in
theorem dX1_readKey_33 : decode cX1_readKey 33 = .ok (.ifCond .eq 12, 3) := by decide +kernel
set_option maxRecDepth 20000 in
theorem dX1_readKey_36 : decode cX1_readKey 36 = .ok (.aload_n 0, 1) := by decide +kernel
set_option maxRecDepth 20000 in
theorem dX1_readKey_37 : decode cX1_readKey 37 = .ok (.getfield 9, 3) := by decide +kernel
set_option maxRecDepth 20000 in
theorem dX1_readKey_40 : decode cX1_readKey 40 = .ok (.iload_n 2, 1) := by decide +kernel
set_option maxRecDepth 20000 in
theorem dX1_readKey_41 : decode cX1_readKey 41 = .ok (.iaload, 1) := by decide +kernel
set_option maxRecDepth 20000 in
theorem dX1_readKey_42 : decode cX1_readKey 42 = .ok (.goto 5, 3) := by decide +kernel
set_option maxRecDepth 20000 in
theorem dX1_readKey_45 : decode cX1_readKey 45 = .ok (.bipush (-6), 2) := by decide +kernel
set_option maxRecDepth 20000 in
theorem dX1_readKey_47 : decode cX1_readKey 47 = .ok (.istore 4, 2) := by decide +kernel
set_option maxRecDepth 20000 in
theorem dX1_readKey_49 : decode cX1_readKey 49 = .ok (.aload_n 0, 1) := by decide +kernel
set_option maxRecDepth 20000 in
theorem dX1_readKey_50 : decode cX1_readKey 50 = .ok (.iload_n 1, 1) := by decide +kernel
set_option maxRecDepth 20000 in
theorem dX1_readKey_51 : decode cX1_readKey 51 = .ok (.iload 4, 2) := by decide +kernel
set_option maxRecDepth 20000 in
theorem dX1_readKey_53 : decode cX1_readKey 53 = .ok (.invokevirtual 97, 3) := by decide +kernel
set_option maxRecDepth 20000 in
theorem dX1_readKey_56 : decode cX1_readKey 56 = .ok (.ireturn, 1) := by decide +kernel
set_option maxRecDepth 20000 in
theorem dX1_writeKey_0 : decode cX1_writeKey 0 = .ok (.aload_n 0, 1) := by decide +kernel
set_option maxRecDepth 20000 in
theorem dX1_writeKey_1 : decode cX1_writeKey 1 = .ok (.iload_n 1, 1) := by decide +kernel
set_option maxRecDepth 20000 in
theorem dX1_writeKey_2 : decode cX1_writeKey 2 = .ok (.iload_n 2, 1) := by decide +kernel
set_option maxRecDepth 20000 in
theorem dX1_writeKey_3 : decode cX1_writeKey 3 = .ok (.invokestatic 90, 3) := by decide +kernel
set_option maxRecDepth 20000 in
theorem dX1_writeKey_6 : decode cX1_writeKey 6 = .ok (.iload_n 3, 1) := by decide +kernel
set_option maxRecDepth 20000 in
theorem dX1_writeKey_7 : decode cX1_writeKey 7 = .ok (.invokestatic 100, 3) := by decide +kernel
set_option maxRecDepth 20000 in
theorem dX1_writeKey_10 : decode cX1_writeKey 10 = .ok (.invokevirtual 58, 3) := by decide +kernel
set_option maxRecDepth 20000 in
theorem dX1_writeKey_13 : decode cX1_writeKey 13 = .ok (.istore 4, 2) := by decide +kernel
set_option maxRecDepth 20000 in
theorem dX1_writeKey_15 : decode cX1_writeKey 15 = .ok (.iload 4, 2) := by decide +kernel
set_option maxRecDepth 20000 in
theorem dX1_writeKey_17 : decode cX1_writeKey 17 = .ok (.ifCond .eq 6, 3) := by decide +kernel
set_option maxRecDepth 20000 in
theorem dX1_writeKey_20 : decode cX1_writeKey 20 = .ok (.iload 4, 2) := by decide +kernel
set_option maxRecDepth 20000 in
theorem dX1_writeKey_22 : decode cX1_writeKey 22 = .ok (.ireturn, 1) := by decide +kernel
set_option maxRecDepth 20000 in
theorem dX1_writeKey_23 : decode cX1_writeKey 23 = .ok (.aload_n 0, 1) := by decide +kernel
set_option maxRecDepth 20000 in
theorem dX1_writeKey_24 : decode cX1_writeKey 24 = .ok (.getfield 17, 3) := by decide +kernel
set_option maxRecDepth 20000 in
theorem dX1_writeKey_27 : decode cX1_writeKey 27 = .ok (.iload_n 1, 1) := by decide +kernel
set_option maxRecDepth 20000 in
theorem dX1_writeKey_28 : decode cX1_writeKey 28 = .ok (.aaload, 1) := by decide +kernel
set_option maxRecDepth 20000 in
theorem dX1_writeKey_29 : decode cX1_writeKey 29 = .ok (.invokevirtual 55, 3) := by decide +kernel
set_option maxRecDepth 20000 in
theorem dX1_writeKey_32 : decode cX1_writeKey 32 = .ok (.aload_n 0, 1) := by decide +kernel
set_option maxRecDepth 20000 in
theorem dX1_writeKey_33 : decode cX1_writeKey 33 = .ok (.iload_n 1, 1) := by decide +kernel
set_option maxRecDepth 20000 in
theorem dX1_writeKey_34 : decode cX1_writeKey 34 = .ok (.aload_n 0, 1) := by decide +kernel
set_option maxRecDepth 20000 in
theorem dX1_writeKey_35 : decode cX1_writeKey 35 = .ok (.iload_n 1, 1) := by decide +kernel
set_option maxRecDepth 20000 in
theorem dX1_writeKey_36 : decode cX1_writeKey 36 = .ok (.iload_n 2, 1) := by decide +kernel
set_option maxRecDepth 20000 in
theorem dX1_writeKey_37 : decode cX1_writeKey 37 = .ok (.iload_n 3, 1) := by decide +kernel
set_option maxRecDepth 20000 in
theorem dX1_writeKey_38 : decode cX1_writeKey 38 = .ok (.invokevirtual 103, 3) := by decide +kernel
set_option maxRecDepth 20000 in
theorem dX1_writeKey_41 : decode cX1_writeKey 41 = .ok (.invokevirtual 97, 3) := by decide +kernel
set_option maxRecDepth 20000 in
theorem dX1_writeKey_44 : decode cX1_writeKey 44 = .ok (.ireturn, 1) := by decide +kernel
set_option maxRecDepth 20000 in
theorem dX1_eraseKey_0 : decode cX1_eraseKey 0 = .ok (.aload_n 0, 1) := by decide +kernel
set_option maxRecDepth 20000 in
theorem dX1_eraseKey_1 : decode cX1_eraseKey 1 = .ok (.iload_n 1, 1) := by decide +kernel
set_option maxRecDepth 20000 in
theorem dX1_eraseKey_2 : decode cX1_eraseKey 2 = .ok (.iload_n 2, 1) := by decide +kernel
set_option maxRecDepth 20000 in
theorem dX1_eraseKey_3 : decode cX1_eraseKey 3 = .ok (.invokestatic 90, 3) := by decide +kernel
set_option maxRecDepth 20000 in
theorem dX1_eraseKey_6 : decode cX1_eraseKey 6 = .ok (.iconst 1, 1) := by decide +kernel
set_option maxRecDepth 20000 in
theorem dX1_eraseKey_7 : decode cX1_eraseKey 7 = .ok (.invokevirtual 58, 3) := by decide +kernel
set_option maxRecDepth 20000 in
theorem dX1_eraseKey_10 : decode cX1_eraseKey 10 = .ok (.istore_n 3, 1) := by decide +kernel
set_option maxRecDepth 20000 in
theorem dX1_eraseKey_11 : decode cX1_eraseKey 11 = .ok (.iload_n 3, 1) := by decide +kernel
set_option maxRecDepth 20000 in
theorem dX1_eraseKey_12 : decode cX1_eraseKey 12 = .ok (.ifCond .eq 5, 3) := by decide +kernel
set_option maxRecDepth 20000 in
theorem dX1_eraseKey_15 : decode cX1_eraseKey 15 = .ok (.iload_n 3, 1) := by decide +kernel
set_option maxRecDepth 20000 in
theorem dX1_eraseKey_16 : decode cX1_eraseKey 16 = .ok (.ireturn, 1) := by decide +kernel
set_option maxRecDepth 20000 in
theorem dX1_eraseKey_17 : decode cX1_eraseKey 17 = .ok (.aload_n 0, 1) := by decide +kernel
set_option maxRecDepth 20000 in
theorem dX1_eraseKey_18 : decode cX1_eraseKey 18 = .ok (.getfield 17, 3) := by decide +kernel
set_option maxRecDepth 20000 in
theorem dX1_eraseKey_21 : decode cX1_eraseKey 21 = .ok (.iload_n 1, 1) := by decide +kernel
set_option maxRecDepth 20000 in
theorem dX1_eraseKey_22 : decode cX1_eraseKey 22 = .ok (.aaload, 1) := by decide +kernel
set_option maxRecDepth 20000 in
theorem dX1_eraseKey_23 : decode cX1_eraseKey 23 = .ok (.invokevirtual 55, 3) := by decide +kernel
set_option maxRecDepth 20000 in
theorem dX1_eraseKey_26 : decode cX1_eraseKey 26 = .ok (.aload_n 0, 1) := by decide +kernel
set_option maxRecDepth 20000 in
theorem dX1_eraseKey_27 : decode cX1_eraseKey 27 = .ok (.iload_n 1, 1) := by decide +kernel
set_option maxRecDepth 20000 in
theorem dX1_eraseKey_28 : decode cX1_eraseKey 28 = .ok (.aload_n 0, 1) := by decide +kernel
set_option maxRecDepth 20000 in
theorem dX1_eraseKey_29 : decode cX1_eraseKey 29 = .ok (.iload_n 1, 1) := by decide +kernel
set_option maxRecDepth 20000 in
theorem dX1_eraseKey_30 : decode cX1_eraseKey 30 = .ok (.iload_n 2, 1) := by decide +kernel
set_option maxRecDepth 20000 in
theorem dX1_eraseKey_31 : decode cX1_eraseKey 31 = .ok (.bipush (-5), 2) := by decide +kernel
set_option maxRecDepth 20000 in
theorem dX1_eraseKey_33 : decode cX1_eraseKey 33 = .ok (.invokevirtual 103, 3) := by decide +kernel
set_option maxRecDepth 20000 in
theorem dX1_eraseKey_36 : decode cX1_eraseKey 36 = .ok (.invokevirtual 97, 3) := by decide +kernel
set_option maxRecDepth 20000 in
theorem dX1_eraseKey_39 : decode cX1_eraseKey 39 = .ok (.ireturn, 1) := by decide +kernel
set_option maxRecDepth 20000 in
theorem dX1_shiftKeys_0 : decode cX1_shiftKeys 0 = .ok (.iload_n 2, 1) := by decide +kernel
set_option maxRecDepth 20000 in
theorem dX1_shiftKeys_1 : decode cX1_shiftKeys 1 = .ok (.iconst 1, 1) := by decide +kernel
set_option maxRecDepth 20000 in
theorem dX1_shiftKeys_2 : decode cX1_shiftKeys 2 = .ok (.if_icmp .lt 27, 3) := by decide +kernel
set_option maxRecDepth 20000 in
theorem dX1_shiftKeys_5 : decode cX1_shiftKeys 5 = .ok (.iload_n 2, 1) := by decide +kernel
set_option maxRecDepth 20000 in
theorem dX1_shiftKeys_6 : decode cX1_shiftKeys 6 = .ok (.ldc 106, 2) := by decide +kernel
set_option maxRecDepth 20000 in
theorem dX1_shiftKeys_8 : decode cX1_shiftKeys 8 = .ok (.if_icmp .gt 21, 3) := by decide +kernel
set_option maxRecDepth 20000 in
theorem dX1_shiftKeys_11 : decode cX1_shiftKeys 11 = .ok (.iload_n 3, 1) := by decide +kernel
set_option maxRecDepth 20000 in
theorem dX1_shiftKeys_12 : decode cX1_shiftKeys 12 = .ok (.sipush (-9999), 3) := by decide +kernel
set_option maxRecDepth 20000 in
theorem dX1_shiftKeys_15 : decode cX1_shiftKeys 15 = .ok (.if_icmp .lt 14, 3) := by decide +kernel
set_option maxRecDepth 20000 in
theorem dX1_shiftKeys_18 : decode cX1_shiftKeys 18 = .ok (.iload_n 3, 1) := by decide +kernel
set_option maxRecDepth 20000 in
theorem dX1_shiftKeys_19 : decode cX1_shiftKeys 19 = .ok (.sipush 9999, 3) := by decide +kernel
set_option maxRecDepth 20000 in
theorem dX1_shiftKeys_22 : decode cX1_shiftKeys 22 = .ok (.if_icmp .gt 7, 3) := by decide +kernel
set_option maxRecDepth 20000 in
theorem dX1_shiftKeys_25 : decode cX1_shiftKeys 25 = .ok (.iconst 1, 1) := by decide +kernel
set_option maxRecDepth 20000 in
theorem dX1_shiftKeys_26 : decode cX1_shiftKeys 26 = .ok (.goto 4, 3) := by decide +kernel
set_option maxRecDepth 20000 in
theorem dX1_shiftKeys_29 : decode cX1_shiftKeys 29 = .ok (.iconst 0, 1) := by decide +kernel
set_option maxRecDepth 20000 in
theorem dX1_shiftKeys_30 : decode cX1_shiftKeys 30 = .ok (.istore 4, 2) := by decide +kernel
set_option maxRecDepth 20000 in
theorem dX1_shiftKeys_32 : decode cX1_shiftKeys 32 = .ok (.aload_n 0, 1) := by decide +kernel
set_option maxRecDepth 20000 in
theorem dX1_shiftKeys_33 : decode cX1_shiftKeys 33 = .ok (.iload_n 1, 1) := by decide +kernel
set_option maxRecDepth 20000 in
theorem dX1_shiftKeys_34 : decode cX1_shiftKeys 34 = .ok (.iconst 1, 1) := by decide +kernel
set_option maxRecDepth 20000 in
theorem dX1_shiftKeys_35 : decode cX1_shiftKeys 35 = .ok (.iload 4, 2) := by decide +kernel
set_option maxRecDepth 20000 in
theorem dX1_shiftKeys_37 : decode cX1_shiftKeys 37 = .ok (.invokevirtual 58, 3) := by decide +kernel
set_option maxRecDepth 20000 in
theorem dX1_shiftKeys_40 : decode cX1_shiftKeys 40 = .ok (.istore 5, 2) := by decide +kernel
set_option maxRecDepth 20000 in
theorem dX1_shiftKeys_42 : decode cX1_shiftKeys 42 = .ok (.iload 5, 2) := by decide +kernel
set_option maxRecDepth 20000 in
theorem dX1_shiftKeys_44 : decode cX1_shiftKeys 44 = .ok (.ifCond .eq 6, 3) := by decide +kernel
set_option maxRecDepth 20000 in
theorem dX1_shiftKeys_47 : decode cX1_shiftKeys 47 = .ok (.iload 5, 2) := by decide +kernel
set_option maxRecDepth 20000 in
theorem dX1_shiftKeys_49 : decode cX1_shiftKeys 49 = .ok (.ireturn, 1) := by decide +kernel
set_option maxRecDepth 20000 in
theorem dX1_shiftKeys_50 : decode cX1_shiftKeys 50 = .ok (.aload_n 0, 1) := by decide +kernel
set_option maxRecDepth 20000 in
theorem dX1_shiftKeys_51 : decode cX1_shiftKeys 51 = .ok (.getfield 17, 3) := by decide +kernel
set_option maxRecDepth 20000 in
theorem dX1_shiftKeys_54 : decode cX1_shiftKeys 54 = .ok (.iload_n 1, 1) := by decide +kernel
set_option maxRecDepth 20000 in
theorem dX1_shiftKeys_55 : decode cX1_shiftKeys 55 = .ok (.aaload, 1) := by decide +kernel
set_option maxRecDepth 20000 in
theorem dX1_shiftKeys_56 : decode cX1_shiftKeys 56 = .ok (.invokevirtual 55, 3) := by decide +kernel
set_option maxRecDepth 20000 in
theorem dX1_shiftKeys_59 : decode cX1_shiftKeys 59 = .ok (.iload_n 2, 1) := by decide +kernel
set_option maxRecDepth 20000 in
theorem dX1_shiftKeys_60 : decode cX1_shiftKeys 60 = .ok (.invokestatic 107, 3) := by decide +kernel
set_option maxRecDepth 20000 in
theorem dX1_shiftKeys_63 : decode cX1_shiftKeys 63 = .ok (.istore 6, 2) := by decide +kernel
set_option maxRecDepth 20000 in
theorem dX1_shiftKeys_65 : decode cX1_shiftKeys 65 = .ok (.iconst 0, 1) := by decide +kernel
set_option maxRecDepth 20000 in
theorem dX1_shiftKeys_66 : decode cX1_shiftKeys 66 = .ok (.istore 7, 2) := by decide +kernel
set_option maxRecDepth 20000 in
theorem dX1_shiftKeys_68 : decode cX1_shiftKeys 68 = .ok (.iload 7, 2) := by decide +kernel
set_option maxRecDepth 20000 in
theorem dX1_shiftKeys_70 : decode cX1_shiftKeys 70 = .ok (.bipush 16, 2) := by decide +kernel
set_option maxRecDepth 20000 in
theorem dX1_shiftKeys_72 : decode cX1_shiftKeys 72 = .ok (.if_icmp .ge 49, 3) := by decide +kernel
set_option maxRecDepth 20000 in
theorem dX1_shiftKeys_75 : decode cX1_shiftKeys 75 = .ok (.iload 6, 2) := by decide +kernel
set_option maxRecDepth 20000 in
theorem dX1_shiftKeys_77 : decode cX1_shiftKeys 77 = .ok (.ifCond .lt 44, 3) := by decide +kernel
set_option maxRecDepth 20000 in
theorem dX1_shiftKeys_80 : decode cX1_shiftKeys 80 = .ok (.iload_n 2, 1) := by decide +kernel
set_option maxRecDepth 20000 in
theorem dX1_shiftKeys_81 : decode cX1_shiftKeys 81 = .ok (.iload 7, 2) := by decide +kernel
set_option maxRecDepth 20000 in
theorem dX1_shiftKeys_83 : decode cX1_shiftKeys 83 = .ok (.ishr, 1) := by decide +kernel
set_option maxRecDepth 20000 in
theorem dX1_shiftKeys_84 : decode cX1_shiftKeys 84 = .ok (.iconst 1, 1) := by decide +kernel
set_option maxRecDepth 20000 in
theorem dX1_shiftKeys_85 : decode cX1_shiftKeys 85 = .ok (.iand, 1) := by decide +kernel
set_option maxRecDepth 20000 in
theorem dX1_shiftKeys_86 : decode cX1_shiftKeys 86 = .ok (.ifCond .eq 29, 3) := by decide +kernel
set_option maxRecDepth 20000 in
theorem dX1_shiftKeys_89 : decode cX1_shiftKeys 89 = .ok (.aload_n 0, 1) := by decide +kernel
set_option maxRecDepth 20000 in
theorem dX1_shiftKeys_90 : decode cX1_shiftKeys 90 = .ok (.iload_n 1, 1) := by decide +kernel
set_option maxRecDepth 20000 in
theorem dX1_shiftKeys_91 : decode cX1_shiftKeys 91 = .ok (.iload 7, 2) := by decide +kernel
set_option maxRecDepth 20000 in
theorem dX1_shiftKeys_93 : decode cX1_shiftKeys 93 = .ok (.iload_n 3, 1) := by decide +kernel
set_option maxRecDepth 20000 in
theorem dX1_shiftKeys_94 : decode cX1_shiftKeys 94 = .ok (.bipush (-5), 2) := by decide +kernel
set_option maxRecDepth 20000 in
theorem dX1_shiftKeys_96 : decode cX1_shiftKeys 96 = .ok (.invokevirtual 112, 3) := by decide +kernel
set_option maxRecDepth 20000 in
theorem dX1_shiftKeys_99 : decode cX1_shiftKeys 99 = .ok (.istore 8, 2) := by decide +kernel
set_option maxRecDepth 20000 in
theorem dX1_shiftKeys_101 : decode cX1_shiftKeys 101 = .ok (.iload 8, 2) := by decide +kernel
set_option maxRecDepth 20000 in
theorem dX1_shiftKeys_103 : decode cX1_shiftKeys 103 = .ok (.ifCond .ge 8, 3) := by decide +kernel
set_option maxRecDepth 20000 in
theorem dX1_shiftKeys_106 : decode cX1_shiftKeys 106 = .ok (.iload 8, 2) := by decide +kernel
set_option maxRecDepth 20000 in
theorem dX1_shiftKeys_108 : decode cX1_shiftKeys 108 = .ok (.goto 5, 3) := by decide +kernel
set_option maxRecDepth 20000 in
theorem dX1_shiftKeys_111 : decode cX1_shiftKeys 111 = .ok (.iload 6, 2) := by decide +kernel
set_option maxRecDepth 20000 in
theorem dX1_shiftKeys_113 : decode cX1_shiftKeys 113 = .ok (.istore 6, 2) := by decide +kernel
set_option maxRecDepth 20000 in
theorem dX1_shiftKeys_115 : decode cX1_shiftKeys 115 = .ok (.iinc 7 1, 3) := by decide +kernel
set_option maxRecDepth 20000 in
theorem dX1_shiftKeys_118 : decode cX1_shiftKeys 118 = .ok (.goto (-50), 3) := by decide +kernel
set_option maxRecDepth 20000 in
theorem dX1_shiftKeys_121 : decode cX1_shiftKeys 121 = .ok (.aload_n 0, 1) := by decide +kernel
set_option maxRecDepth 20000 in
theorem dX1_shiftKeys_122 : decode cX1_shiftKeys 122 = .ok (.iload_n 1, 1) := by decide +kernel
set_option maxRecDepth 20000 in
theorem dX1_shiftKeys_123 : decode cX1_shiftKeys 123 = .ok (.iload 6, 2) := by decide +kernel
set_option maxRecDepth 20000 in
theorem dX1_shiftKeys_125 : decode cX1_shiftKeys 125 = .ok (.invokevirtual 97, 3) := by decide +kernel
set_option maxRecDepth 20000 in
theorem dX1_shiftKeys_128 : decode cX1_shiftKeys 128 = .ok (.ireturn, 1) := by decide +kernel
set_option maxRecDepth 20000 in
theorem dX1_moveAmount_0 : decode cX1_moveAmount 0 = .ok (.iload 4, 2) := by decide +kernel
set_option maxRecDepth 20000 in
theorem dX1_moveAmount_2 : decode cX1_moveAmount 2 = .ok (.iconst 1, 1) := by decide +kernel
set_option maxRecDepth 20000 in
theorem dX1_moveAmount_3 : decode cX1_moveAmount 3 = .ok (.if_icmp .lt 20, 3) := by decide +kernel
set_option maxRecDepth 20000 in
theorem dX1_moveAmount_6 : decode cX1_moveAmount 6 = .ok (.iload 4, 2) := by decide +kernel
set_option maxRecDepth 20000 in
theorem dX1_moveAmount_8 : decode cX1_moveAmount 8 = .ok (.sipush 9999, 3) := by decide +kernel
set_option maxRecDepth 20000 in
theorem dX1_moveAmount_11 : decode cX1_moveAmount 11 = .ok (.if_icmp .gt 12, 3) := by decide +kernel
set_option maxRecDepth 20000 in
theorem dX1_moveAmount_14 : decode cX1_moveAmount 14 = .ok (.iload_n 2, 1) := by decide +kernel
set_option maxRecDepth 20000 in
theorem dX1_moveAmount_15 : decode cX1_moveAmount 15 = .ok (.iload_n 3, 1) := by decide +kernel
set_option maxRecDepth 20000 in
theorem dX1_moveAmount_16 : decode cX1_moveAmount 16 = .ok (.if_icmp .eq 7, 3) := by decide +kernel
set_option maxRecDepth 20000 in
theorem dX1_moveAmount_19 : decode cX1_moveAmount 19 = .ok (.iconst 1, 1) := by decide +kernel
set_option maxRecDepth 20000 in
theorem dX1_moveAmount_20 : decode cX1_moveAmount 20 = .ok (.goto 4, 3) := by decide +kernel
set_option maxRecDepth 20000 in
theorem dX1_moveAmount_23 : decode cX1_moveAmount 23 = .ok (.iconst 0, 1) := by decide +kernel
set_option maxRecDepth 20000 in
theorem dX1_moveAmount_24 : decode cX1_moveAmount 24 = .ok (.istore 5, 2) := by decide +kernel
set_option maxRecDepth 20000 in
theorem dX1_moveAmount_26 : decode cX1_moveAmount 26 = .ok (.aload_n 0, 1) := by decide +kernel
set_option maxRecDepth 20000 in
theorem dX1_moveAmount_27 : decode cX1_moveAmount 27 = .ok (.iload_n 1, 1) := by decide +kernel
set_option maxRecDepth 20000 in
theorem dX1_moveAmount_28 : decode cX1_moveAmount 28 = .ok (.iload_n 2, 1) := by decide +kernel
set_option maxRecDepth 20000 in
theorem dX1_moveAmount_29 : decode cX1_moveAmount 29 = .ok (.invokestatic 90, 3) := by decide +kernel
set_option maxRecDepth 20000 in
theorem dX1_moveAmount_32 : decode cX1_moveAmount 32 = .ok (.ifCond .eq 14, 3) := by decide +kernel
set_option maxRecDepth 20000 in
theorem dX1_moveAmount_35 : decode cX1_moveAmount 35 = .ok (.iload_n 3, 1) := by decide +kernel
set_option maxRecDepth 20000 in
theorem dX1_moveAmount_36 : decode cX1_moveAmount 36 = .ok (.invokestatic 90, 3) := by decide +kernel
set_option maxRecDepth 20000 in
theorem dX1_moveAmount_39 : decode cX1_moveAmount 39 = .ok (.ifCond .eq 7, 3) := by decide +kernel
set_option maxRecDepth 20000 in
theorem dX1_moveAmount_42 : decode cX1_moveAmount 42 = .ok (.iconst 1, 1) := by decide +kernel
set_option maxRecDepth 20000 in
theorem dX1_moveAmount_43 : decode cX1_moveAmount 43 = .ok (.goto 4, 3) := by decide +kernel
set_option maxRecDepth 20000 in
theorem dX1_moveAmount_46 : decode cX1_moveAmount 46 = .ok (.iconst 0, 1) := by decide +kernel
set_option maxRecDepth 20000 in
theorem dX1_moveAmount_47 : decode cX1_moveAmount 47 = .ok (.iload 5, 2) := by decide +kernel
set_option maxRecDepth 20000 in
theorem dX1_moveAmount_49 : decode cX1_moveAmount 49 = .ok (.invokevirtual 58, 3) := by decide +kernel
set_option maxRecDepth 20000 in
theorem dX1_moveAmount_52 : decode cX1_moveAmount 52 = .ok (.istore 6, 2) := by decide +kernel
set_option maxRecDepth 20000 in
theorem dX1_moveAmount_54 : decode cX1_moveAmount 54 = .ok (.iload 6, 2) := by decide +kernel
set_option maxRecDepth 20000 in
theorem dX1_moveAmount_56 : decode cX1_moveAmount 56 = .ok (.ifCond .eq 6, 3) := by decide +kernel
set_option maxRecDepth 20000 in
theorem dX1_moveAmount_59 : decode cX1_moveAmount 59 = .ok (.iload 6, 2) := by decide +kernel
set_option maxRecDepth 20000 in
theorem dX1_moveAmount_61 : decode cX1_moveAmount 61 = .ok (.ireturn, 1) := by decide +kernel
set_option maxRecDepth 20000 in
theorem dX1_moveAmount_62 : decode cX1_moveAmount 62 = .ok (.aload_n 0, 1) := by decide +kernel
set_option maxRecDepth 20000 in
theorem dX1_moveAmount_63 : decode cX1_moveAmount 63 = .ok (.getfield 17, 3) := by decide +kernel
set_option maxRecDepth 20000 in
theorem dX1_moveAmount_66 : decode cX1_moveAmount 66 = .ok (.iload_n 1, 1) := by decide +kernel
set_option maxRecDepth 20000 in
theorem dX1_moveAmount_67 : decode cX1_moveAmount 67 = .ok (.aaload, 1) := by decide +kernel
set_option maxRecDepth 20000 in
theorem dX1_moveAmount_68 : decode cX1_moveAmount 68 = .ok (.invokevirtual 55, 3) := by decide +kernel
set_option maxRecDepth 20000 in
theorem dX1_moveAmount_71 : decode cX1_moveAmount 71 = .ok (.aload_n 0, 1) := by decide +kernel
set_option maxRecDepth 20000 in
theorem dX1_moveAmount_72 : decode cX1_moveAmount 72 = .ok (.iload_n 1, 1) := by decide +kernel
set_option maxRecDepth 20000 in
theorem dX1_moveAmount_73 : decode cX1_moveAmount 73 = .ok (.iload_n 2, 1) := by decide +kernel
set_option maxRecDepth 20000 in
theorem dX1_moveAmount_74 : decode cX1_moveAmount 74 = .ok (.iload 4, 2) := by decide +kernel
set_option maxRecDepth 20000 in
theorem dX1_moveAmount_76 : decode cX1_moveAmount 76 = .ok (.ineg, 1) := by decide +kernel
set_option maxRecDepth 20000 in
theorem dX1_moveAmount_77 : decode cX1_moveAmount 77 = .ok (.bipush (-5), 2) := by decide +kernel
set_option maxRecDepth 20000 in
theorem dX1_moveAmount_79 : decode cX1_moveAmount 79 = .ok (.invokevirtual 112, 3) := by decide +kernel
set_option maxRecDepth 20000 in
theorem dX1_moveAmount_82 : decode cX1_moveAmount 82 = .ok (.istore 7, 2) := by decide +kernel
set_option maxRecDepth 20000 in
theorem dX1_moveAmount_84 : decode cX1_moveAmount 84 = .ok (.iload 7, 2) := by decide +kernel
set_option maxRecDepth 20000 in
theorem dX1_moveAmount_86 : decode cX1_moveAmount 86 = .ok (.ifCond .lt 14, 3) := by decide +kernel
set_option maxRecDepth 20000 in
theorem dX1_moveAmount_89 : decode cX1_moveAmount 89 = .ok (.aload_n 0, 1) := by decide +kernel
set_option maxRecDepth 20000 in
theorem dX1_moveAmount_90 : decode cX1_moveAmount 90 = .ok (.iload_n 1, 1) := by decide +kernel
set_option maxRecDepth 20000 in
theorem dX1_moveAmount_91 : decode cX1_moveAmount 91 = .ok (.iload_n 3, 1) := by decide +kernel
set_option maxRecDepth 20000 in
theorem dX1_moveAmount_92 : decode cX1_moveAmount 92 = .ok (.iload 4, 2) := by decide +kernel
set_option maxRecDepth 20000 in
theorem dX1_moveAmount_94 : decode cX1_moveAmount 94 = .ok (.iconst 0, 1) := by decide +kernel
set_option maxRecDepth 20000 in
theorem dX1_moveAmount_95 : decode cX1_moveAmount 95 = .ok (.invokevirtual 112, 3) := by decide +kernel
set_option maxRecDepth 20000 in
theorem dX1_moveAmount_98 : decode cX1_moveAmount 98 = .ok (.istore 7, 2) := by decide +kernel
set_option maxRecDepth 20000 in
theorem dX1_moveAmount_100 : decode cX1_moveAmount 100 = .ok (.aload_n 0, 1) := by decide +kernel
set_option maxRecDepth 20000 in
theorem dX1_moveAmount_101 : decode cX1_moveAmount 101 = .ok (.iload_n 1, 1) := by decide +kernel
set_option maxRecDepth 20000 in
theorem dX1_moveAmount_102 : decode cX1_moveAmount 102 = .ok (.iload 7, 2) := by decide +kernel
set_option maxRecDepth 20000 in
theorem dX1_moveAmount_104 : decode cX1_moveAmount 104 = .ok (.invokevirtual 97, 3) := by decide +kernel
set_option maxRecDepth 20000 in
theorem dX1_moveAmount_107 : decode cX1_moveAmount 107 = .ok (.ireturn, 1) := by decide +kernel
set_option maxRecDepth 20000 in
theorem dX1_whyImpossible_0 : decode cX1_whyImpossible 0 = .ok (.iload_n 1, 1) := by decide +kernel
set_option maxRecDepth 20000 in
theorem dX1_whyImpossible_1 : decode cX1_whyImpossible 1 = .ok (.invokestatic 43, 3) := by decide +kernel
set_option maxRecDepth 20000 in
theorem dX1_whyImpossible_4 : decode cX1_whyImpossible 4 = .ok (.ifCond .eq 7, 3) := by decide +kernel
set_option maxRecDepth 20000 in
theorem dX1_whyImpossible_7 : decode cX1_whyImpossible 7 = .ok (.iload_n 2, 1) := by decide +kernel
set_option maxRecDepth 20000 in
theorem dX1_whyImpossible_8 : decode cX1_whyImpossible 8 = .ok (.ifCond .ne 5, 3) := by decide +kernel
set_option maxRecDepth 20000 in
theorem dX1_whyImpossible_11 : decode cX1_whyImpossible 11 = .ok (.iconst (-1), 1) := by decide +kernel
set_option maxRecDepth 20000 in
theorem dX1_whyImpossible_12 : decode cX1_whyImpossible 12 = .ok (.ireturn, 1) := by decide +kernel
set_option maxRecDepth 20000 in
theorem dX1_whyImpossible_13 : decode cX1_whyImpossible 13 = .ok (.iload_n 3, 1) := by decide +kernel
set_option maxRecDepth 20000 in
theorem dX1_whyImpossible_14 : decode cX1_whyImpossible 14 = .ok (.ifCond .ne 6, 3) := by decide +kernel
set_option maxRecDepth 20000 in
theorem dX1_whyImpossible_17 : decode cX1_whyImpossible 17 = .ok (.bipush (-2), 2) := by decide +kernel
set_option maxRecDepth 20000 in
theorem dX1_whyImpossible_19 : decode cX1_whyImpossible 19 = .ok (.ireturn, 1) := by decide +kernel
set_option maxRecDepth 20000 in
theorem dX1_whyImpossible_20 : decode cX1_whyImpossible 20 = .ok (.aload_n 0, 1) := by decide +kernel
set_option maxRecDepth 20000 in
theorem dX1_whyImpossible_21 : decode cX1_whyImpossible 21 = .ok (.getfield 17, 3) := by decide +kernel
set_option maxRecDepth 20000 in
theorem dX1_whyImpossible_24 : decode cX1_whyImpossible 24 = .ok (.iload_n 1, 1) := by decide +kernel
set_option maxRecDepth 20000 in
theorem dX1_whyImpossible_25 : decode cX1_whyImpossible 25 = .ok (.aaload, 1) := by decide +kernel
set_option maxRecDepth 20000 in
theorem dX1_whyImpossible_26 : decode cX1_whyImpossible 26 = .ok (.invokevirtual 51, 3) := by decide +kernel
set_option maxRecDepth 20000 in
theorem dX1_whyImpossible_29 : decode cX1_whyImpossible 29 = .ok (.ifCond .eq 7, 3) := by decide +kernel
set_option maxRecDepth 20000 in
theorem dX1_whyImpossible_32 : decode cX1_whyImpossible 32 = .ok (.iconst 0, 1) := by decide +kernel
set_option maxRecDepth 20000 in
theorem dX1_whyImpossible_33 : decode cX1_whyImpossible 33 = .ok (.goto 5, 3) := by decide +kernel
set_option maxRecDepth 20000 in
theorem dX1_whyImpossible_36 : decode cX1_whyImpossible 36 = .ok (.bipush (-4), 2) := by decide +kernel
set_option maxRecDepth 20000 in
theorem dX1_whyImpossible_38 : decode cX1_whyImpossible 38 = .ok (.ireturn, 1) := by decide +kernel
set_option maxRecDepth 20000 in
theorem dX1_endStatement_0 : decode cX1_endStatement 0 = .ok (.aload_n 0, 1) := by decide +kernel
set_option maxRecDepth 20000 in
theorem dX1_endStatement_1 : decode cX1_endStatement 1 = .ok (.getfield 17, 3) := by decide +kernel
set_option maxRecDepth 20000 in
theorem dX1_endStatement_4 : decode cX1_endStatement 4 = .ok (.iload_n 1, 1) := by decide +kernel
set_option maxRecDepth 20000 in
theorem dX1_endStatement_5 : decode cX1_endStatement 5 = .ok (.aaload, 1) := by decide +kernel
set_option maxRecDepth 20000 in
theorem dX1_endStatement_6 : decode cX1_endStatement 6 = .ok (.astore_n 3, 1) := by decide +kernel
set_option maxRecDepth 20000 in
theorem dX1_endStatement_7 : decode cX1_endStatement 7 = .ok (.aload_n 3, 1) := by decide +kernel
set_option maxRecDepth 20000 in
theorem dX1_endStatement_8 : decode cX1_endStatement 8 = .ok (.getfield 116, 3) := by decide +kernel
set_option maxRecDepth 20000 in
theorem dX1_endStatement_11 : decode cX1_endStatement 11 = .ok (.iconst 1, 1) := by decide +kernel
set_option maxRecDepth 20000 in
theorem dX1_endStatement_12 : decode cX1_endStatement 12 = .ok (.isub, 1) := by decide +kernel
set_option maxRecDepth 20000 in
theorem dX1_endStatement_13 : decode cX1_endStatement 13 = .ok (.istore 4, 2) := by decide +kernel
set_option maxRecDepth 20000 in
theorem dX1_endStatement_15 : decode cX1_endStatement 15 = .ok (.iload_n 2, 1) := by decide +kernel
set_option maxRecDepth 20000 in
theorem dX1_endStatement_16 : decode cX1_endStatement 16 = .ok (.bipush (-6), 2) := by decide +kernel
set_option maxRecDepth 20000 in
theorem dX1_endStatement_18 : decode cX1_endStatement 18 = .ok (.if_icmp .eq 9, 3) := by decide +kernel
set_option maxRecDepth 20000 in
theorem dX1_endStatement_21 : decode cX1_endStatement 21 = .ok (.iload_n 2, 1) := by decide +kernel
set_option maxRecDepth 20000 in
theorem dX1_endStatement_22 : decode cX1_endStatement 22 = .ok (.bipush (-7), 2) := by decide +kernel
set_option maxRecDepth 20000 in
theorem dX1_endStatement_24 : decode cX1_endStatement 24 = .ok (.if_icmp .ne 34, 3) := by decide +kernel
set_option maxRecDepth 20000 in
theorem dX1_endStatement_27 : decode cX1_endStatement 27 = .ok (.aload_n 0, 1) := by decide +kernel
set_option maxRecDepth 20000 in
theorem dX1_endStatement_28 : decode cX1_endStatement 28 = .ok (.aload_n 3, 1) := by decide +kernel
set_option maxRecDepth 20000 in
theorem dX1_endStatement_29 : decode cX1_endStatement 29 = .ok (.iload 4, 2) := by decide +kernel
set_option maxRecDepth 20000 in
theorem dX1_endStatement_31 : decode cX1_endStatement 31 = .ok (.invokevirtual 65, 3) := by decide +kernel
set_option maxRecDepth 20000 in
theorem dX1_endStatement_34 : decode cX1_endStatement 34 = .ok (.pop, 1) := by decide +kernel
set_option maxRecDepth 20000 in
theorem dX1_endStatement_35 : decode cX1_endStatement 35 = .ok (.aload_n 0, 1) := by decide +kernel
set_option maxRecDepth 20000 in
theorem dX1_endStatement_36 : decode cX1_endStatement 36 = .ok (.getfield 21, 3) := by decide +kernel
set_option maxRecDepth 20000 in
theorem dX1_endStatement_39 : decode cX1_endStatement 39 = .ok (.iload_n 2, 1) := by decide +kernel
set_option maxRecDepth 20000 in
theorem dX1_endStatement_40 : decode cX1_endStatement 40 = .ok (.bipush (-6), 2) := by decide +kernel
set_option maxRecDepth 20000 in
theorem dX1_endStatement_42 : decode cX1_endStatement 42 = .ok (.if_icmp .ne 7, 3) := by decide +kernel
set_option maxRecDepth 20000 in
theorem dX1_endStatement_45 : decode cX1_endStatement 45 = .ok (.iconst 3, 1) := by decide +kernel
set_option maxRecDepth 20000 in
theorem dX1_endStatement_46 : decode cX1_endStatement 46 = .ok (.goto 4, 3) := by decide +kernel
set_option maxRecDepth 20000 in
theorem dX1_endStatement_49 : decode cX1_endStatement 49 = .ok (.iconst 4, 1) := by decide +kernel
set_option maxRecDepth 20000 in
theorem dX1_endStatement_50 : decode cX1_endStatement 50 = .ok (.dup2, 1) := by decide +kernel
set_option maxRecDepth 20000 in
theorem dX1_endStatement_51 : decode cX1_endStatement 51 = .ok (.iaload, 1) := by decide +kernel
set_option maxRecDepth 20000 in
theorem dX1_endStatement_52 : decode cX1_endStatement 52 = .ok (.iconst 1, 1) := by decide +kernel
set_option maxRecDepth 20000 in
theorem dX1_endStatement_53 : decode cX1_endStatement 53 = .ok (.iadd, 1) := by decide +kernel
set_option maxRecDepth 20000 in
theorem dX1_endStatement_54 : decode cX1_endStatement 54 = .ok (.iastore, 1) := by decide +kernel
set_option maxRecDepth 20000 in
theorem dX1_endStatement_55 : decode cX1_endStatement 55 = .ok (.goto 13, 3) := by decide +kernel
set_option maxRecDepth 20000 in
theorem dX1_endStatement_58 : decode cX1_endStatement 58 = .ok (.aload_n 0, 1) := by decide +kernel
set_option maxRecDepth 20000 in
theorem dX1_endStatement_59 : decode cX1_endStatement 59 = .ok (.getfield 21, 3) := by decide +kernel
set_option maxRecDepth 20000 in
theorem dX1_endStatement_62 : decode cX1_endStatement 62 = .ok (.iconst 2, 1) := by decide +kernel
set_option maxRecDepth 20000 in
theorem dX1_endStatement_63 : decode cX1_endStatement 63 = .ok (.dup2, 1) := by decide +kernel
set_option maxRecDepth 20000 in
theorem dX1_endStatement_64 : decode cX1_endStatement 64 = .ok (.iaload, 1) := by decide +kernel
set_option maxRecDepth 20000 in
theorem dX1_endStatement_65 : decode cX1_endStatement 65 = .ok (.iconst 1, 1) := by decide +kernel
set_option maxRecDepth 20000 in
theorem dX1_endStatement_66 : decode cX1_endStatement 66 = .ok (.iadd, 1) := by decide +kernel
set_option maxRecDepth 20000 in
theorem dX1_endStatement_67 : decode cX1_endStatement 67 = .ok (.iastore, 1) := by decide +kernel
set_option maxRecDepth 20000 in
theorem dX1_endStatement_68 : decode cX1_endStatement 68 = .ok (.aload_n 3, 1) := by decide +kernel
set_option maxRecDepth 20000 in
theorem dX1_endStatement_69 : decode cX1_endStatement 69 = .ok (.iload 4, 2) := by decide +kernel
set_option maxRecDepth 20000 in
theorem dX1_endStatement_71 : decode cX1_endStatement 71 = .ok (.iconst 1, 1) := by decide +kernel
set_option maxRecDepth 20000 in
theorem dX1_endStatement_72 : decode cX1_endStatement 72 = .ok (.isub, 1) := by decide +kernel
set_option maxRecDepth 20000 in
theorem dX1_endStatement_73 : decode cX1_endStatement 73 = .ok (.invokevirtual 83, 3) := by decide +kernel
set_option maxRecDepth 20000 in
theorem dX1_endStatement_76 : decode cX1_endStatement 76 = .ok (.iload_n 2, 1) := by decide +kernel
set_option maxRecDepth 20000 in
theorem dX1_endStatement_77 : decode cX1_endStatement 77 = .ok (.ireturn, 1) := by decide +kernel
set_option maxRecDepth 20000 in
theorem dX1_replaceValue_0 : decode cX1_replaceValue 0 = .ok (.aload_n 0, 1) := by decide +kernel
set_option maxRecDepth 20000 in
theorem dX1_replaceValue_1 : decode cX1_replaceValue 1 = .ok (.iload_n 1, 1) := by decide +kernel
set_option maxRecDepth 20000 in
theorem dX1_replaceValue_2 : decode cX1_replaceValue 2 = .ok (.iload_n 2, 1) := by decide +kernel
set_option maxRecDepth 20000 in
theorem dX1_replaceValue_3 : decode cX1_replaceValue 3 = .ok (.iconst 2, 1) := by decide +kernel
set_option maxRecDepth 20000 in
theorem dX1_replaceValue_4 : decode cX1_replaceValue 4 = .ok (.invokevirtual 93, 3) := by decide +kernel
set_option maxRecDepth 20000 in
theorem dX1_replaceValue_7 : decode cX1_replaceValue 7 = .ok (.ifCond .ne 6, 3) := by decide +kernel
set_option maxRecDepth 20000 in
theorem dX1_replaceValue_10 : decode cX1_replaceValue 10 = .ok (.bipush (-6), 2) := by decide +kernel
set_option maxRecDepth 20000 in
theorem dX1_replaceValue_12 : decode cX1_replaceValue 12 = .ok (.ireturn, 1) := by decide +kernel
set_option maxRecDepth 20000 in
theorem dX1_replaceValue_13 : decode cX1_replaceValue 13 = .ok (.aload_n 0, 1) := by decide +kernel
set_option maxRecDepth 20000 in
theorem dX1_replaceValue_14 : decode cX1_replaceValue 14 = .ok (.getfield 9, 3) := by decide +kernel
set_option maxRecDepth 20000 in
theorem dX1_replaceValue_17 : decode cX1_replaceValue 17 = .ok (.iload_n 2, 1) := by decide +kernel
set_option maxRecDepth 20000 in
theorem dX1_replaceValue_18 : decode cX1_replaceValue 18 = .ok (.iaload, 1) := by decide +kernel
set_option maxRecDepth 20000 in
theorem dX1_replaceValue_19 : decode cX1_replaceValue 19 = .ok (.istore 4, 2) := by decide +kernel
set_option maxRecDepth 20000 in
theorem dX1_replaceValue_21 : decode cX1_replaceValue 21 = .ok (.aload_n 0, 1) := by decide +kernel
set_option maxRecDepth 20000 in
theorem dX1_replaceValue_22 : decode cX1_replaceValue 22 = .ok (.getfield 17, 3) := by decide +kernel
set_option maxRecDepth 20000 in
theorem dX1_replaceValue_25 : decode cX1_replaceValue 25 = .ok (.iload_n 1, 1) := by decide +kernel
set_option maxRecDepth 20000 in
theorem dX1_replaceValue_26 : decode cX1_replaceValue 26 = .ok (.aaload, 1) := by decide +kernel
set_option maxRecDepth 20000 in
theorem dX1_replaceValue_27 : decode cX1_replaceValue 27 = .ok (.iload_n 2, 1) := by decide +kernel
set_option maxRecDepth 20000 in
theorem dX1_replaceValue_28 : decode cX1_replaceValue 28 = .ok (.iload 4, 2) := by decide +kernel
set_option maxRecDepth 20000 in
theorem dX1_replaceValue_30 : decode cX1_replaceValue 30 = .ok (.invokevirtual 120, 3) := by decide +kernel
set_option maxRecDepth 20000 in
theorem dX1_replaceValue_33 : decode cX1_replaceValue 33 = .ok (.aload_n 0, 1) := by decide +kernel
set_option maxRecDepth 20000 in
theorem dX1_replaceValue_34 : decode cX1_replaceValue 34 = .ok (.getfield 9, 3) := by decide +kernel
set_option maxRecDepth 20000 in
theorem dX1_replaceValue_37 : decode cX1_replaceValue 37 = .ok (.iload_n 2, 1) := by decide +kernel
set_option maxRecDepth 20000 in
theorem dX1_replaceValue_38 : decode cX1_replaceValue 38 = .ok (.iload_n 3, 1) := by decide +kernel
set_option maxRecDepth 20000 in
theorem dX1_replaceValue_39 : decode cX1_replaceValue 39 = .ok (.iastore, 1) := by decide +kernel
set_option maxRecDepth 20000 in
theorem dX1_replaceValue_40 : decode cX1_replaceValue 40 = .ok (.iload 4, 2) := by decide +kernel
set_option maxRecDepth 20000 in
theorem dX1_replaceValue_42 : decode cX1_replaceValue 42 = .ok (.ireturn, 1) := by decide +kernel
set_option maxRecDepth 20000 in
theorem dX1_addToValue_0 : decode cX1_addToValue 0 = .ok (.aload_n 0, 1) := by decide +kernel
set_option maxRecDepth 20000 in
theorem dX1_addToValue_1 : decode cX1_addToValue 1 = .ok (.iload_n 1, 1) := by decide +kernel
set_option maxRecDepth 20000 in
theorem dX1_addToValue_2 : decode cX1_addToValue 2 = .ok (.iload_n 2, 1) := by decide +kernel
set_option maxRecDepth 20000 in
theorem dX1_addToValue_3 : decode cX1_addToValue 3 = .ok (.iconst 2, 1) := by decide +kernel
set_option maxRecDepth 20000 in
theorem dX1_addToValue_4 : decode cX1_addToValue 4 = .ok (.invokevirtual 93, 3) := by decide +kernel
set_option maxRecDepth 20000 in
theorem dX1_addToValue_7 : decode cX1_addToValue 7 = .ok (.ifCond .ne 6, 3) := by decide +kernel
set_option maxRecDepth 20000 in
theorem dX1_addToValue_10 : decode cX1_addToValue 10 = .ok (.bipush (-6), 2) := by decide +kernel
set_option maxRecDepth 20000 in
theorem dX1_addToValue_12 : decode cX1_addToValue 12 = .ok (.ireturn, 1) := by decide +kernel
set_option maxRecDepth 20000 in
theorem dX1_addToValue_13 : decode cX1_addToValue 13 = .ok (.aload_n 0, 1) := by decide +kernel
set_option maxRecDepth 20000 in
theorem dX1_addToValue_14 : decode cX1_addToValue 14 = .ok (.getfield 9, 3) := by decide +kernel
set_option maxRecDepth 20000 in
theorem dX1_addToValue_17 : decode cX1_addToValue 17 = .ok (.iload_n 2, 1) := by decide +kernel
set_option maxRecDepth 20000 in
theorem dX1_addToValue_18 : decode cX1_addToValue 18 = .ok (.iaload, 1) := by decide +kernel
set_option maxRecDepth 20000 in
theorem dX1_addToValue_19 : decode cX1_addToValue 19 = .ok (.bipush (-5), 2) := by decide +kernel
set_option maxRecDepth 20000 in
theorem dX1_addToValue_21 : decode cX1_addToValue 21 = .ok (.if_icmp .ne 8, 3) := by decide +kernel
set_option maxRecDepth 20000 in
theorem dX1_addToValue_24 : decode cX1_addToValue 24 = .ok (.iload 4, 2) := by decide +kernel
set_option maxRecDepth 20000 in
theorem dX1_addToValue_26 : decode cX1_addToValue 26 = .ok (.goto 9, 3) := by decide +kernel
set_option maxRecDepth 20000 in
theorem dX1_addToValue_29 : decode cX1_addToValue 29 = .ok (.aload_n 0, 1) := by decide +kernel
set_option maxRecDepth 20000 in
theorem dX1_addToValue_30 : decode cX1_addToValue 30 = .ok (.getfield 9, 3) := by decide +kernel
set_option maxRecDepth 20000 in
theorem dX1_addToValue_33 : decode cX1_addToValue 33 = .ok (.iload_n 2, 1) := by decide +kernel
set_option maxRecDepth 20000 in
theorem dX1_addToValue_34 : decode cX1_addToValue 34 = .ok (.iaload, 1) := by decide +kernel
set_option maxRecDepth 20000 in
theorem dX1_addToValue_35 : decode cX1_addToValue 35 = .ok (.istore 5, 2) := by decide +kernel
set_option maxRecDepth 20000 in
theorem dX1_addToValue_37 : decode cX1_addToValue 37 = .ok (.iload 5, 2) := by decide +kernel
set_option maxRecDepth 20000 in
theorem dX1_addToValue_39 : decode cX1_addToValue 39 = .ok (.bipush (-5), 2) := by decide +kernel
set_option maxRecDepth 20000 in
theorem dX1_addToValue_41 : decode cX1_addToValue 41 = .ok (.if_icmp .eq 13, 3) := by decide +kernel
set_option maxRecDepth 20000 in
theorem dX1_addToValue_44 : decode cX1_addToValue 44 = .ok (.iload 5, 2) := by decide +kernel
set_option maxRecDepth 20000 in
theorem dX1_addToValue_46 : decode cX1_addToValue 46 = .ok (.iload_n 3, 1) := by decide +kernel
set_option maxRecDepth 20000 in
theorem dX1_addToValue_47 : decode cX1_addToValue 47 = .ok (.iadd, 1) := by decide +kernel
set_option maxRecDepth 20000 in
theorem dX1_addToValue_48 : decode cX1_addToValue 48 = .ok (.invokestatic 100, 3) := by decide +kernel
set_option maxRecDepth 20000 in
theorem dX1_addToValue_51 : decode cX1_addToValue 51 = .ok (.ifCond .ne 6, 3) := by decide +kernel
set_option maxRecDepth 20000 in
theorem dX1_addToValue_54 : decode cX1_addToValue 54 = .ok (.bipush (-7), 2) := by decide +kernel
set_option maxRecDepth 20000 in
theorem dX1_addToValue_56 : decode cX1_addToValue 56 = .ok (.ireturn, 1) := by decide +kernel
set_option maxRecDepth 20000 in
theorem dX1_addToValue_57 : decode cX1_addToValue 57 = .ok (.aload_n 0, 1) := by decide +kernel
set_option maxRecDepth 20000 in
theorem dX1_addToValue_58 : decode cX1_addToValue 58 = .ok (.getfield 17, 3) := by decide +kernel
set_option maxRecDepth 20000 in
theorem dX1_addToValue_61 : decode cX1_addToValue 61 = .ok (.iload_n 1, 1) := by decide +kernel
set_option maxRecDepth 20000 in
theorem dX1_addToValue_62 : decode cX1_addToValue 62 = .ok (.aaload, 1) := by decide +kernel
set_option maxRecDepth 20000 in
theorem dX1_addToValue_63 : decode cX1_addToValue 63 = .ok (.iload_n 2, 1) := by decide +kernel
set_option maxRecDepth 20000 in
theorem dX1_addToValue_64 : decode cX1_addToValue 64 = .ok (.aload_n 0, 1) := by decide +kernel
set_option maxRecDepth 20000 in
theorem dX1_addToValue_65 : decode cX1_addToValue 65 = .ok (.getfield 9, 3) := by decide +kernel
set_option maxRecDepth 20000 in
theorem dX1_addToValue_68 : decode cX1_addToValue 68 = .ok (.iload_n 2, 1) := by decide +kernel
set_option maxRecDepth 20000 in
theorem dX1_addToValue_69 : decode cX1_addToValue 69 = .ok (.iaload, 1) := by decide +kernel
set_option maxRecDepth 20000 in
theorem dX1_addToValue_70 : decode cX1_addToValue 70 = .ok (.invokevirtual 120, 3) := by decide +kernel
set_option maxRecDepth 20000 in
theorem dX1_addToValue_73 : decode cX1_addToValue 73 = .ok (.aload_n 0, 1) := by decide +kernel
set_option maxRecDepth 20000 in
theorem dX1_addToValue_74 : decode cX1_addToValue 74 = .ok (.getfield 9, 3) := by decide +kernel
set_option maxRecDepth 20000 in
theorem dX1_addToValue_77 : decode cX1_addToValue 77 = .ok (.iload_n 2, 1) := by decide +kernel
set_option maxRecDepth 20000 in
theorem dX1_addToValue_78 : decode cX1_addToValue 78 = .ok (.iload 5, 2) := by decide +kernel
set_option maxRecDepth 20000 in
theorem dX1_addToValue_80 : decode cX1_addToValue 80 = .ok (.iload_n 3, 1) := by decide +kernel
set_option maxRecDepth 20000 in
theorem dX1_addToValue_81 : decode cX1_addToValue 81 = .ok (.iadd, 1) := by decide +kernel
set_option maxRecDepth 20000 in
theorem dX1_addToValue_82 : decode cX1_addToValue 82 = .ok (.iastore, 1) := by decide +kernel
set_option maxRecDepth 20000 in
theorem dX1_addToValue_83 : decode cX1_addToValue 83 = .ok (.aload_n 0, 1) := by decide +kernel
set_option maxRecDepth 20000 in
theorem dX1_addToValue_84 : decode cX1_addToValue 84 = .ok (.getfield 9, 3) := by decide +kernel
set_option maxRecDepth 20000 in
theorem dX1_addToValue_87 : decode cX1_addToValue 87 = .ok (.iload_n 2, 1) := by decide +kernel
set_option maxRecDepth 20000 in
theorem dX1_addToValue_88 : decode cX1_addToValue 88 = .ok (.iaload, 1) := by decide +kernel
set_option maxRecDepth 20000 in
theorem dX1_addToValue_89 : decode cX1_addToValue 89 = .ok (.ireturn, 1) := by decide +kernel
set_option maxRecDepth 20000 in
theorem dX1_takeLock_0 : decode cX1_takeLock 0 = .ok (.aload_n 0, 1) := by decide +kernel
set_option maxRecDepth 20000 in
theorem dX1_takeLock_1 : decode cX1_takeLock 1 = .ok (.iload_n 1, 1) := by decide +kernel
set_option maxRecDepth 20000 in
theorem dX1_takeLock_2 : decode cX1_takeLock 2 = .ok (.iload_n 2, 1) := by decide +kernel
set_option maxRecDepth 20000 in
theorem dX1_takeLock_3 : decode cX1_takeLock 3 = .ok (.iload_n 3, 1) := by decide +kernel
set_option maxRecDepth 20000 in
theorem dX1_takeLock_4 : decode cX1_takeLock 4 = .ok (.invokevirtual 124, 3) := by decide +kernel
set_option maxRecDepth 20000 in
theorem dX1_takeLock_7 : decode cX1_takeLock 7 = .ok (.ifCond .eq 5, 3) := by decide +kernel
set_option maxRecDepth 20000 in
theorem dX1_takeLock_10 : decode cX1_takeLock 10 = .ok (.iconst 0, 1) := by decide +kernel
set_option maxRecDepth 20000 in
theorem dX1_takeLock_11 : decode cX1_takeLock 11 = .ok (.ireturn, 1) := by decide +kernel
set_option maxRecDepth 20000 in
theorem dX1_takeLock_12 : decode cX1_takeLock 12 = .ok (.aload_n 0, 1) := by decide +kernel
set_option maxRecDepth 20000 in
theorem dX1_takeLock_13 : decode cX1_takeLock 13 = .ok (.getfield 17, 3) := by decide +kernel
set_option maxRecDepth 20000 in
theorem dX1_takeLock_16 : decode cX1_takeLock 16 = .ok (.iload_n 1, 1) := by decide +kernel
set_option maxRecDepth 20000 in
theorem dX1_takeLock_17 : decode cX1_takeLock 17 = .ok (.aaload, 1) := by decide +kernel
set_option maxRecDepth 20000 in
theorem dX1_takeLock_18 : decode cX1_takeLock 18 = .ok (.iload_n 2, 1) := by decide +kernel
set_option maxRecDepth 20000 in
theorem dX1_takeLock_19 : decode cX1_takeLock 19 = .ok (.invokevirtual 127, 3) := by decide +kernel
set_option maxRecDepth 20000 in
theorem dX1_takeLock_22 : decode cX1_takeLock 22 = .ok (.iload_n 3, 1) := by decide +kernel
set_option maxRecDepth 20000 in
theorem dX1_takeLock_23 : decode cX1_takeLock 23 = .ok (.if_icmp .ge 14, 3) := by decide +kernel
set_option maxRecDepth 20000 in
theorem dX1_takeLock_26 : decode cX1_takeLock 26 = .ok (.aload_n 0, 1) := by decide +kernel
set_option maxRecDepth 20000 in
theorem dX1_takeLock_27 : decode cX1_takeLock 27 = .ok (.getfield 17, 3) := by decide +kernel
set_option maxRecDepth 20000 in
theorem dX1_takeLock_30 : decode cX1_takeLock 30 = .ok (.iload_n 1, 1) := by decide +kernel
set_option maxRecDepth 20000 in
theorem dX1_takeLock_31 : decode cX1_takeLock 31 = .ok (.aaload, 1) := by decide +kernel
set_option maxRecDepth 20000 in
theorem dX1_takeLock_32 : decode cX1_takeLock 32 = .ok (.iload_n 2, 1) := by decide +kernel
set_option maxRecDepth 20000 in
theorem dX1_takeLock_33 : decode cX1_takeLock 33 = .ok (.iload_n 3, 1) := by decide +kernel
set_option maxRecDepth 20000 in
theorem dX1_takeLock_34 : decode cX1_takeLock 34 = .ok (.invokevirtual 130, 3) := by decide +kernel
set_option maxRecDepth 20000 in
theorem dX1_takeLock_37 : decode cX1_takeLock 37 = .ok (.iconst 1, 1) := by decide +kernel
set_option maxRecDepth 20000 in
theorem dX1_takeLock_38 : decode cX1_takeLock 38 = .ok (.ireturn, 1) := by decide +kernel
set_option maxRecDepth 20000 in
theorem dX1_isBusy_0 : decode cX1_isBusy 0 = .ok (.aload_n 0, 1) := by decide +kernel
set_option maxRecDepth 20000 in
theorem dX1_isBusy_1 : decode cX1_isBusy 1 = .ok (.getfield 17, 3) := by decide +kernel
set_option maxRecDepth 20000 in
theorem dX1_isBusy_4 : decode cX1_isBusy 4 = .ok (.iload_n 1, 1) := by decide +kernel
set_option maxRecDepth 20000 in
theorem dX1_isBusy_5 : decode cX1_isBusy 5 = .ok (.aaload, 1) := by decide +kernel
set_option maxRecDepth 20000 in
theorem dX1_isBusy_6 : decode cX1_isBusy 6 = .ok (.iload_n 2, 1) := by decide +kernel
set_option maxRecDepth 20000 in
theorem dX1_isBusy_7 : decode cX1_isBusy 7 = .ok (.invokevirtual 127, 3) := by decide +kernel
set_option maxRecDepth 20000 in
theorem dX1_isBusy_10 : decode cX1_isBusy 10 = .ok (.iload_n 3, 1) := by decide +kernel
set_option maxRecDepth 20000 in
theorem dX1_isBusy_11 : decode cX1_isBusy 11 = .ok (.if_icmp .lt 5, 3) := by decide +kernel
set_option maxRecDepth 20000 in
theorem dX1_isBusy_14 : decode cX1_isBusy 14 = .ok (.iconst 0, 1) := by decide +kernel
set_option maxRecDepth 20000 in
theorem dX1_isBusy_15 : decode cX1_isBusy 15 = .ok (.ireturn, 1) := by decide +kernel
set_option maxRecDepth 20000 in
theorem dX1_isBusy_16 : decode cX1_isBusy 16 = .ok (.iload_n 3, 1) := by decide +kernel
set_option maxRecDepth 20000 in
theorem dX1_isBusy_17 : decode cX1_isBusy 17 = .ok (.iconst 1, 1) := by decide +kernel
set_option maxRecDepth 20000 in
theorem dX1_isBusy_18 : decode cX1_isBusy 18 = .ok (.if_icmp .ne 7, 3) := by decide +kernel
set_option maxRecDepth 20000 in
theorem dX1_isBusy_21 : decode cX1_isBusy 21 = .ok (.iconst 1, 1) := by decide +kernel
set_option maxRecDepth 20000 in
theorem dX1_isBusy_22 : decode cX1_isBusy 22 = .ok (.goto 4, 3) := by decide +kernel
set_option maxRecDepth 20000 in
theorem dX1_isBusy_25 : decode cX1_isBusy 25 = .ok (.iconst 0, 1) := by decide +kernel
set_option maxRecDepth 20000 in
theorem dX1_isBusy_26 : decode cX1_isBusy 26 = .ok (.istore 4, 2) := by decide +kernel
set_option maxRecDepth 20000 in
theorem dX1_isBusy_28 : decode cX1_isBusy 28 = .ok (.iconst 0, 1) := by decide +kernel
set_option maxRecDepth 20000 in
theorem dX1_isBusy_29 : decode cX1_isBusy 29 = .ok (.istore 5, 2) := by decide +kernel
set_option maxRecDepth 20000 in
theorem dX1_isBusy_31 : decode cX1_isBusy 31 = .ok (.iload 5, 2) := by decide +kernel
set_option maxRecDepth 20000 in
theorem dX1_isBusy_33 : decode cX1_isBusy 33 = .ok (.iconst 3, 1) := by decide +kernel
set_option maxRecDepth 20000 in
theorem dX1_isBusy_34 : decode cX1_isBusy 34 = .ok (.if_icmp .ge 33, 3) := by decide +kernel
set_option maxRecDepth 20000 in
theorem dX1_isBusy_37 : decode cX1_isBusy 37 = .ok (.iload 5, 2) := by decide +kernel
set_option maxRecDepth 20000 in
theorem dX1_isBusy_39 : decode cX1_isBusy 39 = .ok (.iload_n 1, 1) := by decide +kernel
set_option maxRecDepth 20000 in
theorem dX1_isBusy_40 : decode cX1_isBusy 40 = .ok (.if_icmp .eq 21, 3) := by decide +kernel
set_option maxRecDepth 20000 in
theorem dX1_isBusy_43 : decode cX1_isBusy 43 = .ok (.aload_n 0, 1) := by decide +kernel
set_option maxRecDepth 20000 in
theorem dX1_isBusy_44 : decode cX1_isBusy 44 = .ok (.getfield 17, 3) := by decide +kernel
set_option maxRecDepth 20000 in
theorem dX1_isBusy_47 : decode cX1_isBusy 47 = .ok (.iload 5, 2) := by decide +kernel
set_option maxRecDepth 20000 in
theorem dX1_isBusy_49 : decode cX1_isBusy 49 = .ok (.aaload, 1) := by decide +kernel
set_option maxRecDepth 20000 in
theorem dX1_isBusy_50 : decode cX1_isBusy 50 = .ok (.iload_n 2, 1) := by decide +kernel
set_option maxRecDepth 20000 in
theorem dX1_isBusy_51 : decode cX1_isBusy 51 = .ok (.invokevirtual 127, 3) := by decide +kernel
set_option maxRecDepth 20000 in
theorem dX1_isBusy_54 : decode cX1_isBusy 54 = .ok (.iload 4, 2) := by decide +kernel
set_option maxRecDepth 20000 in
theorem dX1_isBusy_56 : decode cX1_isBusy 56 = .ok (.if_icmp .le 5, 3) := by decide +kernel
set_option maxRecDepth 20000 in
theorem dX1_isBusy_59 : decode cX1_isBusy 59 = .ok (.iconst 1, 1) := by decide +kernel
set_option maxRecDepth 20000 in
theorem dX1_isBusy_60 : decode cX1_isBusy 60 = .ok (.ireturn, 1) := by decide +kernel
set_option maxRecDepth 20000 in
theorem dX1_isBusy_61 : decode cX1_isBusy 61 = .ok (.iinc 5 1, 3) := by decide +kernel
set_option maxRecDepth 20000 in
theorem dX1_isBusy_64 : decode cX1_isBusy 64 = .ok (.goto (-33), 3) := by decide +kernel
set_option maxRecDepth 20000 in
theorem dX1_isBusy_67 : decode cX1_isBusy 67 = .ok (.iconst 0, 1) := by decide +kernel
set_option maxRecDepth 20000 in
theorem dX1_isBusy_68 : decode cX1_isBusy 68 = .ok (.ireturn, 1) := by decide +kernel
set_option maxRecDepth 20000 in
theorem dX1_undoToMoment_0 : decode cX1_undoToMoment 0 = .ok (.iconst 0, 1) := by decide +kernel
set_option maxRecDepth 20000 in
theorem dX1_undoToMoment_1 : decode cX1_undoToMoment 1 = .ok (.istore_n 3, 1) := by decide +kernel
set_option maxRecDepth 20000 in
theorem dX1_undoToMoment_2 : decode cX1_undoToMoment 2 = .ok (.iconst 0, 1) := by decide +kernel
set_option maxRecDepth 20000 in
theorem dX1_undoToMoment_3 : decode cX1_undoToMoment 3 = .ok (.istore 4, 2) := by decide +kernel
set_option maxRecDepth 20000 in
theorem dX1_undoToMoment_5 : decode cX1_undoToMoment 5 = .ok (.iload 4, 2) := by decide +kernel
set_option maxRecDepth 20000 in
theorem dX1_undoToMoment_7 : decode cX1_undoToMoment 7 = .ok (.bipush 16, 2) := by decide +kernel
set_option maxRecDepth 20000 in
theorem dX1_undoToMoment_9 : decode cX1_undoToMoment 9 = .ok (.if_icmp .ge 49, 3) := by decide +kernel
set_option maxRecDepth 20000 in
theorem dX1_undoToMoment_12 : decode cX1_undoToMoment 12 = .ok (.aload_n 1, 1) := by decide +kernel
set_option maxRecDepth 20000 in
theorem dX1_undoToMoment_13 : decode cX1_undoToMoment 13 = .ok (.iload_n 2, 1) := by decide +kernel
set_option maxRecDepth 20000 in
theorem dX1_undoToMoment_14 : decode cX1_undoToMoment 14 = .ok (.iload 4, 2) := by decide +kernel
set_option maxRecDepth 20000 in
theorem dX1_undoToMoment_16 : decode cX1_undoToMoment 16 = .ok (.aload_n 0, 1) := by decide +kernel
set_option maxRecDepth 20000 in
theorem dX1_undoToMoment_17 : decode cX1_undoToMoment 17 = .ok (.getfield 9, 3) := by decide +kernel
set_option maxRecDepth 20000 in
theorem dX1_undoToMoment_20 : decode cX1_undoToMoment 20 = .ok (.iload 4, 2) := by decide +kernel
set_option maxRecDepth 20000 in
theorem dX1_undoToMoment_22 : decode cX1_undoToMoment 22 = .ok (.iaload, 1) := by decide +kernel
set_option maxRecDepth 20000 in
theorem dX1_undoToMoment_23 : decode cX1_undoToMoment 23 = .ok (.invokevirtual 39, 3) := by decide +kernel
set_option maxRecDepth 20000 in
theorem dX1_undoToMoment_26 : decode cX1_undoToMoment 26 = .ok (.istore 5, 2) := by decide +kernel
set_option maxRecDepth 20000 in
theorem dX1_undoToMoment_28 : decode cX1_undoToMoment 28 = .ok (.iload 5, 2) := by decide +kernel
set_option maxRecDepth 20000 in
theorem dX1_undoToMoment_30 : decode cX1_undoToMoment 30 = .ok (.aload_n 0, 1) := by decide +kernel
set_option maxRecDepth 20000 in
theorem dX1_undoToMoment_31 : decode cX1_undoToMoment 31 = .ok (.getfield 9, 3) := by decide +kernel
set_option maxRecDepth 20000 in
theorem dX1_undoToMoment_34 : decode cX1_undoToMoment 34 = .ok (.iload 4, 2) := by decide +kernel
set_option maxRecDepth 20000 in
theorem dX1_undoToMoment_36 : decode cX1_undoToMoment 36 = .ok (.iaload, 1) := by decide +kernel
set_option maxRecDepth 20000 in
theorem dX1_undoToMoment_37 : decode cX1_undoToMoment 37 = .ok (.if_icmp .eq 6, 3) := by decide +kernel
set_option maxRecDepth 20000 in
theorem dX1_undoToMoment_40 : decode cX1_undoToMoment 40 = .ok (.iinc 3 1, 3) := by decide +kernel
set_option maxRecDepth 20000 in
theorem dX1_undoToMoment_43 : decode cX1_undoToMoment 43 = .ok (.aload_n 0, 1) := by decide +kernel
set_option maxRecDepth 20000 in
theorem dX1_undoToMoment_44 : decode cX1_undoToMoment 44 = .ok (.getfield 9, 3) := by decide +kernel
set_option maxRecDepth 20000 in
theorem dX1_undoToMoment_47 : decode cX1_undoToMoment 47 = .ok (.iload 4, 2) := by decide +kernel
set_option maxRecDepth 20000 in
theorem dX1_undoToMoment_49 : decode cX1_undoToMoment 49 = .ok (.iload 5, 2) := by decide +kernel
set_option maxRecDepth 20000 in
theorem dX1_undoToMoment_51 : decode cX1_undoToMoment 51 = .ok (.iastore, 1) := by decide +kernel
set_option maxRecDepth 20000 in
theorem dX1_undoToMoment_52 : decode cX1_undoToMoment 52 = .ok (.iinc 4 1, 3) := by decide +kernel
set_option maxRecDepth 20000 in
theorem dX1_undoToMoment_55 : decode cX1_undoToMoment 55 = .ok (.goto (-50), 3) := by decide +kernel
set_option maxRecDepth 20000 in
theorem dX1_undoToMoment_58 : decode cX1_undoToMoment 58 = .ok (.aload_n 1, 1) := by decide +kernel
set_option maxRecDepth 20000 in
theorem dX1_undoToMoment_59 : decode cX1_undoToMoment 59 = .ok (.iload_n 2, 1) := by decide +kernel
set_option maxRecDepth 20000 in
theorem dX1_undoToMoment_60 : decode cX1_undoToMoment 60 = .ok (.invokevirtual 133, 3) := by decide +kernel
set_option maxRecDepth 20000 in
theorem dX1_undoToMoment_63 : decode cX1_undoToMoment 63 = .ok (.aload_n 0, 1) := by decide +kernel
set_option maxRecDepth 20000 in
theorem dX1_undoToMoment_64 : decode cX1_undoToMoment 64 = .ok (.getfield 25, 3) := by decide +kernel
set_option maxRecDepth 20000 in
theorem dX1_undoToMoment_67 : decode cX1_undoToMoment 67 = .ok (.ifCond .ne 8, 3) := by decide +kernel
set_option maxRecDepth 20000 in
theorem dX1_undoToMoment_70 : decode cX1_undoToMoment 70 = .ok (.aload_n 1, 1) := by decide +kernel
set_option maxRecDepth 20000 in
theorem dX1_undoToMoment_71 : decode cX1_undoToMoment 71 = .ok (.iload_n 2, 1) := by decide +kernel
set_option maxRecDepth 20000 in
theorem dX1_undoToMoment_72 : decode cX1_undoToMoment 72 = .ok (.invokevirtual 136, 3) := by decide +kernel
set_option maxRecDepth 20000 in
theorem dX1_undoToMoment_75 : decode cX1_undoToMoment 75 = .ok (.iload_n 3, 1) := by decide +kernel
set_option maxRecDepth 20000 in
theorem dX1_undoToMoment_76 : decode cX1_undoToMoment 76 = .ok (.ireturn, 1) := by decide +kernel
set_option maxRecDepth 20000 in
theorem dX2_init_0 : decode cX2_init 0 = .ok (.aload_n 0, 1) := by decide +kernel
set_option maxRecDepth 20000 in
theorem dX2_init_1 : decode cX2_init 1 = .ok (.invokespecial 3, 3) := by decide +kernel
set_option maxRecDepth 20000 in
theorem dX2_init_4 : decode cX2_init 4 = .ok (.aload_n 0, 1) := by decide +kernel
set_option maxRecDepth 20000 in
theorem dX2_init_5 : decode cX2_init 5 = .ok (.bipush 14, 2) := by decide +kernel
set_option maxRecDepth 20000 in
theorem dX2_init_7 : decode cX2_init 7 = .ok (.newarray .int, 2) := by decide +kernel
set_option maxRecDepth 20000 in
theorem dX2_init_9 : decode cX2_init 9 = .ok (.putfield 9, 3) := by decide +kernel
set_option maxRecDepth 20000 in
theorem dX2_init_12 : decode cX2_init 12 = .ok (.aload_n 0, 1) := by decide +kernel
set_option maxRecDepth 20000 in
theorem dX2_init_13 : decode cX2_init 13 = .ok (.bipush 12, 2) := by decide +kernel
set_option maxRecDepth 20000 in
theorem dX2_init_15 : decode cX2_init 15 = .ok (.newarray .int, 2) := by decide +kernel
set_option maxRecDepth 20000 in
theorem dX2_init_17 : decode cX2_init 17 = .ok (.putfield 15, 3) := by decide +kernel
set_option maxRecDepth 20000 in
theorem dX2_init_20 : decode cX2_init 20 = .ok (.aload_n 0, 1) := by decide +kernel
set_option maxRecDepth 20000 in
theorem dX2_init_21 : decode cX2_init 21 = .ok (.bipush 14, 2) := by decide +kernel
set_option maxRecDepth 20000 in
theorem dX2_init_23 : decode cX2_init 23 = .ok (.newarray .int, 2) := by decide +kernel
set_option maxRecDepth 20000 in
theorem dX2_init_25 : decode cX2_init 25 = .ok (.putfield 18, 3) := by decide +kernel
set_option maxRecDepth 20000 in
theorem dX2_init_28 : decode cX2_init 28 = .ok (.aload_n 0, 1) := by decide +kernel
set_option maxRecDepth 20000 in
theorem dX2_init_29 : decode cX2_init 29 = .ok (.sipush 224, 3) := by decide +kernel
set_option maxRecDepth 20000 in
theorem dX2_init_32 : decode cX2_init 32 = .ok (.newarray .int, 2) := by decide +kernel
set_option maxRecDepth 20000 in
theorem dX2_init_34 : decode cX2_init 34 = .ok (.putfield 21, 3) := by decide +kernel
set_option maxRecDepth 20000 in
theorem dX2_init_37 : decode cX2_init 37 = .ok (.return_, 1) := by decide +kernel
set_option maxRecDepth 20000 in
theorem dX2_isOpen_0 : decode cX2_isOpen 0 = .ok (.aload_n 0, 1) := by decide +kernel
set_option maxRecDepth 20000 in
theorem dX2_isOpen_1 : decode cX2_isOpen 1 = .ok (.getfield 24, 3) := by decide +kernel
set_option maxRecDepth 20000 in
theorem dX2_isOpen_4 : decode cX2_isOpen 4 = .ok (.ifCond .le 7, 3) := by decide +kernel
set_option maxRecDepth 20000 in
theorem dX2_isOpen_7 : decode cX2_isOpen 7 = .ok (.iconst 1, 1) := by decide +kernel
set_option maxRecDepth 20000 in
theorem dX2_isOpen_8 : decode cX2_isOpen 8 = .ok (.goto 4, 3) := by decide +kernel
set_option maxRecDepth 20000 in
theorem dX2_isOpen_11 : decode cX2_isOpen 11 = .ok (.iconst 0, 1) := by decide +kernel
set_option maxRecDepth 20000 in
theorem dX2_isOpen_12 : decode cX2_isOpen 12 = .ok (.ireturn, 1) := by decide +kernel
set_option maxRecDepth 20000 in
theorem dX2_savepointCount_0 : decode cX2_savepointCount 0 = .ok (.aload_n 0, 1) := by decide +kernel
set_option maxRecDepth 20000 in
theorem dX2_savepointCount_1 : decode cX2_savepointCount 1 = .ok (.getfield 24, 3) := by decide +kernel
set_option maxRecDepth 20000 in
theorem dX2_savepointCount_4 : decode cX2_savepointCount 4 = .ok (.iconst 1, 1) := by decide +kernel
set_option maxRecDepth 20000 in
theorem dX2_savepointCount_5 : decode cX2_savepointCount 5 = .ok (.isub, 1) := by decide +kernel
set_option maxRecDepth 20000 in
theorem dX2_savepointCount_6 : decode cX2_savepointCount 6 = .ok (.iconst 0, 1) := by decide +kernel
set_option maxRecDepth 20000 in
theorem dX2_savepointCount_7 : decode cX2_savepointCount 7 = .ok (.invokestatic 28, 3) := by decide +kernel
set_option maxRecDepth 20000 in
theorem dX2_savepointCount_10 : decode cX2_savepointCount 10 = .ok (.ireturn, 1) := by decide +kernel
set_option maxRecDepth 20000 in
theorem dX2_addMoment_0 : decode cX2_addMoment 0 = .ok (.aload_n 0, 1) := by decide +kernel
set_option maxRecDepth 20000 in
theorem dX2_addMoment_1 : decode cX2_addMoment 1 = .ok (.getfield 24, 3) := by decide +kernel
set_option maxRecDepth 20000 in
theorem dX2_addMoment_4 : decode cX2_addMoment 4 = .ok (.bipush 14, 2) := by decide +kernel
set_option maxRecDepth 20000 in
theorem dX2_addMoment_6 : decode cX2_addMoment 6 = .ok (.if_icmp .lt 4, 3) := by decide +kernel
set_option maxRecDepth 20000 in
theorem dX2_addMoment_9 : decode cX2_addMoment 9 = .ok (.return_, 1) := by decide +kernel
set_option maxRecDepth 20000 in
theorem dX2_addMoment_10 : decode cX2_addMoment 10 = .ok (.aload_n 0, 1) := by decide +kernel
set_option maxRecDepth 20000 in
theorem dX2_addMoment_11 : decode cX2_addMoment 11 = .ok (.getfield 9, 3) := by decide +kernel
set_option maxRecDepth 20000 in
theorem dX2_addMoment_14 : decode cX2_addMoment 14 = .ok (.aload_n 0, 1) := by decide +kernel
set_option maxRecDepth 20000 in
theorem dX2_addMoment_15 : decode cX2_addMoment 15 = .ok (.getfield 24, 3) := by decide +kernel
set_option maxRecDepth 20000 in
theorem dX2_addMoment_18 : decode cX2_addMoment 18 = .ok (.aload_n 0, 1) := by decide +kernel
set_option maxRecDepth 20000 in
theorem dX2_addMoment_19 : decode cX2_addMoment 19 = .ok (.getfield 34, 3) := by decide +kernel
set_option maxRecDepth 20000 in
theorem dX2_addMoment_22 : decode cX2_addMoment 22 = .ok (.iastore, 1) := by decide +kernel
set_option maxRecDepth 20000 in
theorem dX2_addMoment_23 : decode cX2_addMoment 23 = .ok (.aload_n 0, 1) := by decide +kernel
set_option maxRecDepth 20000 in
theorem dX2_addMoment_24 : decode cX2_addMoment 24 = .ok (.getfield 18, 3) := by decide +kernel
set_option maxRecDepth 20000 in
theorem dX2_addMoment_27 : decode cX2_addMoment 27 = .ok (.aload_n 0, 1) := by decide +kernel
set_option maxRecDepth 20000 in
theorem dX2_addMoment_28 : decode cX2_addMoment 28 = .ok (.getfield 24, 3) := by decide +kernel
set_option maxRecDepth 20000 in
theorem dX2_addMoment_31 : decode cX2_addMoment 31 = .ok (.iconst 0, 1) := by decide +kernel
set_option maxRecDepth 20000 in
theorem dX2_addMoment_32 : decode cX2_addMoment 32 = .ok (.iastore, 1) := by decide +kernel
set_option maxRecDepth 20000 in
theorem dX2_addMoment_33 : decode cX2_addMoment 33 = .ok (.aload_n 0, 1) := by decide +kernel
set_option maxRecDepth 20000 in
theorem dX2_addMoment_34 : decode cX2_addMoment 34 = .ok (.dup, 1) := by decide +kernel
set_option maxRecDepth 20000 in
theorem dX2_addMoment_35 : decode cX2_addMoment 35 = .ok (.getfield 24, 3) := by decide +kernel
set_option maxRecDepth 20000 in
theorem dX2_addMoment_38 : decode cX2_addMoment 38 = .ok (.iconst 1, 1) := by decide +kernel
set_option maxRecDepth 20000 in
theorem dX2_addMoment_39 : decode cX2_addMoment 39 = .ok (.iadd, 1) := by decide +kernel
set_option maxRecDepth 20000 in
theorem dX2_addMoment_40 : decode cX2_addMoment 40 = .ok (.putfield 24, 3) := by decide +kernel
set_option maxRecDepth 20000 in
theorem dX2_addMoment_43 : decode cX2_addMoment 43 = .ok (.return_, 1) := by decide +kernel
set_option maxRecDepth 20000 in
theorem dX2_close_0 : decode cX2_close 0 = .ok (.aload_n 0, 1) := by decide +kernel
set_option maxRecDepth 20000 in
theorem dX2_close_1 : decode cX2_close 1 = .ok (.iconst 0, 1) := by decide +kernel
set_option maxRecDepth 20000 in
theorem dX2_close_2 : decode cX2_close 2 = .ok (.putfield 24, 3) := by decide +kernel
set_option maxRecDepth 20000 in
theorem dX2_close_5 : decode cX2_close 5 = .ok (.aload_n 0, 1) := by decide +kernel
set_option maxRecDepth 20000 in
theorem dX2_close_6 : decode cX2_close 6 = .ok (.iconst 0, 1) := by decide +kernel
set_option maxRecDepth 20000 in
theorem dX2_close_7 : decode cX2_close 7 = .ok (.putfield 34, 3) := by decide +kernel
set_option maxRecDepth 20000 in
theorem dX2_close_10 : decode cX2_close 10 = .ok (.return_, 1) := by decide +kernel
set_option maxRecDepth 20000 in
theorem dX2_nearestSavepoint_0 : decode cX2_nearestSavepoint 0 = .ok (.aload_n 0, 1) := by decide +kernel
set_option maxRecDepth 20000 in
theorem dX2_nearestSavepoint_1 : decode cX2_nearestSavepoint 1 = .ok (.invokevirtual 37, 3) := by decide +kernel
set_option maxRecDepth 20000 in
theorem dX2_nearestSavepoint_4 : decode cX2_nearestSavepoint 4 = .ok (.iconst 1, 1) := by decide +kernel
set_option maxRecDepth 20000 in
theorem dX2_nearestSavepoint_5 : decode cX2_nearestSavepoint 5 = .ok (.isub, 1) := by decide +kernel
set_option maxRecDepth 20000 in
theorem dX2_nearestSavepoint_6 : decode cX2_nearestSavepoint 6 = .ok (.istore_n 2, 1) := by decide +kernel
set_option maxRecDepth 20000 in
theorem dX2_nearestSavepoint_7 : decode cX2_nearestSavepoint 7 = .ok (.iload_n 2, 1) := by decide +kernel
set_option maxRecDepth 20000 in
theorem dX2_nearestSavepoint_8 : decode cX2_nearestSavepoint 8 = .ok (.ifCond .lt 21, 3) := by decide +kernel
set_option maxRecDepth 20000 in
theorem dX2_nearestSavepoint_11 : decode cX2_nearestSavepoint 11 = .ok (.aload_n 0, 1) := by decide +kernel
set_option maxRecDepth 20000 in
theorem dX2_nearestSavepoint_12 : decode cX2_nearestSavepoint 12 = .ok (.getfield 15, 3) := by decide +kernel
set_option maxRecDepth 20000 in
theorem dX2_nearestSavepoint_15 : decode cX2_nearestSavepoint 15 = .ok (.iload_n 2, 1) := by decide +kernel
set_option maxRecDepth 20000 in
theorem dX2_nearestSavepoint_16 : decode cX2_nearestSavepoint 16 = .ok (.iaload, 1) := by decide +kernel
set_option maxRecDepth 20000 in
theorem dX2_nearestSavepoint_17 : decode cX2_nearestSavepoint 17 = .ok (.iload_n 1, 1) := by decide +kernel
set_option maxRecDepth 20000 in
theorem dX2_nearestSavepoint_18 : decode cX2_nearestSavepoint 18 = .ok (.if_icmp .ne 5, 3) := by decide +kernel
set_option maxRecDepth 20000 in
theorem dX2_nearestSavepoint_21 : decode cX2_nearestSavepoint 21 = .ok (.iload_n 2, 1) := by decide +kernel
set_option maxRecDepth 20000 in
theorem dX2_nearestSavepoint_22 : decode cX2_nearestSavepoint 22 = .ok (.ireturn, 1) := by decide +kernel
set_option maxRecDepth 20000 in
theorem dX2_nearestSavepoint_23 : decode cX2_nearestSavepoint 23 = .ok (.iinc 2 (-1), 3) := by decide +kernel
set_option maxRecDepth 20000 in
theorem dX2_nearestSavepoint_26 : decode cX2_nearestSavepoint 26 = .ok (.goto (-19), 3) := by decide +kernel
set_option maxRecDepth 20000 in
theorem dX2_nearestSavepoint_29 : decode cX2_nearestSavepoint 29 = .ok (.bipush (-5), 2) := by decide +kernel
set_option maxRecDepth 20000 in
theorem dX2_nearestSavepoint_31 : decode cX2_nearestSavepoint 31 = .ok (.ireturn, 1) := by decide +kernel
set_option maxRecDepth 20000 in
theorem dX2_lockMode_0 : decode cX2_lockMode 0 = .ok (.aload_n 0, 1) := by decide +kernel
set_option maxRecDepth 20000 in
theorem dX2_lockMode_1 : decode cX2_lockMode 1 = .ok (.getfield 34, 3) := by decide +kernel
set_option maxRecDepth 20000 in
theorem dX2_lockMode_4 : decode cX2_lockMode 4 = .ok (.iconst 2, 1) := by decide +kernel
set_option maxRecDepth 20000 in
theorem dX2_lockMode_5 : decode cX2_lockMode 5 = .ok (.iload_n 1, 1) := by decide +kernel
set_option maxRecDepth 20000 in
theorem dX2_lockMode_6 : decode cX2_lockMode 6 = .ok (.imul, 1) := by decide +kernel
set_option maxRecDepth 20000 in
theorem dX2_lockMode_7 : decode cX2_lockMode 7 = .ok (.iushr, 1) := by decide +kernel
set_option maxRecDepth 20000 in
theorem dX2_lockMode_8 : decode cX2_lockMode 8 = .ok (.iconst 3, 1) := by decide +kernel
set_option maxRecDepth 20000 in
theorem dX2_lockMode_9 : decode cX2_lockMode 9 = .ok (.iand, 1) := by decide +kernel
set_option maxRecDepth 20000 in
theorem dX2_lockMode_10 : decode cX2_lockMode 10 = .ok (.ireturn, 1) := by decide +kernel
set_option maxRecDepth 20000 in
theorem dX2_setLockMode_0 : decode cX2_setLockMode 0 = .ok (.iconst 2, 1) := by decide +kernel
set_option maxRecDepth 20000 in
theorem dX2_setLockMode_1 : decode cX2_setLockMode 1 = .ok (.iload_n 1, 1) := by decide +kernel
set_option maxRecDepth 20000 in
theorem dX2_setLockMode_2 : decode cX2_setLockMode 2 = .ok (.imul, 1) := by decide +kernel
set_option maxRecDepth 20000 in
theorem dX2_setLockMode_3 : decode cX2_setLockMode 3 = .ok (.istore_n 3, 1) := by decide +kernel
set_option maxRecDepth 20000 in
theorem dX2_setLockMode_4 : decode cX2_setLockMode 4 = .ok (.aload_n 0, 1) := by decide +kernel
set_option maxRecDepth 20000 in
theorem dX2_setLockMode_5 : decode cX2_setLockMode 5 = .ok (.aload_n 0, 1) := by decide +kernel
set_option maxRecDepth 20000 in
theorem dX2_setLockMode_6 : decode cX2_setLockMode 6 = .ok (.getfield 34, 3) := by decide +kernel
set_option maxRecDepth 20000 in
theorem dX2_setLockMode_9 : decode cX2_setLockMode 9 = .ok (.iconst 3, 1) := by decide +kernel
set_option maxRecDepth 20000 in
theorem dX2_setLockMode_10 : decode cX2_setLockMode 10 = .ok (.iload_n 3, 1) := by decide +kernel
set_option maxRecDepth 20000 in
theorem dX2_setLockMode_11 : decode cX2_setLockMode 11 = .ok (.ishl, 1) := by decide +kernel
set_option maxRecDepth 20000 in
theorem dX2_setLockMode_12 : decode cX2_setLockMode 12 = .ok (.iconst (-1), 1) := by decide +kernel
set_option maxRecDepth 20000 in
theorem dX2_setLockMode_13 : decode cX2_setLockMode 13 = .ok (.ixor, 1) := by decide +kernel
set_option maxRecDepth 20000 in
theorem dX2_setLockMode_14 : decode cX2_setLockMode 14 = .ok (.iand, 1) := by decide +kernel
set_option maxRecDepth 20000 in
theorem dX2_setLockMode_15 : decode cX2_setLockMode 15 = .ok (.iload_n 2, 1) := by decide +kernel
set_option maxRecDepth 20000 in
theorem dX2_setLockMode_16 : decode cX2_setLockMode 16 = .ok (.iload_n 3, 1) := by decide +kernel
set_option maxRecDepth 20000 in
theorem dX2_setLockMode_17 : decode cX2_setLockMode 17 = .ok (.ishl, 1) := by decide +kernel
set_option maxRecDepth 20000 in
theorem dX2_setLockMode_18 : decode cX2_setLockMode 18 = .ok (.ior, 1) := by decide +kernel
set_option maxRecDepth 20000 in
theorem dX2_setLockMode_19 : decode cX2_setLockMode 19 = .ok (.putfield 34, 3) := by decide +kernel
set_option maxRecDepth 20000 in
theorem dX2_setLockMode_22 : decode cX2_setLockMode 22 = .ok (.return_, 1) := by decide +kernel
set_option maxRecDepth 20000 in
theorem dX2_lockCount_0 : decode cX2_lockCount 0 = .ok (.iconst 0, 1) := by decide +kernel
set_option maxRecDepth 20000 in
theorem dX2_lockCount_1 : decode cX2_lockCount 1 = .ok (.istore_n 2, 1) := by decide +kernel
set_option maxRecDepth 20000 in
theorem dX2_lockCount_2 : decode cX2_lockCount 2 = .ok (.iconst 0, 1) := by decide +kernel
set_option maxRecDepth 20000 in
theorem dX2_lockCount_3 : decode cX2_lockCount 3 = .ok (.istore_n 3, 1) := by decide +kernel
set_option maxRecDepth 20000 in
theorem dX2_lockCount_4 : decode cX2_lockCount 4 = .ok (.iload_n 3, 1) := by decide +kernel
set_option maxRecDepth 20000 in
theorem dX2_lockCount_5 : decode cX2_lockCount 5 = .ok (.bipush 16, 2) := by decide +kernel
set_option maxRecDepth 20000 in
theorem dX2_lockCount_7 : decode cX2_lockCount 7 = .ok (.if_icmp .ge 21, 3) := by decide +kernel
set_option maxRecDepth 20000 in
theorem dX2_lockCount_10 : decode cX2_lockCount 10 = .ok (.aload_n 0, 1) := by decide +kernel
set_option maxRecDepth 20000 in
theorem dX2_lockCount_11 : decode cX2_lockCount 11 = .ok (.iload_n 3, 1) := by decide +kernel
set_option maxRecDepth 20000 in
theorem dX2_lockCount_12 : decode cX2_lockCount 12 = .ok (.invokevirtual 41, 3) := by decide +kernel
set_option maxRecDepth 20000 in
theorem dX2_lockCount_15 : decode cX2_lockCount 15 = .ok (.iload_n 1, 1) := by decide +kernel
set_option maxRecDepth 20000 in
theorem dX2_lockCount_16 : decode cX2_lockCount 16 = .ok (.if_icmp .ne 6, 3) := by decide +kernel
set_option maxRecDepth 20000 in
theorem dX2_lockCount_19 : decode cX2_lockCount 19 = .ok (.iinc 2 1, 3) := by decide +kernel
set_option maxRecDepth 20000 in
theorem dX2_lockCount_22 : decode cX2_lockCount 22 = .ok (.iinc 3 1, 3) := by decide +kernel
set_option maxRecDepth 20000 in
theorem dX2_lockCount_25 : decode cX2_lockCount 25 = .ok (.goto (-21), 3) := by decide +kernel
set_option maxRecDepth 20000 in
theorem dX2_lockCount_28 : decode cX2_lockCount 28 = .ok (.iload_n 2, 1) := by decide +kernel
set_option maxRecDepth 20000 in
theorem dX2_lockCount_29 : decode cX2_lockCount 29 = .ok (.ireturn, 1) := by decide +kernel
set_option maxRecDepth 20000 in
theorem dX2_locksChangedSince_0 : decode cX2_locksChangedSince 0 = .ok (.iload_n 1, 1) := by decide +kernel
set_option maxRecDepth 20000 in
theorem dX2_locksChangedSince_1 : decode cX2_locksChangedSince 1 = .ok (.ifCond .lt 11, 3) := by decide +kernel
set_option maxRecDepth 20000 in
theorem dX2_locksChangedSince_4 : decode cX2_locksChangedSince 4 = .ok (.iload_n 1, 1) := by decide +kernel
set_option maxRecDepth 20000 in
theorem dX2_locksChangedSince_5 : decode cX2_locksChangedSince 5 = .ok (.aload_n 0, 1) := by decide +kernel
set_option maxRecDepth 20000 in
theorem dX2_locksChangedSince_6 : decode cX2_locksChangedSince 6 = .ok (.getfield 24, 3) := by decide +kernel
set_option maxRecDepth 20000 in
theorem dX2_locksChangedSince_9 : decode cX2_locksChangedSince 9 = .ok (.if_icmp .lt 5, 3) := by decide +kernel
set_option maxRecDepth 20000 in
theorem dX2_locksChangedSince_12 : decode cX2_locksChangedSince 12 = .ok (.iconst 0, 1) := by decide +kernel
set_option maxRecDepth 20000 in
theorem dX2_locksChangedSince_13 : decode cX2_locksChangedSince 13 = .ok (.ireturn, 1) := by decide +kernel
set_option maxRecDepth 20000 in
theorem dX2_locksChangedSince_14 : decode cX2_locksChangedSince 14 = .ok (.aload_n 0, 1) := by decide +kernel
set_option maxRecDepth 20000 in
theorem dX2_locksChangedSince_15 : decode cX2_locksChangedSince 15 = .ok (.getfield 9, 3) := by decide +kernel
set_option maxRecDepth 20000 in
theorem dX2_locksChangedSince_18 : decode cX2_locksChangedSince 18 = .ok (.iload_n 1, 1) := by decide +kernel
set_option maxRecDepth 20000 in
theorem dX2_locksChangedSince_19 : decode cX2_locksChangedSince 19 = .ok (.iaload, 1) := by decide +kernel
set_option maxRecDepth 20000 in
theorem dX2_locksChangedSince_20 : decode cX2_locksChangedSince 20 = .ok (.aload_n 0, 1) := by decide +kernel
set_option maxRecDepth 20000 in
theorem dX2_locksChangedSince_21 : decode cX2_locksChangedSince 21 = .ok (.getfield 34, 3) := by decide +kernel
set_option maxRecDepth 20000 in
theorem dX2_locksChangedSince_24 : decode cX2_locksChangedSince 24 = .ok (.ixor, 1) := by decide +kernel
set_option maxRecDepth 20000 in
theorem dX2_locksChangedSince_25 : decode cX2_locksChangedSince 25 = .ok (.istore_n 2, 1) := by decide +kernel
set_option maxRecDepth 20000 in
theorem dX2_locksChangedSince_26 : decode cX2_locksChangedSince 26 = .ok (.iconst 0, 1) := by decide +kernel
set_option maxRecDepth 20000 in
theorem dX2_locksChangedSince_27 : decode cX2_locksChangedSince 27 = .ok (.istore_n 3, 1) := by decide +kernel
set_option maxRecDepth 20000 in
theorem dX2_locksChangedSince_28 : decode cX2_locksChangedSince 28 = .ok (.iconst 0, 1) := by decide +kernel
set_option maxRecDepth 20000 in
theorem dX2_locksChangedSince_29 : decode cX2_locksChangedSince 29 = .ok (.istore 4, 2) := by decide +kernel
set_option maxRecDepth 20000 in
theorem dX2_locksChangedSince_31 : decode cX2_locksChangedSince 31 = .ok (.iload 4, 2) := by decide +kernel
set_option maxRecDepth 20000 in
theorem dX2_locksChangedSince_33 : decode cX2_locksChangedSince 33 = .ok (.bipush 16, 2) := by decide +kernel
set_option maxRecDepth 20000 in
theorem dX2_locksChangedSince_35 : decode cX2_locksChangedSince 35 = .ok (.if_icmp .ge 27, 3) := by decide +kernel
set_option maxRecDepth 20000 in
theorem dX2_locksChangedSince_38 : decode cX2_locksChangedSince 38 = .ok (.iload_n 2, 1) := by decide +kernel
set_option maxRecDepth 20000 in
theorem dX2_locksChangedSince_39 : decode cX2_locksChangedSince 39 = .ok (.iconst 2, 1) := by decide +kernel
set_option maxRecDepth 20000 in
theorem dX2_locksChangedSince_40 : decode cX2_locksChangedSince 40 = .ok (.iload 4, 2) := by decide +kernel
set_option maxRecDepth 20000 in
theorem dX2_locksChangedSince_42 : decode cX2_locksChangedSince 42 = .ok (.imul, 1) := by decide +kernel
set_option maxRecDepth 20000 in
theorem dX2_locksChangedSince_43 : decode cX2_locksChangedSince 43 = .ok (.iushr, 1) := by decide +kernel
set_option maxRecDepth 20000 in
theorem dX2_locksChangedSince_44 : decode cX2_locksChangedSince 44 = .ok (.iconst 3, 1) := by decide +kernel
set_option maxRecDepth 20000 in
theorem dX2_locksChangedSince_45 : decode cX2_locksChangedSince 45 = .ok (.iand, 1) := by decide +kernel
set_option maxRecDepth 20000 in
theorem dX2_locksChangedSince_46 : decode cX2_locksChangedSince 46 = .ok (.ifCond .eq 10, 3) := by decide +kernel
set_option maxRecDepth 20000 in
theorem dX2_locksChangedSince_49 : decode cX2_locksChangedSince 49 = .ok (.iload_n 3, 1) := by decide +kernel
set_option maxRecDepth 20000 in
theorem dX2_locksChangedSince_50 : decode cX2_locksChangedSince 50 = .ok (.iconst 1, 1) := by decide +kernel
set_option maxRecDepth 20000 in
theorem dX2_locksChangedSince_51 : decode cX2_locksChangedSince 51 = .ok (.iload 4, 2) := by decide +kernel
set_option maxRecDepth 20000 in
theorem dX2_locksChangedSince_53 : decode cX2_locksChangedSince 53 = .ok (.ishl, 1) := by decide +kernel
set_option maxRecDepth 20000 in
theorem dX2_locksChangedSince_54 : decode cX2_locksChangedSince 54 = .ok (.ior, 1) := by decide +kernel
set_option maxRecDepth 20000 in
theorem dX2_locksChangedSince_55 : decode cX2_locksChangedSince 55 = .ok (.istore_n 3, 1) := by decide +kernel
set_option maxRecDepth 20000 in
theorem dX2_locksChangedSince_56 : decode cX2_locksChangedSince 56 = .ok (.iinc 4 1, 3) := by decide +kernel
set_option maxRecDepth 20000 in
theorem dX2_locksChangedSince_59 : decode cX2_locksChangedSince 59 = .ok (.goto (-28), 3) := by decide +kernel
set_option maxRecDepth 20000 in
theorem dX2_locksChangedSince_62 : decode cX2_locksChangedSince 62 = .ok (.iload_n 3, 1) := by decide +kernel
set_option maxRecDepth 20000 in
theorem dX2_locksChangedSince_63 : decode cX2_locksChangedSince 63 = .ok (.ireturn, 1) := by decide +kernel
set_option maxRecDepth 20000 in
theorem dX2_undoLocks_0 : decode cX2_undoLocks 0 = .ok (.iload_n 1, 1) := by decide +kernel
set_option maxRecDepth 20000 in
theorem dX2_undoLocks_1 : decode cX2_undoLocks 1 = .ok (.ifCond .lt 21, 3) := by decide +kernel
set_option maxRecDepth 20000 in
theorem dX2_undoLocks_4 : decode cX2_undoLocks 4 = .ok (.iload_n 1, 1) := by decide +kernel
set_option maxRecDepth 20000 in
theorem dX2_undoLocks_5 : decode cX2_undoLocks 5 = .ok (.aload_n 0, 1) := by decide +kernel
set_option maxRecDepth 20000 in
theorem dX2_undoLocks_6 : decode cX2_undoLocks 6 = .ok (.getfield 24, 3) := by decide +kernel
set_option maxRecDepth 20000 in
theorem dX2_undoLocks_9 : decode cX2_undoLocks 9 = .ok (.if_icmp .ge 13, 3) := by decide +kernel
set_option maxRecDepth 20000 in
theorem dX2_undoLocks_12 : decode cX2_undoLocks 12 = .ok (.aload_n 0, 1) := by decide +kernel
set_option maxRecDepth 20000 in
theorem dX2_undoLocks_13 : decode cX2_undoLocks 13 = .ok (.aload_n 0, 1) := by decide +kernel
set_option maxRecDepth 20000 in
theorem dX2_undoLocks_14 : decode cX2_undoLocks 14 = .ok (.getfield 9, 3) := by decide +kernel
set_option maxRecDepth 20000 in
theorem dX2_undoLocks_17 : decode cX2_undoLocks 17 = .ok (.iload_n 1, 1) := by decide +kernel
set_option maxRecDepth 20000 in
theorem dX2_undoLocks_18 : decode cX2_undoLocks 18 = .ok (.iaload, 1) := by decide +kernel
set_option maxRecDepth 20000 in
theorem dX2_undoLocks_19 : decode cX2_undoLocks 19 = .ok (.putfield 34, 3) := by decide +kernel
set_option maxRecDepth 20000 in
theorem dX2_undoLocks_22 : decode cX2_undoLocks 22 = .ok (.return_, 1) := by decide +kernel
set_option maxRecDepth 20000 in
theorem dX2_noteChange_0 : decode cX2_noteChange 0 = .ok (.aload_n 0, 1) := by decide +kernel
set_option maxRecDepth 20000 in
theorem dX2_noteChange_1 : decode cX2_noteChange 1 = .ok (.getfield 24, 3) := by decide +kernel
set_option maxRecDepth 20000 in
theorem dX2_noteChange_4 : decode cX2_noteChange 4 = .ok (.iconst 1, 1) := by decide +kernel
set_option maxRecDepth 20000 in
theorem dX2_noteChange_5 : decode cX2_noteChange 5 = .ok (.isub, 1) := by decide +kernel
set_option maxRecDepth 20000 in
theorem dX2_noteChange_6 : decode cX2_noteChange 6 = .ok (.istore_n 3, 1) := by decide +kernel
set_option maxRecDepth 20000 in
theorem dX2_noteChange_7 : decode cX2_noteChange 7 = .ok (.iload_n 3, 1) := by decide +kernel
set_option maxRecDepth 20000 in
theorem dX2_noteChange_8 : decode cX2_noteChange 8 = .ok (.ifCond .lt 10, 3) := by decide +kernel
set_option maxRecDepth 20000 in
theorem dX2_noteChange_11 : decode cX2_noteChange 11 = .ok (.aload_n 0, 1) := by decide +kernel
set_option maxRecDepth 20000 in
theorem dX2_noteChange_12 : decode cX2_noteChange 12 = .ok (.iload_n 3, 1) := by decide +kernel
set_option maxRecDepth 20000 in
theorem dX2_noteChange_13 : decode cX2_noteChange 13 = .ok (.iload_n 1, 1) := by decide +kernel
set_option maxRecDepth 20000 in
theorem dX2_noteChange_14 : decode cX2_noteChange 14 = .ok (.iload_n 2, 1) := by decide +kernel
set_option maxRecDepth 20000 in
theorem dX2_noteChange_15 : decode cX2_noteChange 15 = .ok (.invokevirtual 45, 3) := by decide +kernel
set_option maxRecDepth 20000 in
theorem dX2_noteChange_18 : decode cX2_noteChange 18 = .ok (.return_, 1) := by decide +kernel
set_option maxRecDepth 20000 in
theorem dX2_noteChangeAt_0 : decode cX2_noteChangeAt 0 = .ok (.iconst 1, 1) := by decide +kernel
set_option maxRecDepth 20000 in
theorem dX2_noteChangeAt_1 : decode cX2_noteChangeAt 1 = .ok (.iload_n 2, 1) := by decide +kernel
set_option maxRecDepth 20000 in
theorem dX2_noteChangeAt_2 : decode cX2_noteChangeAt 2 = .ok (.ishl, 1) := by decide +kernel
set_option maxRecDepth 20000 in
theorem dX2_noteChangeAt_3 : decode cX2_noteChangeAt 3 = .ok (.istore 4, 2) := by decide +kernel
set_option maxRecDepth 20000 in
theorem dX2_noteChangeAt_5 : decode cX2_noteChangeAt 5 = .ok (.aload_n 0, 1) := by decide +kernel
set_option maxRecDepth 20000 in
theorem dX2_noteChangeAt_6 : decode cX2_noteChangeAt 6 = .ok (.getfield 18, 3) := by decide +kernel
set_option maxRecDepth 20000 in
theorem dX2_noteChangeAt_9 : decode cX2_noteChangeAt 9 = .ok (.iload_n 1, 1) := by decide +kernel
set_option maxRecDepth 20000 in
theorem dX2_noteChangeAt_10 : decode cX2_noteChangeAt 10 = .ok (.iaload, 1) := by decide +kernel
set_option maxRecDepth 20000 in
theorem dX2_noteChangeAt_11 : decode cX2_noteChangeAt 11 = .ok (.iload 4, 2) := by decide +kernel
set_option maxRecDepth 20000 in
theorem dX2_noteChangeAt_13 : decode cX2_noteChangeAt 13 = .ok (.iand, 1) := by decide +kernel
set_option maxRecDepth 20000 in
theorem dX2_noteChangeAt_14 : decode cX2_noteChangeAt 14 = .ok (.ifCond .ne 26, 3) := by decide +kernel
set_option maxRecDepth 20000 in
theorem dX2_noteChangeAt_17 : decode cX2_noteChangeAt 17 = .ok (.aload_n 0, 1) := by decide +kernel
set_option maxRecDepth 20000 in
theorem dX2_noteChangeAt_18 : decode cX2_noteChangeAt 18 = .ok (.getfield 18, 3) := by decide +kernel
set_option maxRecDepth 20000 in
theorem dX2_noteChangeAt_21 : decode cX2_noteChangeAt 21 = .ok (.iload_n 1, 1) := by decide +kernel
set_option maxRecDepth 20000 in
theorem dX2_noteChangeAt_22 : decode cX2_noteChangeAt 22 = .ok (.dup2, 1) := by decide +kernel
set_option maxRecDepth 20000 in
theorem dX2_noteChangeAt_23 : decode cX2_noteChangeAt 23 = .ok (.iaload, 1) := by decide +kernel
set_option maxRecDepth 20000 in
theorem dX2_noteChangeAt_24 : decode cX2_noteChangeAt 24 = .ok (.iload 4, 2) := by decide +kernel
set_option maxRecDepth 20000 in
theorem dX2_noteChangeAt_26 : decode cX2_noteChangeAt 26 = .ok (.ior, 1) := by decide +kernel
set_option maxRecDepth 20000 in
theorem dX2_noteChangeAt_27 : decode cX2_noteChangeAt 27 = .ok (.iastore, 1) := by decide +kernel
set_option maxRecDepth 20000 in
theorem dX2_noteChangeAt_28 : decode cX2_noteChangeAt 28 = .ok (.aload_n 0, 1) := by decide +kernel
set_option maxRecDepth 20000 in
theorem dX2_noteChangeAt_29 : decode cX2_noteChangeAt 29 = .ok (.getfield 21, 3) := by decide +kernel
set_option maxRecDepth 20000 in
theorem dX2_noteChangeAt_32 : decode cX2_noteChangeAt 32 = .ok (.iload_n 1, 1) := by decide +kernel
set_option maxRecDepth 20000 in
theorem dX2_noteChangeAt_33 : decode cX2_noteChangeAt 33 = .ok (.bipush 16, 2) := by decide +kernel
set_option maxRecDepth 20000 in
theorem dX2_noteChangeAt_35 : decode cX2_noteChangeAt 35 = .ok (.imul, 1) := by decide +kernel
set_option maxRecDepth 20000 in
theorem dX2_noteChangeAt_36 : decode cX2_noteChangeAt 36 = .ok (.iload_n 2, 1) := by decide +kernel
set_option maxRecDepth 20000 in
theorem dX2_noteChangeAt_37 : decode cX2_noteChangeAt 37 = .ok (.iadd, 1) := by decide +kernel
set_option maxRecDepth 20000 in
theorem dX2_noteChangeAt_38 : decode cX2_noteChangeAt 38 = .ok (.iload_n 3, 1) := by decide +kernel
set_option maxRecDepth 20000 in
theorem dX2_noteChangeAt_39 : decode cX2_noteChangeAt 39 = .ok (.iastore, 1) := by decide +kernel
set_option maxRecDepth 20000 in
theorem dX2_noteChangeAt_40 : decode cX2_noteChangeAt 40 = .ok (.return_, 1) := by decide +kernel
set_option maxRecDepth 20000 in
theorem dX2_keysChangedSince_0 : decode cX2_keysChangedSince 0 = .ok (.iconst 0, 1) := by decide +kernel
set_option maxRecDepth 20000 in
theorem dX2_keysChangedSince_1 : decode cX2_keysChangedSince 1 = .ok (.istore_n 2, 1) := by decide +kernel
set_option maxRecDepth 20000 in
theorem dX2_keysChangedSince_2 : decode cX2_keysChangedSince 2 = .ok (.iload_n 1, 1) := by decide +kernel
set_option maxRecDepth 20000 in
theorem dX2_keysChangedSince_3 : decode cX2_keysChangedSince 3 = .ok (.iconst 0, 1) := by decide +kernel
set_option maxRecDepth 20000 in
theorem dX2_keysChangedSince_4 : decode cX2_keysChangedSince 4 = .ok (.invokestatic 28, 3) := by decide +kernel
set_option maxRecDepth 20000 in
theorem dX2_keysChangedSince_7 : decode cX2_keysChangedSince 7 = .ok (.istore_n 3, 1) := by decide +kernel
set_option maxRecDepth 20000 in
theorem dX2_keysChangedSince_8 : decode cX2_keysChangedSince 8 = .ok (.iload_n 3, 1) := by decide +kernel
set_option maxRecDepth 20000 in
theorem dX2_keysChangedSince_9 : decode cX2_keysChangedSince 9 = .ok (.aload_n 0, 1) := by decide +kernel
set_option maxRecDepth 20000 in
theorem dX2_keysChangedSince_10 : decode cX2_keysChangedSince 10 = .ok (.getfield 24, 3) := by decide +kernel
set_option maxRecDepth 20000 in
theorem dX2_keysChangedSince_13 : decode cX2_keysChangedSince 13 = .ok (.if_icmp .ge 18, 3) := by decide +kernel
set_option maxRecDepth 20000 in
theorem dX2_keysChangedSince_16 : decode cX2_keysChangedSince 16 = .ok (.iload_n 2, 1) := by decide +kernel
set_option maxRecDepth 20000 in
theorem dX2_keysChangedSince_17 : decode cX2_keysChangedSince 17 = .ok (.aload_n 0, 1) := by decide +kernel
set_option maxRecDepth 20000 in
theorem dX2_keysChangedSince_18 : decode cX2_keysChangedSince 18 = .ok (.getfield 18, 3) := by decide +kernel
set_option maxRecDepth 20000 in
theorem dX2_keysChangedSince_21 : decode cX2_keysChangedSince 21 = .ok (.iload_n 3, 1) := by decide +kernel
set_option maxRecDepth 20000 in
theorem dX2_keysChangedSince_22 : decode cX2_keysChangedSince 22 = .ok (.iaload, 1) := by decide +kernel
set_option maxRecDepth 20000 in
theorem dX2_keysChangedSince_23 : decode cX2_keysChangedSince 23 = .ok (.ior, 1) := by decide +kernel
set_option maxRecDepth 20000 in
theorem dX2_keysChangedSince_24 : decode cX2_keysChangedSince 24 = .ok (.istore_n 2, 1) := by decide +kernel
set_option maxRecDepth 20000 in
theorem dX2_keysChangedSince_25 : decode cX2_keysChangedSince 25 = .ok (.iinc 3 1, 3) := by decide +kernel
set_option maxRecDepth 20000 in
theorem dX2_keysChangedSince_28 : decode cX2_keysChangedSince 28 = .ok (.goto (-20), 3) := by decide +kernel
set_option maxRecDepth 20000 in
theorem dX2_keysChangedSince_31 : decode cX2_keysChangedSince 31 = .ok (.iload_n 2, 1) := by decide +kernel
set_option maxRecDepth 20000 in
theorem dX2_keysChangedSince_32 : decode cX2_keysChangedSince 32 = .ok (.ireturn, 1) := by decide +kernel
set_option maxRecDepth 20000 in
theorem dX2_valueAt_0 : decode cX2_valueAt 0 = .ok (.iload_n 1, 1) := by decide +kernel
set_option maxRecDepth 20000 in
theorem dX2_valueAt_1 : decode cX2_valueAt 1 = .ok (.iconst 0, 1) := by decide +kernel
set_option maxRecDepth 20000 in
theorem dX2_valueAt_2 : decode cX2_valueAt 2 = .ok (.invokestatic 28, 3) := by decide +kernel
set_option maxRecDepth 20000 in
theorem dX2_valueAt_5 : decode cX2_valueAt 5 = .ok (.istore 4, 2) := by decide +kernel
set_option maxRecDepth 20000 in
theorem dX2_valueAt_7 : decode cX2_valueAt 7 = .ok (.iload 4, 2) := by decide +kernel
set_option maxRecDepth 20000 in
theorem dX2_valueAt_9 : decode cX2_valueAt 9 = .ok (.aload_n 0, 1) := by decide +kernel
set_option maxRecDepth 20000 in
theorem dX2_valueAt_10 : decode cX2_valueAt 10 = .ok (.getfield 24, 3) := by decide +kernel
set_option maxRecDepth 20000 in
theorem dX2_valueAt_13 : decode cX2_valueAt 13 = .ok (.if_icmp .ge 36, 3) := by decide +kernel
set_option maxRecDepth 20000 in
theorem dX2_valueAt_16 : decode cX2_valueAt 16 = .ok (.aload_n 0, 1) := by decide +kernel
set_option maxRecDepth 20000 in
theorem dX2_valueAt_17 : decode cX2_valueAt 17 = .ok (.getfield 18, 3) := by decide +kernel
set_option maxRecDepth 20000 in
theorem dX2_valueAt_20 : decode cX2_valueAt 20 = .ok (.iload 4, 2) := by decide +kernel
set_option maxRecDepth 20000 in
theorem dX2_valueAt_22 : decode cX2_valueAt 22 = .ok (.iaload, 1) := by decide +kernel
set_option maxRecDepth 20000 in
theorem dX2_valueAt_23 : decode cX2_valueAt 23 = .ok (.iload_n 2, 1) := by decide +kernel
set_option maxRecDepth 20000 in
theorem dX2_valueAt_24 : decode cX2_valueAt 24 = .ok (.ishr, 1) := by decide +kernel
set_option maxRecDepth 20000 in
theorem dX2_valueAt_25 : decode cX2_valueAt 25 = .ok (.iconst 1, 1) := by decide +kernel
set_option maxRecDepth 20000 in
theorem dX2_valueAt_26 : decode cX2_valueAt 26 = .ok (.iand, 1) := by decide +kernel
set_option maxRecDepth 20000 in
theorem dX2_valueAt_27 : decode cX2_valueAt 27 = .ok (.ifCond .eq 16, 3) := by decide +kernel
set_option maxRecDepth 20000 in
theorem dX2_valueAt_30 : decode cX2_valueAt 30 = .ok (.aload_n 0, 1) := by decide +kernel
set_option maxRecDepth 20000 in
theorem dX2_valueAt_31 : decode cX2_valueAt 31 = .ok (.getfield 21, 3) := by decide +kernel
set_option maxRecDepth 20000 in
theorem dX2_valueAt_34 : decode cX2_valueAt 34 = .ok (.iload 4, 2) := by decide +kernel
set_option maxRecDepth 20000 in
theorem dX2_valueAt_36 : decode cX2_valueAt 36 = .ok (.bipush 16, 2) := by decide +kernel
set_option maxRecDepth 20000 in
theorem dX2_valueAt_38 : decode cX2_valueAt 38 = .ok (.imul, 1) := by decide +kernel
set_option maxRecDepth 20000 in
theorem dX2_valueAt_39 : decode cX2_valueAt 39 = .ok (.iload_n 2, 1) := by decide +kernel
set_option maxRecDepth 20000 in
theorem dX2_valueAt_40 : decode cX2_valueAt 40 = .ok (.iadd, 1) := by decide +kernel
set_option maxRecDepth 20000 in
theorem dX2_valueAt_41 : decode cX2_valueAt 41 = .ok (.iaload, 1) := by decide +kernel
set_option maxRecDepth 20000 in
theorem dX2_valueAt_42 : decode cX2_valueAt 42 = .ok (.ireturn, 1) := by decide +kernel
set_option maxRecDepth 20000 in
theorem dX2_valueAt_43 : decode cX2_valueAt 43 = .ok (.iinc 4 1, 3) := by decide +kernel
set_option maxRecDepth 20000 in
theorem dX2_valueAt_46 : decode cX2_valueAt 46 = .ok (.goto (-39), 3) := by decide +kernel
set_option maxRecDepth 20000 in
theorem dX2_valueAt_49 : decode cX2_valueAt 49 = .ok (.iload_n 3, 1) := by decide +kernel
set_option maxRecDepth 20000 in
theorem dX2_valueAt_50 : decode cX2_valueAt 50 = .ok (.ireturn, 1) := by decide +kernel
set_option maxRecDepth 20000 in
theorem dX2_forgetChangesSince_0 : decode cX2_forgetChangesSince 0 = .ok (.iload_n 1, 1) := by decide +kernel
set_option maxRecDepth 20000 in
theorem dX2_forgetChangesSince_1 : decode cX2_forgetChangesSince 1 = .ok (.iconst 0, 1) := by decide +kernel
set_option maxRecDepth 20000 in
theorem dX2_forgetChangesSince_2 : decode cX2_forgetChangesSince 2 = .ok (.invokestatic 28, 3) := by decide +kernel
set_option maxRecDepth 20000 in
theorem dX2_forgetChangesSince_5 : decode cX2_forgetChangesSince 5 = .ok (.istore_n 2, 1) := by decide +kernel
set_option maxRecDepth 20000 in
theorem dX2_forgetChangesSince_6 : decode cX2_forgetChangesSince 6 = .ok (.iload_n 2, 1) := by decide +kernel
set_option maxRecDepth 20000 in
theorem dX2_forgetChangesSince_7 : decode cX2_forgetChangesSince 7 = .ok (.aload_n 0, 1) := by decide +kernel
set_option maxRecDepth 20000 in
theorem dX2_forgetChangesSince_8 : decode cX2_forgetChangesSince 8 = .ok (.getfield 24, 3) := by decide +kernel
set_option maxRecDepth 20000 in
theorem dX2_forgetChangesSince_11 : decode cX2_forgetChangesSince 11 = .ok (.if_icmp .ge 16, 3) := by decide +kernel
set_option maxRecDepth 20000 in
theorem dX2_forgetChangesSince_14 : decode cX2_forgetChangesSince 14 = .ok (.aload_n 0, 1) := by decide +kernel
set_option maxRecDepth 20000 in
theorem dX2_forgetChangesSince_15 : decode cX2_forgetChangesSince 15 = .ok (.getfield 18, 3) := by decide +kernel
set_option maxRecDepth 20000 in
theorem dX2_forgetChangesSince_18 : decode cX2_forgetChangesSince 18 = .ok (.iload_n 2, 1) := by decide +kernel
set_option maxRecDepth 20000 in
theorem dX2_forgetChangesSince_19 : decode cX2_forgetChangesSince 19 = .ok (.iconst 0, 1) := by decide +kernel
set_option maxRecDepth 20000 in
theorem dX2_forgetChangesSince_20 : decode cX2_forgetChangesSince 20 = .ok (.iastore, 1) := by decide +kernel
set_option maxRecDepth 20000 in
theorem dX2_forgetChangesSince_21 : decode cX2_forgetChangesSince 21 = .ok (.iinc 2 1, 3) := by decide +kernel
set_option maxRecDepth 20000 in
theorem dX2_forgetChangesSince_24 : decode cX2_forgetChangesSince 24 = .ok (.goto (-18), 3) := by decide +kernel
set_option maxRecDepth 20000 in
theorem dX2_forgetChangesSince_27 : decode cX2_forgetChangesSince 27 = .ok (.return_, 1) := by decide +kernel
set_option maxRecDepth 20000 in
theorem dX2_dropMomentsAfter_0 : decode cX2_dropMomentsAfter 0 = .ok (.iload_n 1, 1) := by decide +kernel
set_option maxRecDepth 20000 in
theorem dX2_dropMomentsAfter_1 : decode cX2_dropMomentsAfter 1 = .ok (.ifCond .ge 4, 3) := by decide +kernel
set_option maxRecDepth 20000 in
theorem dX2_dropMomentsAfter_4 : decode cX2_dropMomentsAfter 4 = .ok (.return_, 1) := by decide +kernel
set_option maxRecDepth 20000 in
theorem dX2_dropMomentsAfter_5 : decode cX2_dropMomentsAfter 5 = .ok (.iload_n 1, 1) := by decide +kernel
set_option maxRecDepth 20000 in
theorem dX2_dropMomentsAfter_6 : decode cX2_dropMomentsAfter 6 = .ok (.iconst 1, 1) := by decide +kernel
set_option maxRecDepth 20000 in
theorem dX2_dropMomentsAfter_7 : decode cX2_dropMomentsAfter 7 = .ok (.iadd, 1) := by decide +kernel
set_option maxRecDepth 20000 in
theorem dX2_dropMomentsAfter_8 : decode cX2_dropMomentsAfter 8 = .ok (.istore_n 2, 1) := by decide +kernel
set_option maxRecDepth 20000 in
theorem dX2_dropMomentsAfter_9 : decode cX2_dropMomentsAfter 9 = .ok (.iload_n 2, 1) := by decide +kernel
set_option maxRecDepth 20000 in
theorem dX2_dropMomentsAfter_10 : decode cX2_dropMomentsAfter 10 = .ok (.aload_n 0, 1) := by decide +kernel
set_option maxRecDepth 20000 in
theorem dX2_dropMomentsAfter_11 : decode cX2_dropMomentsAfter 11 = .ok (.getfield 24, 3) := by decide +kernel
set_option maxRecDepth 20000 in
theorem dX2_dropMomentsAfter_14 : decode cX2_dropMomentsAfter 14 = .ok (.if_icmp .ge 53, 3) := by decide +kernel
set_option maxRecDepth 20000 in
theorem dX2_dropMomentsAfter_17 : decode cX2_dropMomentsAfter 17 = .ok (.iconst 0, 1) := by decide +kernel
set_option maxRecDepth 20000 in
theorem dX2_dropMomentsAfter_18 : decode cX2_dropMomentsAfter 18 = .ok (.istore_n 3, 1) := by decide +kernel
set_option maxRecDepth 20000 in
theorem dX2_dropMomentsAfter_19 : decode cX2_dropMomentsAfter 19 = .ok (.iload_n 3, 1) := by decide +kernel
set_option maxRecDepth 20000 in
theorem dX2_dropMomentsAfter_20 : decode cX2_dropMomentsAfter 20 = .ok (.bipush 16, 2) := by decide +kernel
set_option maxRecDepth 20000 in
theorem dX2_dropMomentsAfter_22 : decode cX2_dropMomentsAfter 22 = .ok (.if_icmp .ge 39, 3) := by decide +kernel
set_option maxRecDepth 20000 in
theorem dX2_dropMomentsAfter_25 : decode cX2_dropMomentsAfter 25 = .ok (.aload_n 0, 1) := by decide +kernel
set_option maxRecDepth 20000 in
theorem dX2_dropMomentsAfter_26 : decode cX2_dropMomentsAfter 26 = .ok (.getfield 18, 3) := by decide +kernel
set_option maxRecDepth 20000 in
theorem dX2_dropMomentsAfter_29 : decode cX2_dropMomentsAfter 29 = .ok (.iload_n 2, 1) := by decide +kernel
set_option maxRecDepth 20000 in
theorem dX2_dropMomentsAfter_30 : decode cX2_dropMomentsAfter 30 = .ok (.iaload, 1) := by decide +kernel
set_option maxRecDepth 20000 in
theorem dX2_dropMomentsAfter_31 : decode cX2_dropMomentsAfter 31 = .ok (.iload_n 3, 1) := by decide +kernel
set_option maxRecDepth 20000 in
theorem dX2_dropMomentsAfter_32 : decode cX2_dropMomentsAfter 32 = .ok (.ishr, 1) := by decide +kernel
set_option maxRecDepth 20000 in
theorem dX2_dropMomentsAfter_33 : decode cX2_dropMomentsAfter 33 = .ok (.iconst 1, 1) := by decide +kernel
set_option maxRecDepth 20000 in
theorem dX2_dropMomentsAfter_34 : decode cX2_dropMomentsAfter 34 = .ok (.iand, 1) := by decide +kernel
set_option maxRecDepth 20000 in
theorem dX2_dropMomentsAfter_35 : decode cX2_dropMomentsAfter 35 = .ok (.ifCond .eq 20, 3) := by decide +kernel
set_option maxRecDepth 20000 in
theorem dX2_dropMomentsAfter_38 : decode cX2_dropMomentsAfter 38 = .ok (.aload_n 0, 1) := by decide +kernel
set_option maxRecDepth 20000 in
theorem dX2_dropMomentsAfter_39 : decode cX2_dropMomentsAfter 39 = .ok (.iload_n 1, 1) := by decide +kernel
set_option maxRecDepth 20000 in
theorem dX2_dropMomentsAfter_40 : decode cX2_dropMomentsAfter 40 = .ok (.iload_n 3, 1) := by decide +kernel
set_option maxRecDepth 20000 in
theorem dX2_dropMomentsAfter_41 : decode cX2_dropMomentsAfter 41 = .ok (.aload_n 0, 1) := by decide +kernel
set_option maxRecDepth 20000 in
theorem dX2_dropMomentsAfter_42 : decode cX2_dropMomentsAfter 42 = .ok (.getfield 21, 3) := by decide +kernel
set_option maxRecDepth 20000 in
theorem dX2_dropMomentsAfter_45 : decode cX2_dropMomentsAfter 45 = .ok (.iload_n 2, 1) := by decide +kernel
set_option maxRecDepth 20000 in
theorem dX2_dropMomentsAfter_46 : decode cX2_dropMomentsAfter 46 = .ok (.bipush 16, 2) := by decide +kernel
set_option maxRecDepth 20000 in
theorem dX2_dropMomentsAfter_48 : decode cX2_dropMomentsAfter 48 = .ok (.imul, 1) := by decide +kernel
set_option maxRecDepth 20000 in
theorem dX2_dropMomentsAfter_49 : decode cX2_dropMomentsAfter 49 = .ok (.iload_n 3, 1) := by decide +kernel
set_option maxRecDepth 20000 in
theorem dX2_dropMomentsAfter_50 : decode cX2_dropMomentsAfter 50 = .ok (.iadd, 1) := by decide +kernel
set_option maxRecDepth 20000 in
theorem dX2_dropMomentsAfter_51 : decode cX2_dropMomentsAfter 51 = .ok (.iaload, 1) := by decide +kernel
set_option maxRecDepth 20000 in
theorem dX2_dropMomentsAfter_52 : decode cX2_dropMomentsAfter 52 = .ok (.invokevirtual 45, 3) := by decide +kernel
set_option maxRecDepth 20000 in
theorem dX2_dropMomentsAfter_55 : decode cX2_dropMomentsAfter 55 = .ok (.iinc 3 1, 3) := by decide +kernel
set_option maxRecDepth 20000 in
theorem dX2_dropMomentsAfter_58 : decode cX2_dropMomentsAfter 58 = .ok (.goto (-39), 3) := by decide +kernel
set_option maxRecDepth 20000 in
theorem dX2_dropMomentsAfter_61 : decode cX2_dropMomentsAfter 61 = .ok (.iinc 2 1, 3) := by decide +kernel
set_option maxRecDepth 20000 in
theorem dX2_dropMomentsAfter_64 : decode cX2_dropMomentsAfter 64 = .ok (.goto (-55), 3) := by decide +kernel
set_option maxRecDepth 20000 in
theorem dX2_dropMomentsAfter_67 : decode cX2_dropMomentsAfter 67 = .ok (.aload_n 0, 1) := by decide +kernel
set_option maxRecDepth 20000 in
theorem dX2_dropMomentsAfter_68 : decode cX2_dropMomentsAfter 68 = .ok (.aload_n 0, 1) := by decide +kernel
set_option maxRecDepth 20000 in
theorem dX2_dropMomentsAfter_69 : decode cX2_dropMomentsAfter 69 = .ok (.getfield 24, 3) := by decide +kernel
set_option maxRecDepth 20000 in
theorem dX2_dropMomentsAfter_72 : decode cX2_dropMomentsAfter 72 = .ok (.iload_n 1, 1) := by decide +kernel
set_option maxRecDepth 20000 in
theorem dX2_dropMomentsAfter_73 : decode cX2_dropMomentsAfter 73 = .ok (.iconst 1, 1) := by decide +kernel
set_option maxRecDepth 20000 in
theorem dX2_dropMomentsAfter_74 : decode cX2_dropMomentsAfter 74 = .ok (.iadd, 1) := by decide +kernel
set_option maxRecDepth 20000 in
theorem dX2_dropMomentsAfter_75 : decode cX2_dropMomentsAfter 75 = .ok (.invokestatic 49, 3) := by decide +kernel
set_option maxRecDepth 20000 in
theorem dX2_dropMomentsAfter_78 : decode cX2_dropMomentsAfter 78 = .ok (.putfield 24, 3) := by decide +kernel
set_option maxRecDepth 20000 in
theorem dX2_dropMomentsAfter_81 : decode cX2_dropMomentsAfter 81 = .ok (.return_, 1) := by decide +kernel
set_option maxRecDepth 20000 in
theorem dX2_copyFrom_0 : decode cX2_copyFrom 0 = .ok (.aload_n 1, 1) := by decide +kernel
set_option maxRecDepth 20000 in
theorem dX2_copyFrom_1 : decode cX2_copyFrom 1 = .ok (.getfield 24, 3) := by decide +kernel
set_option maxRecDepth 20000 in
theorem dX2_copyFrom_4 : decode cX2_copyFrom 4 = .ok (.istore_n 2, 1) := by decide +kernel
set_option maxRecDepth 20000 in
theorem dX2_copyFrom_5 : decode cX2_copyFrom 5 = .ok (.aload_n 0, 1) := by decide +kernel
set_option maxRecDepth 20000 in
theorem dX2_copyFrom_6 : decode cX2_copyFrom 6 = .ok (.iload_n 2, 1) := by decide +kernel
set_option maxRecDepth 20000 in
theorem dX2_copyFrom_7 : decode cX2_copyFrom 7 = .ok (.putfield 24, 3) := by decide +kernel
set_option maxRecDepth 20000 in
theorem dX2_copyFrom_10 : decode cX2_copyFrom 10 = .ok (.aload_n 0, 1) := by decide +kernel
set_option maxRecDepth 20000 in
theorem dX2_copyFrom_11 : decode cX2_copyFrom 11 = .ok (.aload_n 1, 1) := by decide +kernel
set_option maxRecDepth 20000 in
theorem dX2_copyFrom_12 : decode cX2_copyFrom 12 = .ok (.getfield 34, 3) := by decide +kernel
set_option maxRecDepth 20000 in
theorem dX2_copyFrom_15 : decode cX2_copyFrom 15 = .ok (.putfield 34, 3) := by decide +kernel
set_option maxRecDepth 20000 in
theorem dX2_copyFrom_18 : decode cX2_copyFrom 18 = .ok (.aload_n 1, 1) := by decide +kernel
set_option maxRecDepth 20000 in
theorem dX2_copyFrom_19 : decode cX2_copyFrom 19 = .ok (.getfield 9, 3) := by decide +kernel
set_option maxRecDepth 20000 in
theorem dX2_copyFrom_22 : decode cX2_copyFrom 22 = .ok (.iconst 0, 1) := by decide +kernel
set_option maxRecDepth 20000 in
theorem dX2_copyFrom_23 : decode cX2_copyFrom 23 = .ok (.aload_n 0, 1) := by decide +kernel
set_option maxRecDepth 20000 in
theorem dX2_copyFrom_24 : decode cX2_copyFrom 24 = .ok (.getfield 9, 3) := by decide +kernel
set_option maxRecDepth 20000 in
theorem dX2_copyFrom_27 : decode cX2_copyFrom 27 = .ok (.iconst 0, 1) := by decide +kernel
set_option maxRecDepth 20000 in
theorem dX2_copyFrom_28 : decode cX2_copyFrom 28 = .ok (.iload_n 2, 1) := by decide +kernel
set_option maxRecDepth 20000 in
theorem dX2_copyFrom_29 : decode cX2_copyFrom 29 = .ok (.invokestatic 52, 3) := by decide +kernel
set_option maxRecDepth 20000 in
theorem dX2_copyFrom_32 : decode cX2_copyFrom 32 = .ok (.aload_n 1, 1) := by decide +kernel
set_option maxRecDepth 20000 in
theorem dX2_copyFrom_33 : decode cX2_copyFrom 33 = .ok (.getfield 15, 3) := by decide +kernel
set_option maxRecDepth 20000 in
theorem dX2_copyFrom_36 : decode cX2_copyFrom 36 = .ok (.iconst 0, 1) := by decide +kernel
set_option maxRecDepth 20000 in
theorem dX2_copyFrom_37 : decode cX2_copyFrom 37 = .ok (.aload_n 0, 1) := by decide +kernel
set_option maxRecDepth 20000 in
theorem dX2_copyFrom_38 : decode cX2_copyFrom 38 = .ok (.getfield 15, 3) := by decide +kernel
set_option maxRecDepth 20000 in
theorem dX2_copyFrom_41 : decode cX2_copyFrom 41 = .ok (.iconst 0, 1) := by decide +kernel
set_option maxRecDepth 20000 in
theorem dX2_copyFrom_42 : decode cX2_copyFrom 42 = .ok (.bipush 12, 2) := by decide +kernel
set_option maxRecDepth 20000 in
theorem dX2_copyFrom_44 : decode cX2_copyFrom 44 = .ok (.invokestatic 52, 3) := by decide +kernel
set_option maxRecDepth 20000 in
theorem dX2_copyFrom_47 : decode cX2_copyFrom 47 = .ok (.aload_n 1, 1) := by decide +kernel
set_option maxRecDepth 20000 in
theorem dX2_copyFrom_48 : decode cX2_copyFrom 48 = .ok (.getfield 18, 3) := by decide +kernel
set_option maxRecDepth 20000 in
theorem dX2_copyFrom_51 : decode cX2_copyFrom 51 = .ok (.iconst 0, 1) := by decide +kernel
set_option maxRecDepth 20000 in
theorem dX2_copyFrom_52 : decode cX2_copyFrom 52 = .ok (.aload_n 0, 1) := by decide +kernel
set_option maxRecDepth 20000 in
theorem dX2_copyFrom_53 : decode cX2_copyFrom 53 = .ok (.getfield 18, 3) := by decide +kernel
set_option maxRecDepth 20000 in
theorem dX2_copyFrom_56 : decode cX2_copyFrom 56 = .ok (.iconst 0, 1) := by decide +kernel
set_option maxRecDepth 20000 in
theorem dX2_copyFrom_57 : decode cX2_copyFrom 57 = .ok (.iload_n 2, 1) := by decide +kernel
set_option maxRecDepth 20000 in
theorem dX2_copyFrom_58 : decode cX2_copyFrom 58 = .ok (.invokestatic 52, 3) := by decide +kernel
set_option maxRecDepth 20000 in
theorem dX2_copyFrom_61 : decode cX2_copyFrom 61 = .ok (.aload_n 1, 1) := by decide +kernel
set_option maxRecDepth 20000 in
theorem dX2_copyFrom_62 : decode cX2_copyFrom 62 = .ok (.getfield 21, 3) := by decide +kernel
set_option maxRecDepth 20000 in
theorem dX2_copyFrom_65 : decode cX2_copyFrom 65 = .ok (.iconst 0, 1) := by decide +kernel
set_option maxRecDepth 20000 in
theorem dX2_copyFrom_66 : decode cX2_copyFrom 66 = .ok (.aload_n 0, 1) := by decide +kernel
set_option maxRecDepth 20000 in
theorem dX2_copyFrom_67 : decode cX2_copyFrom 67 = .ok (.getfield 21, 3) := by decide +kernel
set_option maxRecDepth 20000 in
theorem dX2_copyFrom_70 : decode cX2_copyFrom 70 = .ok (.iconst 0, 1) := by decide +kernel
set_option maxRecDepth 20000 in
theorem dX2_copyFrom_71 : decode cX2_copyFrom 71 = .ok (.iload_n 2, 1) := by decide +kernel
set_option maxRecDepth 20000 in
theorem dX2_copyFrom_72 : decode cX2_copyFrom 72 = .ok (.bipush 16, 2) := by decide +kernel
set_option maxRecDepth 20000 in
theorem dX2_copyFrom_74 : decode cX2_copyFrom 74 = .ok (.imul, 1) := by decide +kernel
set_option maxRecDepth 20000 in
theorem dX2_copyFrom_75 : decode cX2_copyFrom 75 = .ok (.invokestatic 52, 3) := by decide +kernel
set_option maxRecDepth 20000 in
theorem dX2_copyFrom_78 : decode cX2_copyFrom 78 = .ok (.return_, 1) := by decide +kernel
set_option maxRecDepth 20000 in
theorem dX3_init_0 : decode cX3_init 0 = .ok (.aload_n 0, 1) := by decide +kernel
set_option maxRecDepth 20000 in
theorem dX3_init_1 : decode cX3_init 1 = .ok (.invokespecial 3, 3) := by decide +kernel
set_option maxRecDepth 20000 in
theorem dX3_init_4 : decode cX3_init 4 = .ok (.aload_n 0, 1) := by decide +kernel
set_option maxRecDepth 20000 in
theorem dX3_init_5 : decode cX3_init 5 = .ok (.new 9, 3) := by decide +kernel
set_option maxRecDepth 20000 in
theorem dX3_init_8 : decode cX3_init 8 = .ok (.dup, 1) := by decide +kernel
set_option maxRecDepth 20000 in
theorem dX3_init_9 : decode cX3_init 9 = .ok (.invokespecial 11, 3) := by decide +kernel
set_option maxRecDepth 20000 in
theorem dX3_init_12 : decode cX3_init 12 = .ok (.putfield 12, 3) := by decide +kernel
set_option maxRecDepth 20000 in
theorem dX3_init_15 : decode cX3_init 15 = .ok (.aload_n 0, 1) := by decide +kernel
set_option maxRecDepth 20000 in
theorem dX3_init_16 : decode cX3_init 16 = .ok (.new 9, 3) := by decide +kernel
set_option maxRecDepth 20000 in
theorem dX3_init_19 : decode cX3_init 19 = .ok (.dup, 1) := by decide +kernel
set_option maxRecDepth 20000 in
theorem dX3_init_20 : decode cX3_init 20 = .ok (.invokespecial 11, 3) := by decide +kernel
set_option maxRecDepth 20000 in
theorem dX3_init_23 : decode cX3_init 23 = .ok (.putfield 16, 3) := by decide +kernel
set_option maxRecDepth 20000 in
theorem dX3_init_26 : decode cX3_init 26 = .ok (.aload_n 0, 1) := by decide +kernel
set_option maxRecDepth 20000 in
theorem dX3_init_27 : decode cX3_init 27 = .ok (.bipush 6, 2) := by decide +kernel
set_option maxRecDepth 20000 in
theorem dX3_init_29 : decode cX3_init 29 = .ok (.anewarray 9, 3) := by decide +kernel
set_option maxRecDepth 20000 in
theorem dX3_init_32 : decode cX3_init 32 = .ok (.putfield 19, 3) := by decide +kernel
set_option maxRecDepth 20000 in
theorem dX3_init_35 : decode cX3_init 35 = .ok (.iconst 0, 1) := by decide +kernel
set_option maxRecDepth 20000 in
theorem dX3_init_36 : decode cX3_init 36 = .ok (.istore_n 1, 1) := by decide +kernel
set_option maxRecDepth 20000 in
theorem dX3_init_37 : decode cX3_init 37 = .ok (.iload_n 1, 1) := by decide +kernel
set_option maxRecDepth 20000 in
theorem dX3_init_38 : decode cX3_init 38 = .ok (.bipush 6, 2) := by decide +kernel
set_option maxRecDepth 20000 in
theorem dX3_init_40 : decode cX3_init 40 = .ok (.if_icmp .ge 22, 3) := by decide +kernel
set_option maxRecDepth 20000 in
theorem dX3_init_43 : decode cX3_init 43 = .ok (.aload_n 0, 1) := by decide +kernel
set_option maxRecDepth 20000 in
theorem dX3_init_44 : decode cX3_init 44 = .ok (.getfield 19, 3) := by decide +kernel
set_option maxRecDepth 20000 in
theorem dX3_init_47 : decode cX3_init 47 = .ok (.iload_n 1, 1) := by decide +kernel
set_option maxRecDepth 20000 in
theorem dX3_init_48 : decode cX3_init 48 = .ok (.new 9, 3) := by decide +kernel
set_option maxRecDepth 20000 in
theorem dX3_init_51 : decode cX3_init 51 = .ok (.dup, 1) := by decide +kernel
set_option maxRecDepth 20000 in
theorem dX3_init_52 : decode cX3_init 52 = .ok (.invokespecial 11, 3) := by decide +kernel
set_option maxRecDepth 20000 in
theorem dX3_init_55 : decode cX3_init 55 = .ok (.aastore, 1) := by decide +kernel
set_option maxRecDepth 20000 in
theorem dX3_init_56 : decode cX3_init 56 = .ok (.iinc 1 1, 3) := by decide +kernel
set_option maxRecDepth 20000 in
theorem dX3_init_59 : decode cX3_init 59 = .ok (.goto (-22), 3) := by decide +kernel
set_option maxRecDepth 20000 in
theorem dX3_init_62 : decode cX3_init 62 = .ok (.aload_n 0, 1) := by decide +kernel
set_option maxRecDepth 20000 in
theorem dX3_init_63 : decode cX3_init 63 = .ok (.new 23, 3) := by decide +kernel
set_option maxRecDepth 20000 in
theorem dX3_init_66 : decode cX3_init 66 = .ok (.dup, 1) := by decide +kernel
set_option maxRecDepth 20000 in
theorem dX3_init_67 : decode cX3_init 67 = .ok (.invokespecial 25, 3) := by decide +kernel
set_option maxRecDepth 20000 in
theorem dX3_init_70 : decode cX3_init 70 = .ok (.putfield 26, 3) := by decide +kernel
set_option maxRecDepth 20000 in
theorem dX3_init_73 : decode cX3_init 73 = .ok (.return_, 1) := by decide +kernel
set_option maxRecDepth 20000 in
theorem dX3_keep_0 : decode cX3_keep 0 = .ok (.aload_n 0, 1) := by decide +kernel
set_option maxRecDepth 20000 in
theorem dX3_keep_1 : decode cX3_keep 1 = .ok (.invokevirtual 30, 3) := by decide +kernel
set_option maxRecDepth 20000 in
theorem dX3_keep_4 : decode cX3_keep 4 = .ok (.aload_n 0, 1) := by decide +kernel
set_option maxRecDepth 20000 in
theorem dX3_keep_5 : decode cX3_keep 5 = .ok (.getfield 12, 3) := by decide +kernel
set_option maxRecDepth 20000 in
theorem dX3_keep_8 : decode cX3_keep 8 = .ok (.getfield 33, 3) := by decide +kernel
set_option maxRecDepth 20000 in
theorem dX3_keep_11 : decode cX3_keep 11 = .ok (.ifCond .eq 7, 3) := by decide +kernel
set_option maxRecDepth 20000 in
theorem dX3_keep_14 : decode cX3_keep 14 = .ok (.iconst 1, 1) := by decide +kernel
set_option maxRecDepth 20000 in
theorem dX3_keep_15 : decode cX3_keep 15 = .ok (.goto 4, 3) := by decide +kernel
set_option maxRecDepth 20000 in
theorem dX3_keep_18 : decode cX3_keep 18 = .ok (.iconst 0, 1) := by decide +kernel
set_option maxRecDepth 20000 in
theorem dX3_keep_19 : decode cX3_keep 19 = .ok (.istore_n 2, 1) := by decide +kernel
set_option maxRecDepth 20000 in
theorem dX3_keep_20 : decode cX3_keep 20 = .ok (.aload_n 0, 1) := by decide +kernel
set_option maxRecDepth 20000 in
theorem dX3_keep_21 : decode cX3_keep 21 = .ok (.getfield 12, 3) := by decide +kernel
set_option maxRecDepth 20000 in
theorem dX3_keep_24 : decode cX3_keep 24 = .ok (.iload_n 1, 1) := by decide +kernel
set_option maxRecDepth 20000 in
theorem dX3_keep_25 : decode cX3_keep 25 = .ok (.putfield 33, 3) := by decide +kernel
set_option maxRecDepth 20000 in
theorem dX3_keep_28 : decode cX3_keep 28 = .ok (.aload_n 0, 1) := by decide +kernel
set_option maxRecDepth 20000 in
theorem dX3_keep_29 : decode cX3_keep 29 = .ok (.iload_n 2, 1) := by decide +kernel
set_option maxRecDepth 20000 in
theorem dX3_keep_30 : decode cX3_keep 30 = .ok (.invokevirtual 37, 3) := by decide +kernel
set_option maxRecDepth 20000 in
theorem dX3_keep_33 : decode cX3_keep 33 = .ok (.ireturn, 1) := by decide +kernel
set_option maxRecDepth 20000 in
theorem dX3_begin_0 : decode cX3_begin 0 = .ok (.aload_n 0, 1) := by decide +kernel
set_option maxRecDepth 20000 in
theorem dX3_begin_1 : decode cX3_begin 1 = .ok (.invokevirtual 30, 3) := by decide +kernel
set_option maxRecDepth 20000 in
theorem dX3_begin_4 : decode cX3_begin 4 = .ok (.aload_n 0, 1) := by decide +kernel
set_option maxRecDepth 20000 in
theorem dX3_begin_5 : decode cX3_begin 5 = .ok (.aload_n 0, 1) := by decide +kernel
set_option maxRecDepth 20000 in
theorem dX3_begin_6 : decode cX3_begin 6 = .ok (.getfield 12, 3) := by decide +kernel
set_option maxRecDepth 20000 in
theorem dX3_begin_9 : decode cX3_begin 9 = .ok (.iload_n 1, 1) := by decide +kernel
set_option maxRecDepth 20000 in
theorem dX3_begin_10 : decode cX3_begin 10 = .ok (.invokevirtual 41, 3) := by decide +kernel
set_option maxRecDepth 20000 in
theorem dX3_begin_13 : decode cX3_begin 13 = .ok (.invokevirtual 37, 3) := by decide +kernel
set_option maxRecDepth 20000 in
theorem dX3_begin_16 : decode cX3_begin 16 = .ok (.ireturn, 1) := by decide +kernel
set_option maxRecDepth 20000 in
theorem dX3_commit_0 : decode cX3_commit 0 = .ok (.aload_n 0, 1) := by decide +kernel
set_option maxRecDepth 20000 in
theorem dX3_commit_1 : decode cX3_commit 1 = .ok (.invokevirtual 30, 3) := by decide +kernel
set_option maxRecDepth 20000 in
theorem dX3_commit_4 : decode cX3_commit 4 = .ok (.aload_n 0, 1) := by decide +kernel
set_option maxRecDepth 20000 in
theorem dX3_commit_5 : decode cX3_commit 5 = .ok (.aload_n 0, 1) := by decide +kernel
set_option maxRecDepth 20000 in
theorem dX3_commit_6 : decode cX3_commit 6 = .ok (.getfield 12, 3) := by decide +kernel
set_option maxRecDepth 20000 in
theorem dX3_commit_9 : decode cX3_commit 9 = .ok (.iload_n 1, 1) := by decide +kernel
set_option maxRecDepth 20000 in
theorem dX3_commit_10 : decode cX3_commit 10 = .ok (.invokevirtual 44, 3) := by decide +kernel
set_option maxRecDepth 20000 in
theorem dX3_commit_13 : decode cX3_commit 13 = .ok (.invokevirtual 37, 3) := by decide +kernel
set_option maxRecDepth 20000 in
theorem dX3_commit_16 : decode cX3_commit 16 = .ok (.ireturn, 1) := by decide +kernel
set_option maxRecDepth 20000 in
theorem dX3_rollback_0 : decode cX3_rollback 0 = .ok (.aload_n 0, 1) := by decide +kernel
set_option maxRecDepth 20000 in
theorem dX3_rollback_1 : decode cX3_rollback 1 = .ok (.invokevirtual 30, 3) := by decide +kernel
set_option maxRecDepth 20000 in
theorem dX3_rollback_4 : decode cX3_rollback 4 = .ok (.aload_n 0, 1) := by decide +kernel
set_option maxRecDepth 20000 in
theorem dX3_rollback_5 : decode cX3_rollback 5 = .ok (.aload_n 0, 1) := by decide +kernel
set_option maxRecDepth 20000 in
theorem dX3_rollback_6 : decode cX3_rollback 6 = .ok (.getfield 12, 3) := by decide +kernel
set_option maxRecDepth 20000 in
theorem dX3_rollback_9 : decode cX3_rollback 9 = .ok (.iload_n 1, 1) := by decide +kernel
set_option maxRecDepth 20000 in
theorem dX3_rollback_10 : decode cX3_rollback 10 = .ok (.invokevirtual 47, 3) := by decide +kernel
set_option maxRecDepth 20000 in
theorem dX3_rollback_13 : decode cX3_rollback 13 = .ok (.invokevirtual 37, 3) := by decide +kernel
set_option maxRecDepth 20000 in
theorem dX3_rollback_16 : decode cX3_rollback 16 = .ok (.ireturn, 1) := by decide +kernel
set_option maxRecDepth 20000 in
theorem dX3_savepoint_0 : decode cX3_savepoint 0 = .ok (.aload_n 0, 1) := by decide +kernel
set_option maxRecDepth 20000 in
theorem dX3_savepoint_1 : decode cX3_savepoint 1 = .ok (.invokevirtual 30, 3) := by decide +kernel
set_option maxRecDepth 20000 in
theorem dX3_savepoint_4 : decode cX3_savepoint 4 = .ok (.aload_n 0, 1) := by decide +kernel
set_option maxRecDepth 20000 in
theorem dX3_savepoint_5 : decode cX3_savepoint 5 = .ok (.aload_n 0, 1) := by decide +kernel
set_option maxRecDepth 20000 in
theorem dX3_savepoint_6 : decode cX3_savepoint 6 = .ok (.getfield 12, 3) := by decide +kernel
set_option maxRecDepth 20000 in
theorem dX3_savepoint_9 : decode cX3_savepoint 9 = .ok (.iload_n 1, 1) := by decide +kernel
set_option maxRecDepth 20000 in
theorem dX3_savepoint_10 : decode cX3_savepoint 10 = .ok (.iload_n 2, 1) := by decide +kernel
set_option maxRecDepth 20000 in
theorem dX3_savepoint_11 : decode cX3_savepoint 11 = .ok (.invokevirtual 50, 3) := by decide +kernel
set_option maxRecDepth 20000 in
theorem dX3_savepoint_14 : decode cX3_savepoint 14 = .ok (.invokevirtual 37, 3) := by decide +kernel
set_option maxRecDepth 20000 in
theorem dX3_savepoint_17 : decode cX3_savepoint 17 = .ok (.ireturn, 1) := by decide +kernel
set_option maxRecDepth 20000 in
theorem dX3_undoTo_0 : decode cX3_undoTo 0 = .ok (.aload_n 0, 1) := by decide +kernel
set_option maxRecDepth 20000 in
theorem dX3_undoTo_1 : decode cX3_undoTo 1 = .ok (.invokevirtual 30, 3) := by decide +kernel
set_option maxRecDepth 20000 in
theorem dX3_undoTo_4 : decode cX3_undoTo 4 = .ok (.aload_n 0, 1) := by decide +kernel
set_option maxRecDepth 20000 in
theorem dX3_undoTo_5 : decode cX3_undoTo 5 = .ok (.aload_n 0, 1) := by decide +kernel
set_option maxRecDepth 20000 in
theorem dX3_undoTo_6 : decode cX3_undoTo 6 = .ok (.getfield 12, 3) := by decide +kernel
set_option maxRecDepth 20000 in
theorem dX3_undoTo_9 : decode cX3_undoTo 9 = .ok (.iload_n 1, 1) := by decide +kernel
set_option maxRecDepth 20000 in
theorem dX3_undoTo_10 : decode cX3_undoTo 10 = .ok (.iload_n 2, 1) := by decide +kernel
set_option maxRecDepth 20000 in
theorem dX3_undoTo_11 : decode cX3_undoTo 11 = .ok (.invokevirtual 54, 3) := by decide +kernel
set_option maxRecDepth 20000 in
theorem dX3_undoTo_14 : decode cX3_undoTo 14 = .ok (.invokevirtual 37, 3) := by decide +kernel
set_option maxRecDepth 20000 in
theorem dX3_undoTo_17 : decode cX3_undoTo 17 = .ok (.ireturn, 1) := by decide +kernel
set_option maxRecDepth 20000 in
theorem dX3_release_0 : decode cX3_release 0 = .ok (.aload_n 0, 1) := by decide +kernel
set_option maxRecDepth 20000 in
theorem dX3_release_1 : decode cX3_release 1 = .ok (.invokevirtual 30, 3) := by decide +kernel
set_option maxRecDepth 20000 in
theorem dX3_release_4 : decode cX3_release 4 = .ok (.aload_n 0, 1) := by decide +kernel
set_option maxRecDepth 20000 in
theorem dX3_release_5 : decode cX3_release 5 = .ok (.aload_n 0, 1) := by decide +kernel
set_option maxRecDepth 20000 in
theorem dX3_release_6 : decode cX3_release 6 = .ok (.getfield 12, 3) := by decide +kernel
set_option maxRecDepth 20000 in
theorem dX3_release_9 : decode cX3_release 9 = .ok (.iload_n 1, 1) := by decide +kernel
set_option maxRecDepth 20000 in
theorem dX3_release_10 : decode cX3_release 10 = .ok (.iload_n 2, 1) := by decide +kernel
set_option maxRecDepth 20000 in
theorem dX3_release_11 : decode cX3_release 11 = .ok (.invokevirtual 57, 3) := by decide +kernel
set_option maxRecDepth 20000 in
theorem dX3_release_14 : decode cX3_release 14 = .ok (.invokevirtual 37, 3) := by decide +kernel
set_option maxRecDepth 20000 in
theorem dX3_release_17 : decode cX3_release 17 = .ok (.ireturn, 1) := by decide +kernel
set_option maxRecDepth 20000 in
theorem dX3_read_0 : decode cX3_read 0 = .ok (.aload_n 0, 1) := by decide +kernel
set_option maxRecDepth 20000 in
theorem dX3_read_1 : decode cX3_read 1 = .ok (.invokevirtual 30, 3) := by decide +kernel
set_option maxRecDepth 20000 in
theorem dX3_read_4 : decode cX3_read 4 = .ok (.aload_n 0, 1) := by decide +kernel
set_option maxRecDepth 20000 in
theorem dX3_read_5 : decode cX3_read 5 = .ok (.aload_n 0, 1) := by decide +kernel
set_option maxRecDepth 20000 in
theorem dX3_read_6 : decode cX3_read 6 = .ok (.getfield 12, 3) := by decide +kernel
set_option maxRecDepth 20000 in
theorem dX3_read_9 : decode cX3_read 9 = .ok (.iload_n 1, 1) := by decide +kernel
set_option maxRecDepth 20000 in
theorem dX3_read_10 : decode cX3_read 10 = .ok (.iload_n 2, 1) := by decide +kernel
set_option maxRecDepth 20000 in
theorem dX3_read_11 : decode cX3_read 11 = .ok (.invokevirtual 60, 3) := by decide +kernel
set_option maxRecDepth 20000 in
theorem dX3_read_14 : decode cX3_read 14 = .ok (.invokevirtual 37, 3) := by decide +kernel
set_option maxRecDepth 20000 in
theorem dX3_read_17 : decode cX3_read 17 = .ok (.ireturn, 1) := by decide +kernel
set_option maxRecDepth 20000 in
theorem dX3_write_0 : decode cX3_write 0 = .ok (.aload_n 0, 1) := by decide +kernel
set_option maxRecDepth 20000 in
theorem dX3_write_1 : decode cX3_write 1 = .ok (.invokevirtual 30, 3) := by decide +kernel
set_option maxRecDepth 20000 in
theorem dX3_write_4 : decode cX3_write 4 = .ok (.aload_n 0, 1) := by decide +kernel
set_option maxRecDepth 20000 in
theorem dX3_write_5 : decode cX3_write 5 = .ok (.aload_n 0, 1) := by decide +kernel
set_option maxRecDepth 20000 in
theorem dX3_write_6 : decode cX3_write 6 = .ok (.getfield 12, 3) := by decide +kernel
set_option maxRecDepth 20000 in
theorem dX3_write_9 : decode cX3_write 9 = .ok (.iload_n 1, 1) := by decide +kernel
set_option maxRecDepth 20000 in
theorem dX3_write_10 : decode cX3_write 10 = .ok (.iload_n 2, 1) := by decide +kernel
set_option maxRecDepth 20000 in
theorem dX3_write_11 : decode cX3_write 11 = .ok (.iload_n 3, 1) := by decide +kernel
set_option maxRecDepth 20000 in
theorem dX3_write_12 : decode cX3_write 12 = .ok (.invokevirtual 63, 3) := by decide +kernel
set_option maxRecDepth 20000 in
theorem dX3_write_15 : decode cX3_write 15 = .ok (.invokevirtual 37, 3) := by decide +kernel
set_option maxRecDepth 20000 in
theorem dX3_write_18 : decode cX3_write 18 = .ok (.ireturn, 1) := by decide +kernel
set_option maxRecDepth 20000 in
theorem dX3_erase_0 : decode cX3_erase 0 = .ok (.aload_n 0, 1) := by decide +kernel
set_option maxRecDepth 20000 in
theorem dX3_erase_1 : decode cX3_erase 1 = .ok (.invokevirtual 30, 3) := by decide +kernel
set_option maxRecDepth 20000 in
theorem dX3_erase_4 : decode cX3_erase 4 = .ok (.aload_n 0, 1) := by decide +kernel
set_option maxRecDepth 20000 in
theorem dX3_erase_5 : decode cX3_erase 5 = .ok (.aload_n 0, 1) := by decide +kernel
set_option maxRecDepth 20000 in
theorem dX3_erase_6 : decode cX3_erase 6 = .ok (.getfield 12, 3) := by decide +kernel
set_option maxRecDepth 20000 in
theorem dX3_erase_9 : decode cX3_erase 9 = .ok (.iload_n 1, 1) := by decide +kernel
set_option maxRecDepth 20000 in
theorem dX3_erase_10 : decode cX3_erase 10 = .ok (.iload_n 2, 1) := by decide +kernel
set_option maxRecDepth 20000 in
theorem dX3_erase_11 : decode cX3_erase 11 = .ok (.invokevirtual 67, 3) := by decide +kernel
set_option maxRecDepth 20000 in
theorem dX3_erase_14 : decode cX3_erase 14 = .ok (.invokevirtual 37, 3) := by decide +kernel
set_option maxRecDepth 20000 in
theorem dX3_erase_17 : decode cX3_erase 17 = .ok (.ireturn, 1) := by decide +kernel
set_option maxRecDepth 20000 in
theorem dX3_shift_0 : decode cX3_shift 0 = .ok (.aload_n 0, 1) := by decide +kernel
set_option maxRecDepth 20000 in
theorem dX3_shift_1 : decode cX3_shift 1 = .ok (.invokevirtual 30, 3) := by decide +kernel
set_option maxRecDepth 20000 in
theorem dX3_shift_4 : decode cX3_shift 4 = .ok (.aload_n 0, 1) := by decide +kernel
set_option maxRecDepth 20000 in
theorem dX3_shift_5 : decode cX3_shift 5 = .ok (.aload_n 0, 1) := by decide +kernel
set_option maxRecDepth 20000 in
theorem dX3_shift_6 : decode cX3_shift 6 = .ok (.getfield 12, 3) := by decide +kernel
set_option maxRecDepth 20000 in
theorem dX3_shift_9 : decode cX3_shift 9 = .ok (.iload_n 1, 1) := by decide +kernel
set_option maxRecDepth 20000 in
theorem dX3_shift_10 : decode cX3_shift 10 = .ok (.iload_n 2, 1) := by decide +kernel
set_option maxRecDepth 20000 in
theorem dX3_shift_11 : decode cX3_shift 11 = .ok (.iload_n 3, 1) := by decide +kernel
set_option maxRecDepth 20000 in
theorem dX3_shift_12 : decode cX3_shift 12 = .ok (.invokevirtual 70, 3) := by decide +kernel
set_option maxRecDepth 20000 in
theorem dX3_shift_15 : decode cX3_shift 15 = .ok (.invokevirtual 37, 3) := by decide +kernel
set_option maxRecDepth 20000 in
theorem dX3_shift_18 : decode cX3_shift 18 = .ok (.ireturn, 1) := by decide +kernel
set_option maxRecDepth 20000 in
theorem dX3_move_0 : decode cX3_move 0 = .ok (.aload_n 0, 1) := by decide +kernel
set_option maxRecDepth 20000 in
theorem dX3_move_1 : decode cX3_move 1 = .ok (.invokevirtual 30, 3) := by decide +kernel
set_option maxRecDepth 20000 in
theorem dX3_move_4 : decode cX3_move 4 = .ok (.aload_n 0, 1) := by decide +kernel
set_option maxRecDepth 20000 in
theorem dX3_move_5 : decode cX3_move 5 = .ok (.aload_n 0, 1) := by decide +kernel
set_option maxRecDepth 20000 in
theorem dX3_move_6 : decode cX3_move 6 = .ok (.getfield 12, 3) := by decide +kernel
set_option maxRecDepth 20000 in
theorem dX3_move_9 : decode cX3_move 9 = .ok (.iload_n 1, 1) := by decide +kernel
set_option maxRecDepth 20000 in
theorem dX3_move_10 : decode cX3_move 10 = .ok (.iload_n 2, 1) := by decide +kernel
set_option maxRecDepth 20000 in
theorem dX3_move_11 : decode cX3_move 11 = .ok (.iload_n 3, 1) := by decide +kernel
set_option maxRecDepth 20000 in
theorem dX3_move_12 : decode cX3_move 12 = .ok (.iload 4, 2) := by decide +kernel
set_option maxRecDepth 20000 in
theorem dX3_move_14 : decode cX3_move 14 = .ok (.invokevirtual 73, 3) := by decide +kernel
set_option maxRecDepth 20000 in
theorem dX3_move_17 : decode cX3_move 17 = .ok (.invokevirtual 37, 3) := by decide +kernel
set_option maxRecDepth 20000 in
theorem dX3_move_20 : decode cX3_move 20 = .ok (.ireturn, 1) := by decide +kernel
set_option maxRecDepth 20000 in
theorem dX3_value_0 : decode cX3_value 0 = .ok (.iload_n 1, 1) := by decide +kernel
set_option maxRecDepth 20000 in
theorem dX3_value_1 : decode cX3_value 1 = .ok (.invokestatic 115, 3) := by decide +kernel
set_option maxRecDepth 20000 in
theorem dX3_value_4 : decode cX3_value 4 = .ok (.ifCond .eq 15, 3) := by decide +kernel
set_option maxRecDepth 20000 in
theorem dX3_value_7 : decode cX3_value 7 = .ok (.aload_n 0, 1) := by decide +kernel
set_option maxRecDepth 20000 in
theorem dX3_value_8 : decode cX3_value 8 = .ok (.getfield 12, 3) := by decide +kernel
set_option maxRecDepth 20000 in
theorem dX3_value_11 : decode cX3_value 11 = .ok (.getfield 118, 3) := by decide +kernel
set_option maxRecDepth 20000 in
theorem dX3_value_14 : decode cX3_value 14 = .ok (.iload_n 1, 1) := by decide +kernel
set_option maxRecDepth 20000 in
theorem dX3_value_15 : decode cX3_value 15 = .ok (.iaload, 1) := by decide +kernel
set_option maxRecDepth 20000 in
theorem dX3_value_16 : decode cX3_value 16 = .ok (.goto 4, 3) := by decide +kernel
set_option maxRecDepth 20000 in
theorem dX3_value_19 : decode cX3_value 19 = .ok (.iconst (-1), 1) := by decide +kernel
set_option maxRecDepth 20000 in
theorem dX3_value_20 : decode cX3_value 20 = .ok (.ireturn, 1) := by decide +kernel
set_option maxRecDepth 20000 in
theorem dX3_committed_0 : decode cX3_committed 0 = .ok (.iload_n 1, 1) := by decide +kernel
set_option maxRecDepth 20000 in
theorem dX3_committed_1 : decode cX3_committed 1 = .ok (.invokestatic 115, 3) := by decide +kernel
set_option maxRecDepth 20000 in
theorem dX3_committed_4 : decode cX3_committed 4 = .ok (.ifCond .eq 14, 3) := by decide +kernel
set_option maxRecDepth 20000 in
theorem dX3_committed_7 : decode cX3_committed 7 = .ok (.aload_n 0, 1) := by decide +kernel
set_option maxRecDepth 20000 in
theorem dX3_committed_8 : decode cX3_committed 8 = .ok (.getfield 12, 3) := by decide +kernel
set_option maxRecDepth 20000 in
theorem dX3_committed_11 : decode cX3_committed 11 = .ok (.iload_n 1, 1) := by decide +kernel
set_option maxRecDepth 20000 in
theorem dX3_committed_12 : decode cX3_committed 12 = .ok (.invokevirtual 122, 3) := by decide +kernel
set_option maxRecDepth 20000 in
theorem dX3_committed_15 : decode cX3_committed 15 = .ok (.goto 4, 3) := by decide +kernel
set_option maxRecDepth 20000 in
theorem dX3_committed_18 : decode cX3_committed 18 = .ok (.iconst (-1), 1) := by decide +kernel
set_option maxRecDepth 20000 in
theorem dX3_committed_19 : decode cX3_committed 19 = .ok (.ireturn, 1) := by decide +kernel
set_option maxRecDepth 20000 in
theorem dX3_mode_0 : decode cX3_mode 0 = .ok (.iload_n 1, 1) := by decide +kernel
set_option maxRecDepth 20000 in
theorem dX3_mode_1 : decode cX3_mode 1 = .ok (.invokestatic 125, 3) := by decide +kernel
set_option maxRecDepth 20000 in
theorem dX3_mode_4 : decode cX3_mode 4 = .ok (.ifCond .eq 10, 3) := by decide +kernel
set_option maxRecDepth 20000 in
theorem dX3_mode_7 : decode cX3_mode 7 = .ok (.iload_n 2, 1) := by decide +kernel
set_option maxRecDepth 20000 in
theorem dX3_mode_8 : decode cX3_mode 8 = .ok (.invokestatic 115, 3) := by decide +kernel
set_option maxRecDepth 20000 in
theorem dX3_mode_11 : decode cX3_mode 11 = .ok (.ifCond .ne 5, 3) := by decide +kernel
set_option maxRecDepth 20000 in
theorem dX3_mode_14 : decode cX3_mode 14 = .ok (.iconst (-1), 1) := by decide +kernel
set_option maxRecDepth 20000 in
theorem dX3_mode_15 : decode cX3_mode 15 = .ok (.ireturn, 1) := by decide +kernel
set_option maxRecDepth 20000 in
theorem dX3_mode_16 : decode cX3_mode 16 = .ok (.aload_n 0, 1) := by decide +kernel
set_option maxRecDepth 20000 in
theorem dX3_mode_17 : decode cX3_mode 17 = .ok (.getfield 12, 3) := by decide +kernel
set_option maxRecDepth 20000 in
theorem dX3_mode_20 : decode cX3_mode 20 = .ok (.getfield 128, 3) := by decide +kernel
set_option maxRecDepth 20000 in
theorem dX3_mode_23 : decode cX3_mode 23 = .ok (.iload_n 1, 1) := by decide +kernel
set_option maxRecDepth 20000 in
theorem dX3_mode_24 : decode cX3_mode 24 = .ok (.aaload, 1) := by decide +kernel
set_option maxRecDepth 20000 in
theorem dX3_mode_25 : decode cX3_mode 25 = .ok (.iload_n 2, 1) := by decide +kernel
set_option maxRecDepth 20000 in
theorem dX3_mode_26 : decode cX3_mode 26 = .ok (.invokevirtual 132, 3) := by decide +kernel
set_option maxRecDepth 20000 in
theorem dX3_mode_29 : decode cX3_mode 29 = .ok (.ireturn, 1) := by decide +kernel
set_option maxRecDepth 20000 in
theorem dX3_busyFor_0 : decode cX3_busyFor 0 = .ok (.iload_n 1, 1) := by decide +kernel
set_option maxRecDepth 20000 in
theorem dX3_busyFor_1 : decode cX3_busyFor 1 = .ok (.invokestatic 115, 3) := by decide +kernel
set_option maxRecDepth 20000 in
theorem dX3_busyFor_4 : decode cX3_busyFor 4 = .ok (.ifCond .ne 5, 3) := by decide +kernel
set_option maxRecDepth 20000 in
theorem dX3_busyFor_7 : decode cX3_busyFor 7 = .ok (.iconst (-1), 1) := by decide +kernel
set_option maxRecDepth 20000 in
theorem dX3_busyFor_8 : decode cX3_busyFor 8 = .ok (.ireturn, 1) := by decide +kernel
set_option maxRecDepth 20000 in
theorem dX3_busyFor_9 : decode cX3_busyFor 9 = .ok (.iload_n 2, 1) := by decide +kernel
set_option maxRecDepth 20000 in
theorem dX3_busyFor_10 : decode cX3_busyFor 10 = .ok (.iconst 1, 1) := by decide +kernel
set_option maxRecDepth 20000 in
theorem dX3_busyFor_11 : decode cX3_busyFor 11 = .ok (.if_icmp .eq 11, 3) := by decide +kernel
set_option maxRecDepth 20000 in
theorem dX3_busyFor_14 : decode cX3_busyFor 14 = .ok (.iload_n 2, 1) := by decide +kernel
set_option maxRecDepth 20000 in
theorem dX3_busyFor_15 : decode cX3_busyFor 15 = .ok (.iconst 2, 1) := by decide +kernel
set_option maxRecDepth 20000 in
theorem dX3_busyFor_16 : decode cX3_busyFor 16 = .ok (.if_icmp .eq 6, 3) := by decide +kernel
set_option maxRecDepth 20000 in
theorem dX3_busyFor_19 : decode cX3_busyFor 19 = .ok (.bipush (-2), 2) := by decide +kernel
set_option maxRecDepth 20000 in
theorem dX3_busyFor_21 : decode cX3_busyFor 21 = .ok (.ireturn, 1) := by decide +kernel
set_option maxRecDepth 20000 in
theorem dX3_busyFor_22 : decode cX3_busyFor 22 = .ok (.iconst 0, 1) := by decide +kernel
set_option maxRecDepth 20000 in
theorem dX3_busyFor_23 : decode cX3_busyFor 23 = .ok (.istore_n 3, 1) := by decide +kernel
set_option maxRecDepth 20000 in
theorem dX3_busyFor_24 : decode cX3_busyFor 24 = .ok (.iconst 0, 1) := by decide +kernel
set_option maxRecDepth 20000 in
theorem dX3_busyFor_25 : decode cX3_busyFor 25 = .ok (.istore 4, 2) := by decide +kernel
set_option maxRecDepth 20000 in
theorem dX3_busyFor_27 : decode cX3_busyFor 27 = .ok (.iload 4, 2) := by decide +kernel
set_option maxRecDepth 20000 in
theorem dX3_busyFor_29 : decode cX3_busyFor 29 = .ok (.iconst 3, 1) := by decide +kernel
set_option maxRecDepth 20000 in
theorem dX3_busyFor_30 : decode cX3_busyFor 30 = .ok (.if_icmp .ge 30, 3) := by decide +kernel
set_option maxRecDepth 20000 in
theorem dX3_busyFor_33 : decode cX3_busyFor 33 = .ok (.aload_n 0, 1) := by decide +kernel
set_option maxRecDepth 20000 in
theorem dX3_busyFor_34 : decode cX3_busyFor 34 = .ok (.getfield 12, 3) := by decide +kernel
set_option maxRecDepth 20000 in
theorem dX3_busyFor_37 : decode cX3_busyFor 37 = .ok (.iload 4, 2) := by decide +kernel
set_option maxRecDepth 20000 in
theorem dX3_busyFor_39 : decode cX3_busyFor 39 = .ok (.iload_n 1, 1) := by decide +kernel
set_option maxRecDepth 20000 in
theorem dX3_busyFor_40 : decode cX3_busyFor 40 = .ok (.iload_n 2, 1) := by decide +kernel
set_option maxRecDepth 20000 in
theorem dX3_busyFor_41 : decode cX3_busyFor 41 = .ok (.invokevirtual 137, 3) := by decide +kernel
set_option maxRecDepth 20000 in
theorem dX3_busyFor_44 : decode cX3_busyFor 44 = .ok (.ifCond .eq 10, 3) := by decide +kernel
set_option maxRecDepth 20000 in
theorem dX3_busyFor_47 : decode cX3_busyFor 47 = .ok (.iload_n 3, 1) := by decide +kernel
set_option maxRecDepth 20000 in
theorem dX3_busyFor_48 : decode cX3_busyFor 48 = .ok (.iconst 1, 1) := by decide +kernel
set_option maxRecDepth 20000 in
theorem dX3_busyFor_49 : decode cX3_busyFor 49 = .ok (.iload 4, 2) := by decide +kernel
set_option maxRecDepth 20000 in
theorem dX3_busyFor_51 : decode cX3_busyFor 51 = .ok (.ishl, 1) := by decide +kernel
set_option maxRecDepth 20000 in
theorem dX3_busyFor_52 : decode cX3_busyFor 52 = .ok (.ior, 1) := by decide +kernel
set_option maxRecDepth 20000 in
theorem dX3_busyFor_53 : decode cX3_busyFor 53 = .ok (.istore_n 3, 1) := by decide +kernel
set_option maxRecDepth 20000 in
theorem dX3_busyFor_54 : decode cX3_busyFor 54 = .ok (.iinc 4 1, 3) := by decide +kernel
set_option maxRecDepth 20000 in
theorem dX3_busyFor_57 : decode cX3_busyFor 57 = .ok (.goto (-30), 3) := by decide +kernel
set_option maxRecDepth 20000 in
theorem dX3_busyFor_60 : decode cX3_busyFor 60 = .ok (.iload_n 3, 1) := by decide +kernel
set_option maxRecDepth 20000 in
theorem dX3_busyFor_61 : decode cX3_busyFor 61 = .ok (.ireturn, 1) := by decide +kernel
set_option maxRecDepth 20000 in
theorem dX3_session_0 : decode cX3_session 0 = .ok (.iload_n 1, 1) := by decide +kernel
set_option maxRecDepth 20000 in
theorem dX3_session_1 : decode cX3_session 1 = .ok (.invokestatic 125, 3) := by decide +kernel
set_option maxRecDepth 20000 in
theorem dX3_session_4 : decode cX3_session 4 = .ok (.ifCond .ne 5, 3) := by decide +kernel
set_option maxRecDepth 20000 in
theorem dX3_session_7 : decode cX3_session 7 = .ok (.iconst (-1), 1) := by decide +kernel
set_option maxRecDepth 20000 in
theorem dX3_session_8 : decode cX3_session 8 = .ok (.ireturn, 1) := by decide +kernel
set_option maxRecDepth 20000 in
theorem dX3_session_9 : decode cX3_session 9 = .ok (.aload_n 0, 1) := by decide +kernel
set_option maxRecDepth 20000 in
theorem dX3_session_10 : decode cX3_session 10 = .ok (.getfield 12, 3) := by decide +kernel
set_option maxRecDepth 20000 in
theorem dX3_session_13 : decode cX3_session 13 = .ok (.getfield 128, 3) := by decide +kernel
set_option maxRecDepth 20000 in
theorem dX3_session_16 : decode cX3_session 16 = .ok (.iload_n 1, 1) := by decide +kernel
set_option maxRecDepth 20000 in
theorem dX3_session_17 : decode cX3_session 17 = .ok (.aaload, 1) := by decide +kernel
set_option maxRecDepth 20000 in
theorem dX3_session_18 : decode cX3_session 18 = .ok (.astore_n 3, 1) := by decide +kernel
set_option maxRecDepth 20000 in
theorem dX3_session_19 : decode cX3_session 19 = .ok (.iload_n 2, 1) := by decide +kernel
set_option maxRecDepth 20000 in
theorem dX3_session_20 : decode cX3_session 20 = .ok (.tableswitch 75 0 4 #[36, 49, 54, 63, 69], 36) := by decide +kernel
set_option maxRecDepth 20000 in
theorem dX3_session_56 : decode cX3_session 56 = .ok (.aload_n 3, 1) := by decide +kernel
set_option maxRecDepth 20000 in
theorem dX3_session_57 : decode cX3_session 57 = .ok (.invokevirtual 141, 3) := by decide +kernel
set_option maxRecDepth 20000 in
theorem dX3_session_60 : decode cX3_session 60 = .ok (.ifCond .eq 7, 3) := by decide +kernel
set_option maxRecDepth 20000 in
theorem dX3_session_63 : decode cX3_session 63 = .ok (.iconst 1, 1) := by decide +kernel
set_option maxRecDepth 20000 in
theorem dX3_session_64 : decode cX3_session 64 = .ok (.goto 4, 3) := by decide +kernel
set_option maxRecDepth 20000 in
theorem dX3_session_67 : decode cX3_session 67 = .ok (.iconst 0, 1) := by decide +kernel
set_option maxRecDepth 20000 in
theorem dX3_session_68 : decode cX3_session 68 = .ok (.ireturn, 1) := by decide +kernel
set_option maxRecDepth 20000 in
theorem dX3_session_69 : decode cX3_session 69 = .ok (.aload_n 3, 1) := by decide +kernel
set_option maxRecDepth 20000 in
theorem dX3_session_70 : decode cX3_session 70 = .ok (.invokevirtual 145, 3) := by decide +kernel
set_option maxRecDepth 20000 in
theorem dX3_session_73 : decode cX3_session 73 = .ok (.ireturn, 1) := by decide +kernel
set_option maxRecDepth 20000 in
theorem dX3_session_74 : decode cX3_session 74 = .ok (.aload_n 3, 1) := by decide +kernel
set_option maxRecDepth 20000 in
theorem dX3_session_75 : decode cX3_session 75 = .ok (.iconst 0, 1) := by decide +kernel
set_option maxRecDepth 20000 in
theorem dX3_session_76 : decode cX3_session 76 = .ok (.invokevirtual 148, 3) := by decide +kernel
set_option maxRecDepth 20000 in
theorem dX3_session_79 : decode cX3_session 79 = .ok (.invokestatic 151, 3) := by decide +kernel
set_option maxRecDepth 20000 in
theorem dX3_session_82 : decode cX3_session 82 = .ok (.ireturn, 1) := by decide +kernel
set_option maxRecDepth 20000 in
theorem dX3_session_83 : decode cX3_session 83 = .ok (.aload_n 3, 1) := by decide +kernel
set_option maxRecDepth 20000 in
theorem dX3_session_84 : decode cX3_session 84 = .ok (.iconst 1, 1) := by decide +kernel
set_option maxRecDepth 20000 in
theorem dX3_session_85 : decode cX3_session 85 = .ok (.invokevirtual 156, 3) := by decide +kernel
set_option maxRecDepth 20000 in
theorem dX3_session_88 : decode cX3_session 88 = .ok (.ireturn, 1) := by decide +kernel
set_option maxRecDepth 20000 in
theorem dX3_session_89 : decode cX3_session 89 = .ok (.aload_n 3, 1) := by decide +kernel
set_option maxRecDepth 20000 in
theorem dX3_session_90 : decode cX3_session 90 = .ok (.iconst 2, 1) := by decide +kernel
set_option maxRecDepth 20000 in
theorem dX3_session_91 : decode cX3_session 91 = .ok (.invokevirtual 156, 3) := by decide +kernel
set_option maxRecDepth 20000 in
theorem dX3_session_94 : decode cX3_session 94 = .ok (.ireturn, 1) := by decide +kernel
set_option maxRecDepth 20000 in
theorem dX3_session_95 : decode cX3_session 95 = .ok (.bipush (-2), 2) := by decide +kernel
set_option maxRecDepth 20000 in
theorem dX3_session_97 : decode cX3_session 97 = .ok (.ireturn, 1) := by decide +kernel
set_option maxRecDepth 20000 in
theorem dX3_nameOf_0 : decode cX3_nameOf 0 = .ok (.aload_n 0, 1) := by decide +kernel
set_option maxRecDepth 20000 in
theorem dX3_nameOf_1 : decode cX3_nameOf 1 = .ok (.getfield 12, 3) := by decide +kernel
set_option maxRecDepth 20000 in
theorem dX3_nameOf_4 : decode cX3_nameOf 4 = .ok (.iload_n 1, 1) := by decide +kernel
set_option maxRecDepth 20000 in
theorem dX3_nameOf_5 : decode cX3_nameOf 5 = .ok (.iload_n 2, 1) := by decide +kernel
set_option maxRecDepth 20000 in
theorem dX3_nameOf_6 : decode cX3_nameOf 6 = .ok (.invokevirtual 159, 3) := by decide +kernel
set_option maxRecDepth 20000 in
theorem dX3_nameOf_9 : decode cX3_nameOf 9 = .ok (.ifCond .ne 5, 3) := by decide +kernel
set_option maxRecDepth 20000 in
theorem dX3_nameOf_12 : decode cX3_nameOf 12 = .ok (.iconst (-1), 1) := by decide +kernel
set_option maxRecDepth 20000 in
theorem dX3_nameOf_13 : decode cX3_nameOf 13 = .ok (.ireturn, 1) := by decide +kernel
set_option maxRecDepth 20000 in
theorem dX3_nameOf_14 : decode cX3_nameOf 14 = .ok (.aload_n 0, 1) := by decide +kernel
set_option maxRecDepth 20000 in
theorem dX3_nameOf_15 : decode cX3_nameOf 15 = .ok (.getfield 12, 3) := by decide +kernel
set_option maxRecDepth 20000 in
theorem dX3_nameOf_18 : decode cX3_nameOf 18 = .ok (.getfield 128, 3) := by decide +kernel
set_option maxRecDepth 20000 in
theorem dX3_nameOf_21 : decode cX3_nameOf 21 = .ok (.iload_n 1, 1) := by decide +kernel
set_option maxRecDepth 20000 in
theorem dX3_nameOf_22 : decode cX3_nameOf 22 = .ok (.aaload, 1) := by decide +kernel
set_option maxRecDepth 20000 in
theorem dX3_nameOf_23 : decode cX3_nameOf 23 = .ok (.getfield 163, 3) := by decide +kernel
set_option maxRecDepth 20000 in
theorem dX3_nameOf_26 : decode cX3_nameOf 26 = .ok (.iload_n 2, 1) := by decide +kernel
set_option maxRecDepth 20000 in
theorem dX3_nameOf_27 : decode cX3_nameOf 27 = .ok (.iaload, 1) := by decide +kernel
set_option maxRecDepth 20000 in
theorem dX3_nameOf_28 : decode cX3_nameOf 28 = .ok (.ireturn, 1) := by decide +kernel
set_option maxRecDepth 20000 in
theorem dX3_nearest_0 : decode cX3_nearest 0 = .ok (.iload_n 1, 1) := by decide +kernel
set_option maxRecDepth 20000 in
theorem dX3_nearest_1 : decode cX3_nearest 1 = .ok (.invokestatic 125, 3) := by decide +kernel
set_option maxRecDepth 20000 in
theorem dX3_nearest_4 : decode cX3_nearest 4 = .ok (.ifCond .ne 5, 3) := by decide +kernel
set_option maxRecDepth 20000 in
theorem dX3_nearest_7 : decode cX3_nearest 7 = .ok (.iconst (-1), 1) := by decide +kernel
set_option maxRecDepth 20000 in
theorem dX3_nearest_8 : decode cX3_nearest 8 = .ok (.ireturn, 1) := by decide +kernel
set_option maxRecDepth 20000 in
theorem dX3_nearest_9 : decode cX3_nearest 9 = .ok (.iload_n 2, 1) := by decide +kernel
set_option maxRecDepth 20000 in
theorem dX3_nearest_10 : decode cX3_nearest 10 = .ok (.invokestatic 166, 3) := by decide +kernel
set_option maxRecDepth 20000 in
theorem dX3_nearest_13 : decode cX3_nearest 13 = .ok (.ifCond .ne 6, 3) := by decide +kernel
set_option maxRecDepth 20000 in
theorem dX3_nearest_16 : decode cX3_nearest 16 = .ok (.bipush (-2), 2) := by decide +kernel
set_option maxRecDepth 20000 in
theorem dX3_nearest_18 : decode cX3_nearest 18 = .ok (.ireturn, 1) := by decide +kernel
set_option maxRecDepth 20000 in
theorem dX3_nearest_19 : decode cX3_nearest 19 = .ok (.aload_n 0, 1) := by decide +kernel
set_option maxRecDepth 20000 in
theorem dX3_nearest_20 : decode cX3_nearest 20 = .ok (.getfield 12, 3) := by decide +kernel
set_option maxRecDepth 20000 in
theorem dX3_nearest_23 : decode cX3_nearest 23 = .ok (.getfield 128, 3) := by decide +kernel
set_option maxRecDepth 20000 in
theorem dX3_nearest_26 : decode cX3_nearest 26 = .ok (.iload_n 1, 1) := by decide +kernel
set_option maxRecDepth 20000 in
theorem dX3_nearest_27 : decode cX3_nearest 27 = .ok (.aaload, 1) := by decide +kernel
set_option maxRecDepth 20000 in
theorem dX3_nearest_28 : decode cX3_nearest 28 = .ok (.iload_n 2, 1) := by decide +kernel
set_option maxRecDepth 20000 in
theorem dX3_nearest_29 : decode cX3_nearest 29 = .ok (.invokevirtual 169, 3) := by decide +kernel
set_option maxRecDepth 20000 in
theorem dX3_nearest_32 : decode cX3_nearest 32 = .ok (.ireturn, 1) := by decide +kernel
set_option maxRecDepth 20000 in
theorem dX3_changedSince_0 : decode cX3_changedSince 0 = .ok (.aload_n 0, 1) := by decide +kernel
set_option maxRecDepth 20000 in
theorem dX3_changedSince_1 : decode cX3_changedSince 1 = .ok (.getfield 12, 3) := by decide +kernel
set_option maxRecDepth 20000 in
theorem dX3_changedSince_4 : decode cX3_changedSince 4 = .ok (.iload_n 1, 1) := by decide +kernel
set_option maxRecDepth 20000 in
theorem dX3_changedSince_5 : decode cX3_changedSince 5 = .ok (.iload_n 2, 1) := by decide +kernel
set_option maxRecDepth 20000 in
theorem dX3_changedSince_6 : decode cX3_changedSince 6 = .ok (.invokevirtual 159, 3) := by decide +kernel
set_option maxRecDepth 20000 in
theorem dX3_changedSince_9 : decode cX3_changedSince 9 = .ok (.ifCond .ne 5, 3) := by decide +kernel
set_option maxRecDepth 20000 in
theorem dX3_changedSince_12 : decode cX3_changedSince 12 = .ok (.iconst (-1), 1) := by decide +kernel
set_option maxRecDepth 20000 in
theorem dX3_changedSince_13 : decode cX3_changedSince 13 = .ok (.ireturn, 1) := by decide +kernel
set_option maxRecDepth 20000 in
theorem dX3_changedSince_14 : decode cX3_changedSince 14 = .ok (.aload_n 0, 1) := by decide +kernel
set_option maxRecDepth 20000 in
theorem dX3_changedSince_15 : decode cX3_changedSince 15 = .ok (.getfield 12, 3) := by decide +kernel
set_option maxRecDepth 20000 in
theorem dX3_changedSince_18 : decode cX3_changedSince 18 = .ok (.getfield 128, 3) := by decide +kernel
set_option maxRecDepth 20000 in
theorem dX3_changedSince_21 : decode cX3_changedSince 21 = .ok (.iload_n 1, 1) := by decide +kernel
set_option maxRecDepth 20000 in
theorem dX3_changedSince_22 : decode cX3_changedSince 22 = .ok (.aaload, 1) := by decide +kernel
set_option maxRecDepth 20000 in
theorem dX3_changedSince_23 : decode cX3_changedSince 23 = .ok (.astore 4, 2) := by decide +kernel
set_option maxRecDepth 20000 in
theorem dX3_changedSince_25 : decode cX3_changedSince 25 = .ok (.iload_n 2, 1) := by decide +kernel
set_option maxRecDepth 20000 in
theorem dX3_changedSince_26 : decode cX3_changedSince 26 = .ok (.invokestatic 172, 3) := by decide +kernel
set_option maxRecDepth 20000 in
theorem dX3_changedSince_29 : decode cX3_changedSince 29 = .ok (.istore 5, 2) := by decide +kernel
set_option maxRecDepth 20000 in
theorem dX3_changedSince_31 : decode cX3_changedSince 31 = .ok (.iload_n 3, 1) := by decide +kernel
set_option maxRecDepth 20000 in
theorem dX3_changedSince_32 : decode cX3_changedSince 32 = .ok (.ifCond .eq 13, 3) := by decide +kernel
set_option maxRecDepth 20000 in
theorem dX3_changedSince_35 : decode cX3_changedSince 35 = .ok (.aload 4, 2) := by decide +kernel
set_option maxRecDepth 20000 in
theorem dX3_changedSince_37 : decode cX3_changedSince 37 = .ok (.iload 5, 2) := by decide +kernel
set_option maxRecDepth 20000 in
theorem dX3_changedSince_39 : decode cX3_changedSince 39 = .ok (.invokevirtual 175, 3) := by decide +kernel
set_option maxRecDepth 20000 in
theorem dX3_changedSince_42 : decode cX3_changedSince 42 = .ok (.goto 10, 3) := by decide +kernel
set_option maxRecDepth 20000 in
theorem dX3_changedSince_45 : decode cX3_changedSince 45 = .ok (.aload 4, 2) := by decide +kernel
set_option maxRecDepth 20000 in
theorem dX3_changedSince_47 : decode cX3_changedSince 47 = .ok (.iload 5, 2) := by decide +kernel
set_option maxRecDepth 20000 in
theorem dX3_changedSince_49 : decode cX3_changedSince 49 = .ok (.invokevirtual 148, 3) := by decide +kernel
set_option maxRecDepth 20000 in
theorem dX3_changedSince_52 : decode cX3_changedSince 52 = .ok (.ireturn, 1) := by decide +kernel
set_option maxRecDepth 20000 in
theorem dX3_ifUndone_0 : decode cX3_ifUndone 0 = .ok (.iload_n 3, 1) := by decide +kernel
set_option maxRecDepth 20000 in
theorem dX3_ifUndone_1 : decode cX3_ifUndone 1 = .ok (.invokestatic 115, 3) := by decide +kernel
set_option maxRecDepth 20000 in
theorem dX3_ifUndone_4 : decode cX3_ifUndone 4 = .ok (.ifCond .ne 5, 3) := by decide +kernel
set_option maxRecDepth 20000 in
theorem dX3_ifUndone_7 : decode cX3_ifUndone 7 = .ok (.iconst (-1), 1) := by decide +kernel
set_option maxRecDepth 20000 in
theorem dX3_ifUndone_8 : decode cX3_ifUndone 8 = .ok (.ireturn, 1) := by decide +kernel
set_option maxRecDepth 20000 in
theorem dX3_ifUndone_9 : decode cX3_ifUndone 9 = .ok (.aload_n 0, 1) := by decide +kernel
set_option maxRecDepth 20000 in
theorem dX3_ifUndone_10 : decode cX3_ifUndone 10 = .ok (.getfield 12, 3) := by decide +kernel
set_option maxRecDepth 20000 in
theorem dX3_ifUndone_13 : decode cX3_ifUndone 13 = .ok (.iload_n 1, 1) := by decide +kernel
set_option maxRecDepth 20000 in
theorem dX3_ifUndone_14 : decode cX3_ifUndone 14 = .ok (.iload_n 2, 1) := by decide +kernel
set_option maxRecDepth 20000 in
theorem dX3_ifUndone_15 : decode cX3_ifUndone 15 = .ok (.invokevirtual 178, 3) := by decide +kernel
set_option maxRecDepth 20000 in
theorem dX3_ifUndone_18 : decode cX3_ifUndone 18 = .ok (.istore 4, 2) := by decide +kernel
set_option maxRecDepth 20000 in
theorem dX3_ifUndone_20 : decode cX3_ifUndone 20 = .ok (.iload 4, 2) := by decide +kernel
set_option maxRecDepth 20000 in
theorem dX3_ifUndone_22 : decode cX3_ifUndone 22 = .ok (.ifCond .ge 6, 3) := by decide +kernel
set_option maxRecDepth 20000 in
theorem dX3_ifUndone_25 : decode cX3_ifUndone 25 = .ok (.iload 4, 2) := by decide +kernel
set_option maxRecDepth 20000 in
theorem dX3_ifUndone_27 : decode cX3_ifUndone 27 = .ok (.ireturn, 1) := by decide +kernel
set_option maxRecDepth 20000 in
theorem dX3_ifUndone_28 : decode cX3_ifUndone 28 = .ok (.aload_n 0, 1) := by decide +kernel
set_option maxRecDepth 20000 in
theorem dX3_ifUndone_29 : decode cX3_ifUndone 29 = .ok (.getfield 12, 3) := by decide +kernel
set_option maxRecDepth 20000 in
theorem dX3_ifUndone_32 : decode cX3_ifUndone 32 = .ok (.getfield 128, 3) := by decide +kernel
set_option maxRecDepth 20000 in
theorem dX3_ifUndone_35 : decode cX3_ifUndone 35 = .ok (.iload_n 1, 1) := by decide +kernel
set_option maxRecDepth 20000 in
theorem dX3_ifUndone_36 : decode cX3_ifUndone 36 = .ok (.aaload, 1) := by decide +kernel
set_option maxRecDepth 20000 in
theorem dX3_ifUndone_37 : decode cX3_ifUndone 37 = .ok (.iload 4, 2) := by decide +kernel
set_option maxRecDepth 20000 in
theorem dX3_ifUndone_39 : decode cX3_ifUndone 39 = .ok (.invokestatic 172, 3) := by decide +kernel
set_option maxRecDepth 20000 in
theorem dX3_ifUndone_42 : decode cX3_ifUndone 42 = .ok (.iload_n 3, 1) := by decide +kernel
set_option maxRecDepth 20000 in
theorem dX3_ifUndone_43 : decode cX3_ifUndone 43 = .ok (.aload_n 0, 1) := by decide +kernel
set_option maxRecDepth 20000 in
theorem dX3_ifUndone_44 : decode cX3_ifUndone 44 = .ok (.getfield 12, 3) := by decide +kernel
set_option maxRecDepth 20000 in
theorem dX3_ifUndone_47 : decode cX3_ifUndone 47 = .ok (.getfield 118, 3) := by decide +kernel
set_option maxRecDepth 20000 in
theorem dX3_ifUndone_50 : decode cX3_ifUndone 50 = .ok (.iload_n 3, 1) := by decide +kernel
set_option maxRecDepth 20000 in
theorem dX3_ifUndone_51 : decode cX3_ifUndone 51 = .ok (.iaload, 1) := by decide +kernel
set_option maxRecDepth 20000 in
theorem dX3_ifUndone_52 : decode cX3_ifUndone 52 = .ok (.invokevirtual 181, 3) := by decide +kernel
set_option maxRecDepth 20000 in
theorem dX3_ifUndone_55 : decode cX3_ifUndone 55 = .ok (.ireturn, 1) := by decide +kernel
set_option maxRecDepth 20000 in
theorem dX3_total_0 : decode cX3_total 0 = .ok (.iload_n 1, 1) := by decide +kernel
set_option maxRecDepth 20000 in
theorem dX3_total_1 : decode cX3_total 1 = .ok (.ifCond .lt 21, 3) := by decide +kernel
set_option maxRecDepth 20000 in
theorem dX3_total_4 : decode cX3_total 4 = .ok (.iload_n 1, 1) := by decide +kernel
set_option maxRecDepth 20000 in
theorem dX3_total_5 : decode cX3_total 5 = .ok (.bipush 7, 2) := by decide +kernel
set_option maxRecDepth 20000 in
theorem dX3_total_7 : decode cX3_total 7 = .ok (.if_icmp .ge 15, 3) := by decide +kernel
set_option maxRecDepth 20000 in
theorem dX3_total_10 : decode cX3_total 10 = .ok (.aload_n 0, 1) := by decide +kernel
set_option maxRecDepth 20000 in
theorem dX3_total_11 : decode cX3_total 11 = .ok (.getfield 12, 3) := by decide +kernel
set_option maxRecDepth 20000 in
theorem dX3_total_14 : decode cX3_total 14 = .ok (.getfield 184, 3) := by decide +kernel
set_option maxRecDepth 20000 in
theorem dX3_total_17 : decode cX3_total 17 = .ok (.iload_n 1, 1) := by decide +kernel
set_option maxRecDepth 20000 in
theorem dX3_total_18 : decode cX3_total 18 = .ok (.iaload, 1) := by decide +kernel
set_option maxRecDepth 20000 in
theorem dX3_total_19 : decode cX3_total 19 = .ok (.goto 4, 3) := by decide +kernel
set_option maxRecDepth 20000 in
theorem dX3_total_22 : decode cX3_total 22 = .ok (.iconst (-1), 1) := by decide +kernel
set_option maxRecDepth 20000 in
theorem dX3_total_23 : decode cX3_total 23 = .ok (.ireturn, 1) := by decide +kernel
set_option maxRecDepth 20000 in
theorem dX3_mean_0 : decode cX3_mean 0 = .ok (.aload_n 0, 1) := by decide +kernel
set_option maxRecDepth 20000 in
theorem dX3_mean_1 : decode cX3_mean 1 = .ok (.getfield 12, 3) := by decide +kernel
set_option maxRecDepth 20000 in
theorem dX3_mean_4 : decode cX3_mean 4 = .ok (.invokevirtual 112, 3) := by decide +kernel
set_option maxRecDepth 20000 in
theorem dX3_mean_7 : decode cX3_mean 7 = .ok (.istore_n 1, 1) := by decide +kernel
set_option maxRecDepth 20000 in
theorem dX3_mean_8 : decode cX3_mean 8 = .ok (.iload_n 1, 1) := by decide +kernel
set_option maxRecDepth 20000 in
theorem dX3_mean_9 : decode cX3_mean 9 = .ok (.ifCond .le 17, 3) := by decide +kernel
set_option maxRecDepth 20000 in
theorem dX3_mean_12 : decode cX3_mean 12 = .ok (.aload_n 0, 1) := by decide +kernel
set_option maxRecDepth 20000 in
theorem dX3_mean_13 : decode cX3_mean 13 = .ok (.getfield 12, 3) := by decide +kernel
set_option maxRecDepth 20000 in
theorem dX3_mean_16 : decode cX3_mean 16 = .ok (.invokevirtual 187, 3) := by decide +kernel
set_option maxRecDepth 20000 in
theorem dX3_mean_19 : decode cX3_mean 19 = .ok (.i2d, 1) := by decide +kernel
set_option maxRecDepth 20000 in
theorem dX3_mean_20 : decode cX3_mean 20 = .ok (.iload_n 1, 1) := by decide +kernel
set_option maxRecDepth 20000 in
theorem dX3_mean_21 : decode cX3_mean 21 = .ok (.i2d, 1) := by decide +kernel
set_option maxRecDepth 20000 in
theorem dX3_mean_22 : decode cX3_mean 22 = .ok (.ddiv, 1) := by decide +kernel
set_option maxRecDepth 20000 in
theorem dX3_mean_23 : decode cX3_mean 23 = .ok (.goto 4, 3) := by decide +kernel
set_option maxRecDepth 20000 in
theorem dX3_mean_26 : decode cX3_mean 26 = .ok (.dconst 0, 1) := by decide +kernel
set_option maxRecDepth 20000 in
theorem dX3_mean_27 : decode cX3_mean 27 = .ok (.dreturn, 1) := by decide +kernel
set_option maxRecDepth 20000 in
theorem dX3_slotBehindHistory_0 : decode cX3_slotBehindHistory 0 = .ok (.aload_n 0, 1) := by decide +kernel
set_option maxRecDepth 20000 in
theorem dX3_slotBehindHistory_1 : decode cX3_slotBehindHistory 1 = .ok (.getfield 190, 3) := by decide +kernel
set_option maxRecDepth 20000 in
theorem dX3_slotBehindHistory_4 : decode cX3_slotBehindHistory 4 = .ok (.aload_n 0, 1) := by decide +kernel
set_option maxRecDepth 20000 in
theorem dX3_slotBehindHistory_5 : decode cX3_slotBehindHistory 5 = .ok (.getfield 99, 3) := by decide +kernel
set_option maxRecDepth 20000 in
theorem dX3_slotBehindHistory_8 : decode cX3_slotBehindHistory 8 = .ok (.iadd, 1) := by decide +kernel
set_option maxRecDepth 20000 in
theorem dX3_slotBehindHistory_9 : decode cX3_slotBehindHistory 9 = .ok (.bipush 6, 2) := by decide +kernel
set_option maxRecDepth 20000 in
theorem dX3_slotBehindHistory_11 : decode cX3_slotBehindHistory 11 = .ok (.irem, 1) := by decide +kernel
set_option maxRecDepth 20000 in
theorem dX3_slotBehindHistory_12 : decode cX3_slotBehindHistory 12 = .ok (.ireturn, 1) := by decide +kernel
set_option maxRecDepth 20000 in
theorem dX3_rememberState_0 : decode cX3_rememberState 0 = .ok (.aload_n 0, 1) := by decide +kernel
set_option maxRecDepth 20000 in
theorem dX3_rememberState_1 : decode cX3_rememberState 1 = .ok (.getfield 19, 3) := by decide +kernel
set_option maxRecDepth 20000 in
theorem dX3_rememberState_4 : decode cX3_rememberState 4 = .ok (.aload_n 0, 1) := by decide +kernel
set_option maxRecDepth 20000 in
theorem dX3_rememberState_5 : decode cX3_rememberState 5 = .ok (.invokevirtual 102, 3) := by decide +kernel
set_option maxRecDepth 20000 in
theorem dX3_rememberState_8 : decode cX3_rememberState 8 = .ok (.aaload, 1) := by decide +kernel
set_option maxRecDepth 20000 in
theorem dX3_rememberState_9 : decode cX3_rememberState 9 = .ok (.aload_n 0, 1) := by decide +kernel
set_option maxRecDepth 20000 in
theorem dX3_rememberState_10 : decode cX3_rememberState 10 = .ok (.getfield 12, 3) := by decide +kernel
set_option maxRecDepth 20000 in
theorem dX3_rememberState_13 : decode cX3_rememberState 13 = .ok (.invokevirtual 105, 3) := by decide +kernel
set_option maxRecDepth 20000 in
theorem dX3_rememberState_16 : decode cX3_rememberState 16 = .ok (.return_, 1) := by decide +kernel
set_option maxRecDepth 20000 in
theorem dX3_recordUnlessError_0 : decode cX3_recordUnlessError 0 = .ok (.iload_n 1, 1) := by decide +kernel
set_option maxRecDepth 20000 in
theorem dX3_recordUnlessError_1 : decode cX3_recordUnlessError 1 = .ok (.invokestatic 96, 3) := by decide +kernel
set_option maxRecDepth 20000 in
theorem dX3_recordUnlessError_4 : decode cX3_recordUnlessError 4 = .ok (.ifCond .eq 5, 3) := by decide +kernel
set_option maxRecDepth 20000 in
theorem dX3_recordUnlessError_7 : decode cX3_recordUnlessError 7 = .ok (.iload_n 1, 1) := by decide +kernel
set_option maxRecDepth 20000 in
theorem dX3_recordUnlessError_8 : decode cX3_recordUnlessError 8 = .ok (.ireturn, 1) := by decide +kernel
set_option maxRecDepth 20000 in
theorem dX3_recordUnlessError_9 : decode cX3_recordUnlessError 9 = .ok (.aload_n 0, 1) := by decide +kernel
set_option maxRecDepth 20000 in
theorem dX3_recordUnlessError_10 : decode cX3_recordUnlessError 10 = .ok (.getfield 99, 3) := by decide +kernel
set_option maxRecDepth 20000 in
theorem dX3_recordUnlessError_13 : decode cX3_recordUnlessError 13 = .ok (.iconst 5, 1) := by decide +kernel
set_option maxRecDepth 20000 in
theorem dX3_recordUnlessError_14 : decode cX3_recordUnlessError 14 = .ok (.if_icmp .ge 16, 3) := by decide +kernel
set_option maxRecDepth 20000 in
theorem dX3_recordUnlessError_17 : decode cX3_recordUnlessError 17 = .ok (.aload_n 0, 1) := by decide +kernel
set_option maxRecDepth 20000 in
theorem dX3_recordUnlessError_18 : decode cX3_recordUnlessError 18 = .ok (.dup, 1) := by decide +kernel
set_option maxRecDepth 20000 in
theorem dX3_recordUnlessError_19 : decode cX3_recordUnlessError 19 = .ok (.getfield 99, 3) := by decide +kernel
set_option maxRecDepth 20000 in
theorem dX3_recordUnlessError_22 : decode cX3_recordUnlessError 22 = .ok (.iconst 1, 1) := by decide +kernel
set_option maxRecDepth 20000 in
theorem dX3_recordUnlessError_23 : decode cX3_recordUnlessError 23 = .ok (.iadd, 1) := by decide +kernel
set_option maxRecDepth 20000 in
theorem dX3_recordUnlessError_24 : decode cX3_recordUnlessError 24 = .ok (.putfield 99, 3) := by decide +kernel
set_option maxRecDepth 20000 in
theorem dX3_recordUnlessError_27 : decode cX3_recordUnlessError 27 = .ok (.goto 16, 3) := by decide +kernel
set_option maxRecDepth 20000 in
theorem dX3_recordUnlessError_30 : decode cX3_recordUnlessError 30 = .ok (.aload_n 0, 1) := by decide +kernel
set_option maxRecDepth 20000 in
theorem dX3_recordUnlessError_31 : decode cX3_recordUnlessError 31 = .ok (.aload_n 0, 1) := by decide +kernel
set_option maxRecDepth 20000 in
theorem dX3_recordUnlessError_32 : decode cX3_recordUnlessError 32 = .ok (.getfield 190, 3) := by decide +kernel
set_option maxRecDepth 20000 in
theorem dX3_recordUnlessError_35 : decode cX3_recordUnlessError 35 = .ok (.iconst 1, 1) := by decide +kernel
set_option maxRecDepth 20000 in
theorem dX3_recordUnlessError_36 : decode cX3_recordUnlessError 36 = .ok (.iadd, 1) := by decide +kernel
set_option maxRecDepth 20000 in
theorem dX3_recordUnlessError_37 : decode cX3_recordUnlessError 37 = .ok (.bipush 6, 2) := by decide +kernel
set_option maxRecDepth 20000 in
theorem dX3_recordUnlessError_39 : decode cX3_recordUnlessError 39 = .ok (.irem, 1) := by decide +kernel
set_option maxRecDepth 20000 in
theorem dX3_recordUnlessError_40 : decode cX3_recordUnlessError 40 = .ok (.putfield 190, 3) := by decide +kernel
set_option maxRecDepth 20000 in
theorem dX3_recordUnlessError_43 : decode cX3_recordUnlessError 43 = .ok (.iload_n 1, 1) := by decide +kernel
set_option maxRecDepth 20000 in
theorem dX3_recordUnlessError_44 : decode cX3_recordUnlessError 44 = .ok (.ireturn, 1) := by decide +kernel
set_option maxRecDepth 20000 in
theorem dX3_isError_0 : decode cX3_isError 0 = .ok (.iload_n 0, 1) := by decide +kernel
set_option maxRecDepth 20000 in
theorem dX3_isError_1 : decode cX3_isError 1 = .ok (.ifCond .ge 25, 3) := by decide +kernel
set_option maxRecDepth 20000 in
theorem dX3_isError_4 : decode cX3_isError 4 = .ok (.iload_n 0, 1) := by decide +kernel
set_option maxRecDepth 20000 in
theorem dX3_isError_5 : decode cX3_isError 5 = .ok (.bipush (-5), 2) := by decide +kernel
set_option maxRecDepth 20000 in
theorem dX3_isError_7 : decode cX3_isError 7 = .ok (.if_icmp .eq 19, 3) := by decide +kernel
set_option maxRecDepth 20000 in
theorem dX3_isError_10 : decode cX3_isError 10 = .ok (.iload_n 0, 1) := by decide +kernel
set_option maxRecDepth 20000 in
theorem dX3_isError_11 : decode cX3_isError 11 = .ok (.bipush (-6), 2) := by decide +kernel
set_option maxRecDepth 20000 in
theorem dX3_isError_13 : decode cX3_isError 13 = .ok (.if_icmp .eq 13, 3) := by decide +kernel
set_option maxRecDepth 20000 in
theorem dX3_isError_16 : decode cX3_isError 16 = .ok (.iload_n 0, 1) := by decide +kernel
set_option maxRecDepth 20000 in
theorem dX3_isError_17 : decode cX3_isError 17 = .ok (.bipush (-7), 2) := by decide +kernel
set_option maxRecDepth 20000 in
theorem dX3_isError_19 : decode cX3_isError 19 = .ok (.if_icmp .eq 7, 3) := by decide +kernel
set_option maxRecDepth 20000 in
theorem dX3_isError_22 : decode cX3_isError 22 = .ok (.iconst 1, 1) := by decide +kernel
set_option maxRecDepth 20000 in
theorem dX3_isError_23 : decode cX3_isError 23 = .ok (.goto 4, 3) := by decide +kernel
set_option maxRecDepth 20000 in
theorem dX3_isError_26 : decode cX3_isError 26 = .ok (.iconst 0, 1) := by decide +kernel
set_option maxRecDepth 20000 in
theorem dX3_isError_27 : decode cX3_isError 27 = .ok (.ireturn, 1) := by decide +kernel
set_option maxRecDepth 20000 in
theorem dX3_isSession_0 : decode cX3_isSession 0 = .ok (.iload_n 0, 1) := by decide +kernel
set_option maxRecDepth 20000 in
theorem dX3_isSession_1 : decode cX3_isSession 1 = .ok (.ifCond .lt 12, 3) := by decide +kernel
set_option maxRecDepth 20000 in
theorem dX3_isSession_4 : decode cX3_isSession 4 = .ok (.iload_n 0, 1) := by decide +kernel
set_option maxRecDepth 20000 in
theorem dX3_isSession_5 : decode cX3_isSession 5 = .ok (.iconst 3, 1) := by decide +kernel
set_option maxRecDepth 20000 in
theorem dX3_isSession_6 : decode cX3_isSession 6 = .ok (.if_icmp .ge 7, 3) := by decide +kernel
set_option maxRecDepth 20000 in
theorem dX3_isSession_9 : decode cX3_isSession 9 = .ok (.iconst 1, 1) := by decide +kernel
set_option maxRecDepth 20000 in
theorem dX3_isSession_10 : decode cX3_isSession 10 = .ok (.goto 4, 3) := by decide +kernel
set_option maxRecDepth 20000 in
theorem dX3_isSession_13 : decode cX3_isSession 13 = .ok (.iconst 0, 1) := by decide +kernel
set_option maxRecDepth 20000 in
theorem dX3_isSession_14 : decode cX3_isSession 14 = .ok (.ireturn, 1) := by decide +kernel
set_option maxRecDepth 20000 in
theorem dX3_isKey_0 : decode cX3_isKey 0 = .ok (.iload_n 0, 1) := by decide +kernel
set_option maxRecDepth 20000 in
theorem dX3_isKey_1 : decode cX3_isKey 1 = .ok (.ifCond .lt 13, 3) := by decide +kernel
set_option maxRecDepth 20000 in
theorem dX3_isKey_4 : decode cX3_isKey 4 = .ok (.iload_n 0, 1) := by decide +kernel
set_option maxRecDepth 20000 in
theorem dX3_isKey_5 : decode cX3_isKey 5 = .ok (.bipush 16, 2) := by decide +kernel
set_option maxRecDepth 20000 in
theorem dX3_isKey_7 : decode cX3_isKey 7 = .ok (.if_icmp .ge 7, 3) := by decide +kernel
set_option maxRecDepth 20000 in
theorem dX3_isKey_10 : decode cX3_isKey 10 = .ok (.iconst 1, 1) := by decide +kernel
set_option maxRecDepth 20000 in
theorem dX3_isKey_11 : decode cX3_isKey 11 = .ok (.goto 4, 3) := by decide +kernel
set_option maxRecDepth 20000 in
theorem dX3_isKey_14 : decode cX3_isKey 14 = .ok (.iconst 0, 1) := by decide +kernel
set_option maxRecDepth 20000 in
theorem dX3_isKey_15 : decode cX3_isKey 15 = .ok (.ireturn, 1) := by decide +kernel
set_option maxRecDepth 20000 in
theorem dX3_isName_0 : decode cX3_isName 0 = .ok (.iload_n 0, 1) := by decide +kernel
set_option maxRecDepth 20000 in
theorem dX3_isName_1 : decode cX3_isName 1 = .ok (.ifCond .lt 13, 3) := by decide +kernel
set_option maxRecDepth 20000 in
theorem dX3_isName_4 : decode cX3_isName 4 = .ok (.iload_n 0, 1) := by decide +kernel
set_option maxRecDepth 20000 in
theorem dX3_isName_5 : decode cX3_isName 5 = .ok (.bipush 8, 2) := by decide +kernel
set_option maxRecDepth 20000 in
theorem dX3_isName_7 : decode cX3_isName 7 = .ok (.if_icmp .ge 7, 3) := by decide +kernel
set_option maxRecDepth 20000 in
theorem dX3_isName_10 : decode cX3_isName 10 = .ok (.iconst 1, 1) := by decide +kernel
set_option maxRecDepth 20000 in
theorem dX3_isName_11 : decode cX3_isName 11 = .ok (.goto 4, 3) := by decide +kernel
set_option maxRecDepth 20000 in
theorem dX3_isName_14 : decode cX3_isName 14 = .ok (.iconst 0, 1) := by decide +kernel
set_option maxRecDepth 20000 in
theorem dX3_isName_15 : decode cX3_isName 15 = .ok (.ireturn, 1) := by decide +kernel
set_option maxRecDepth 20000 in
theorem dX3_isValue_0 : decode cX3_isValue 0 = .ok (.iload_n 0, 1) := by decide +kernel
set_option maxRecDepth 20000 in
theorem dX3_isValue_1 : decode cX3_isValue 1 = .ok (.ifCond .lt 14, 3) := by decide +kernel
set_option maxRecDepth 20000 in
theorem dX3_isValue_4 : decode cX3_isValue 4 = .ok (.iload_n 0, 1) := by decide +kernel
set_option maxRecDepth 20000 in
theorem dX3_isValue_5 : decode cX3_isValue 5 = .ok (.sipush 9999, 3) := by decide +kernel
set_option maxRecDepth 20000 in
theorem dX3_isValue_8 : decode cX3_isValue 8 = .ok (.if_icmp .gt 7, 3) := by decide +kernel
set_option maxRecDepth 20000 in
theorem dX3_isValue_11 : decode cX3_isValue 11 = .ok (.iconst 1, 1) := by decide +kernel
set_option maxRecDepth 20000 in
theorem dX3_isValue_12 : decode cX3_isValue 12 = .ok (.goto 4, 3) := by decide +kernel
set_option maxRecDepth 20000 in
theorem dX3_isValue_15 : decode cX3_isValue 15 = .ok (.iconst 0, 1) := by decide +kernel
set_option maxRecDepth 20000 in
theorem dX3_isValue_16 : decode cX3_isValue 16 = .ok (.ireturn, 1) := by decide +kernel
set_option maxRecDepth 20000 in
theorem dX3_momentOf_0 : decode cX3_momentOf 0 = .ok (.iload_n 0, 1) := by decide +kernel
set_option maxRecDepth 20000 in
theorem dX3_momentOf_1 : decode cX3_momentOf 1 = .ok (.iconst 1, 1) := by decide +kernel
set_option maxRecDepth 20000 in
theorem dX3_momentOf_2 : decode cX3_momentOf 2 = .ok (.iadd, 1) := by decide +kernel
set_option maxRecDepth 20000 in
theorem dX3_momentOf_3 : decode cX3_momentOf 3 = .ok (.ireturn, 1) := by decide +kernel
set_option maxRecDepth 20000 in
theorem dJ6_bitCount_0f7a4_0 : decode cJ6_bitCount_0f7a4 0 = .ok (.iload_n 0, 1) := by decide +kernel
set_option maxRecDepth 20000 in
theorem dJ6_bitCount_0f7a4_1 : decode cJ6_bitCount_0f7a4 1 = .ok (.iload_n 0, 1) := by decide +kernel
set_option maxRecDepth 20000 in
theorem dJ6_bitCount_0f7a4_2 : decode cJ6_bitCount_0f7a4 2 = .ok (.iconst 1, 1) := by decide +kernel
set_option maxRecDepth 20000 in
theorem dJ6_bitCount_0f7a4_3 : decode cJ6_bitCount_0f7a4 3 = .ok (.iushr, 1) := by decide +kernel
set_option maxRecDepth 20000 in
theorem dJ6_bitCount_0f7a4_4 : decode cJ6_bitCount_0f7a4 4 = .ok (.ldc_w 265, 3) := by decide +kernel
set_option maxRecDepth 20000 in
theorem dJ6_bitCount_0f7a4_7 : decode cJ6_bitCount_0f7a4 7 = .ok (.iand, 1) := by decide +kernel
set_option maxRecDepth 20000 in
theorem dJ6_bitCount_0f7a4_8 : decode cJ6_bitCount_0f7a4 8 = .ok (.isub, 1) := by decide +kernel
set_option maxRecDepth 20000 in
theorem dJ6_bitCount_0f7a4_9 : decode cJ6_bitCount_0f7a4 9 = .ok (.istore_n 0, 1) := by decide +kernel
set_option maxRecDepth 20000 in
theorem dJ6_bitCount_0f7a4_10 : decode cJ6_bitCount_0f7a4 10 = .ok (.iload_n 0, 1) := by decide +kernel
set_option maxRecDepth 20000 in
theorem dJ6_bitCount_0f7a4_11 : decode cJ6_bitCount_0f7a4 11 = .ok (.ldc_w 266, 3) := by decide +kernel
set_option maxRecDepth 20000 in
theorem dJ6_bitCount_0f7a4_14 : decode cJ6_bitCount_0f7a4 14 = .ok (.iand, 1) := by decide +kernel
set_option maxRecDepth 20000 in
theorem dJ6_bitCount_0f7a4_15 : decode cJ6_bitCount_0f7a4 15 = .ok (.iload_n 0, 1) := by decide +kernel
set_option maxRecDepth 20000 in
theorem dJ6_bitCount_0f7a4_16 : decode cJ6_bitCount_0f7a4 16 = .ok (.iconst 2, 1) := by decide +kernel
set_option maxRecDepth 20000 in
theorem dJ6_bitCount_0f7a4_17 : decode cJ6_bitCount_0f7a4 17 = .ok (.iushr, 1) := by decide +kernel
set_option maxRecDepth 20000 in
theorem dJ6_bitCount_0f7a4_18 : decode cJ6_bitCount_0f7a4 18 = .ok (.ldc_w 266, 3) := by decide +kernel
set_option maxRecDepth 20000 in
theorem dJ6_bitCount_0f7a4_21 : decode cJ6_bitCount_0f7a4 21 = .ok (.iand, 1) := by decide +kernel
set_option maxRecDepth 20000 in
theorem dJ6_bitCount_0f7a4_22 : decode cJ6_bitCount_0f7a4 22 = .ok (.iadd, 1) := by decide +kernel
set_option maxRecDepth 20000 in
theorem dJ6_bitCount_0f7a4_23 : decode cJ6_bitCount_0f7a4 23 = .ok (.istore_n 0, 1) := by decide +kernel
set_option maxRecDepth 20000 in
theorem dJ6_bitCount_0f7a4_24 : decode cJ6_bitCount_0f7a4 24 = .ok (.iload_n 0, 1) := by decide +kernel
set_option maxRecDepth 20000 in
theorem dJ6_bitCount_0f7a4_25 : decode cJ6_bitCount_0f7a4 25 = .ok (.iload_n 0, 1) := by decide +kernel
set_option maxRecDepth 20000 in
theorem dJ6_bitCount_0f7a4_26 : decode cJ6_bitCount_0f7a4 26 = .ok (.iconst 4, 1) := by decide +kernel
set_option maxRecDepth 20000 in
theorem dJ6_bitCount_0f7a4_27 : decode cJ6_bitCount_0f7a4 27 = .ok (.iushr, 1) := by decide +kernel
set_option maxRecDepth 20000 in
theorem dJ6_bitCount_0f7a4_28 : decode cJ6_bitCount_0f7a4 28 = .ok (.iadd, 1) := by decide +kernel
set_option maxRecDepth 20000 in
theorem dJ6_bitCount_0f7a4_29 : decode cJ6_bitCount_0f7a4 29 = .ok (.ldc_w 267, 3) := by decide +kernel
set_option maxRecDepth 20000 in
theorem dJ6_bitCount_0f7a4_32 : decode cJ6_bitCount_0f7a4 32 = .ok (.iand, 1) := by decide +kernel
set_option maxRecDepth 20000 in
theorem dJ6_bitCount_0f7a4_33 : decode cJ6_bitCount_0f7a4 33 = .ok (.istore_n 0, 1) := by decide +kernel
set_option maxRecDepth 20000 in
theorem dJ6_bitCount_0f7a4_34 : decode cJ6_bitCount_0f7a4 34 = .ok (.iload_n 0, 1) := by decide +kernel
set_option maxRecDepth 20000 in
theorem dJ6_bitCount_0f7a4_35 : decode cJ6_bitCount_0f7a4 35 = .ok (.iload_n 0, 1) := by decide +kernel
set_option maxRecDepth 20000 in
theorem dJ6_bitCount_0f7a4_36 : decode cJ6_bitCount_0f7a4 36 = .ok (.bipush 8, 2) := by decide +kernel
set_option maxRecDepth 20000 in
theorem dJ6_bitCount_0f7a4_38 : decode cJ6_bitCount_0f7a4 38 = .ok (.iushr, 1) := by decide +kernel
set_option maxRecDepth 20000 in
theorem dJ6_bitCount_0f7a4_39 : decode cJ6_bitCount_0f7a4 39 = .ok (.iadd, 1) := by decide +kernel
set_option maxRecDepth 20000 in
theorem dJ6_bitCount_0f7a4_40 : decode cJ6_bitCount_0f7a4 40 = .ok (.istore_n 0, 1) := by decide +kernel
set_option maxRecDepth 20000 in
theorem dJ6_bitCount_0f7a4_41 : decode cJ6_bitCount_0f7a4 41 = .ok (.iload_n 0, 1) := by decide +kernel
set_option maxRecDepth 20000 in
theorem dJ6_bitCount_0f7a4_42 : decode cJ6_bitCount_0f7a4 42 = .ok (.iload_n 0, 1) := by decide +kernel
set_option maxRecDepth 20000 in
theorem dJ6_bitCount_0f7a4_43 : decode cJ6_bitCount_0f7a4 43 = .ok (.bipush 16, 2) := by decide +kernel
set_option maxRecDepth 20000 in
theorem dJ6_bitCount_0f7a4_45 : decode cJ6_bitCount_0f7a4 45 = .ok (.iushr, 1) := by decide +kernel
set_option maxRecDepth 20000 in
theorem dJ6_bitCount_0f7a4_46 : decode cJ6_bitCount_0f7a4 46 = .ok (.iadd, 1) := by decide +kernel
set_option maxRecDepth 20000 in
theorem dJ6_bitCount_0f7a4_47 : decode cJ6_bitCount_0f7a4 47 = .ok (.istore_n 0, 1) := by decide +kernel
set_option maxRecDepth 20000 in
theorem dJ6_bitCount_0f7a4_48 : decode cJ6_bitCount_0f7a4 48 = .ok (.iload_n 0, 1) := by decide +kernel
set_option maxRecDepth 20000 in
theorem dJ6_bitCount_0f7a4_49 : decode cJ6_bitCount_0f7a4 49 = .ok (.bipush 63, 2) := by decide +kernel
set_option maxRecDepth 20000 in
theorem dJ6_bitCount_0f7a4_51 : decode cJ6_bitCount_0f7a4 51 = .ok (.iand, 1) := by decide +kernel
set_option maxRecDepth 20000 in
theorem dJ6_bitCount_0f7a4_52 : decode cJ6_bitCount_0f7a4 52 = .ok (.ireturn, 1) := by decide +kernel
set_option maxRecDepth 20000 in
theorem dJ9_max_7cf53_0 : decode cJ9_max_7cf53 0 = .ok (.iload_n 0, 1) := by decide +kernel
set_option maxRecDepth 20000 in
theorem dJ9_max_7cf53_1 : decode cJ9_max_7cf53 1 = .ok (.iload_n 1, 1) := by decide +kernel
set_option maxRecDepth 20000 in
theorem dJ9_max_7cf53_2 : decode cJ9_max_7cf53 2 = .ok (.if_icmp .lt 7, 3) := by decide +kernel
set_option maxRecDepth 20000 in
theorem dJ9_max_7cf53_5 : decode cJ9_max_7cf53 5 = .ok (.iload_n 0, 1) := by decide +kernel
set_option maxRecDepth 20000 in
theorem dJ9_max_7cf53_6 : decode cJ9_max_7cf53 6 = .ok (.goto 4, 3) := by decide +kernel
set_option maxRecDepth 20000 in
theorem dJ9_max_7cf53_9 : decode cJ9_max_7cf53 9 = .ok (.iload_n 1, 1) := by decide +kernel
set_option maxRecDepth 20000 in
theorem dJ9_max_7cf53_10 : decode cJ9_max_7cf53 10 = .ok (.ireturn, 1) := by decide +kernel
set_option maxRecDepth 20000 in
theorem dJ9_min_7cf53_0 : decode cJ9_min_7cf53 0 = .ok (.iload_n 0, 1) := by decide +kernel
set_option maxRecDepth 20000 in
theorem dJ9_min_7cf53_1 : decode cJ9_min_7cf53 1 = .ok (.iload_n 1, 1) := by decide +kernel
set_option maxRecDepth 20000 in
theorem dJ9_min_7cf53_2 : decode cJ9_min_7cf53 2 = .ok (.if_icmp .gt 7, 3) := by decide +kernel
set_option maxRecDepth 20000 in
theorem dJ9_min_7cf53_5 : decode cJ9_min_7cf53 5 = .ok (.iload_n 0, 1) := by decide +kernel
set_option maxRecDepth 20000 in
theorem dJ9_min_7cf53_6 : decode cJ9_min_7cf53 6 = .ok (.goto 4, 3) := by decide +kernel
set_option maxRecDepth 20000 in
theorem dJ9_min_7cf53_9 : decode cJ9_min_7cf53 9 = .ok (.iload_n 1, 1) := by decide +kernel
set_option maxRecDepth 20000 in
theorem dJ9_min_7cf53_10 : decode cJ9_min_7cf53 10 = .ok (.ireturn, 1) := by decide +kernel
end
section
set_option maxRecDepth 20000 in
theorem dL_cell_0 : decode cL_cell 0 = .ok (.iload_n 1, 1) := by decide +kernel
set_option maxRecDepth 20000 in
theorem dL_cell_1 : decode cL_cell 1 = .ok (.aload_n 0, 1) := by decide +kernel
set_option maxRecDepth 20000 in
theorem dL_cell_2 : decode cL_cell 2 = .ok (.arraylength, 1) := by decide +kernel
set_option maxRecDepth 20000 in
theorem dL_cell_3 : decode cL_cell 3 = .ok (.if_icmp .ge 9, 3) := by decide +kernel
set_option maxRecDepth 20000 in
theorem dL_cell_6 : decode cL_cell 6 = .ok (.aload_n 0, 1) := by decide +kernel
set_option maxRecDepth 20000 in
theorem dL_cell_7 : decode cL_cell 7 = .ok (.iload_n 1, 1) := by decide +kernel
set_option maxRecDepth 20000 in
theorem dL_cell_8 : decode cL_cell 8 = .ok (.iaload, 1) := by decide +kernel
set_option maxRecDepth 20000 in
theorem dL_cell_9 : decode cL_cell 9 = .ok (.goto 12, 3) := by decide +kernel
set_option maxRecDepth 20000 in
theorem dL_cell_12 : decode cL_cell 12 = .ok (.ldc 7, 2) := by decide +kernel
set_option maxRecDepth 20000 in
theorem dL_cell_14 : decode cL_cell 14 = .ok (.iload_n 1, 1) := by decide +kernel
set_option maxRecDepth 20000 in
theorem dL_cell_15 : decode cL_cell 15 = .ok (.iconst 5, 1) := by decide +kernel
set_option maxRecDepth 20000 in
theorem dL_cell_16 : decode cL_cell 16 = .ok (.iadd, 1) := by decide +kernel
set_option maxRecDepth 20000 in
theorem dL_cell_17 : decode cL_cell 17 = .ok (.imul, 1) := by decide +kernel
set_option maxRecDepth 20000 in
theorem dL_cell_18 : decode cL_cell 18 = .ok (.ldc 8, 2) := by decide +kernel
set_option maxRecDepth 20000 in
theorem dL_cell_20 : decode cL_cell 20 = .ok (.iadd, 1) := by decide +kernel
set_option maxRecDepth 20000 in
theorem dL_cell_21 : decode cL_cell 21 = .ok (.ireturn, 1) := by decide +kernel
set_option maxRecDepth 20000 in
theorem dL_low_0 : decode cL_low 0 = .ok (.iload_n 0, 1) := by decide +kernel
set_option maxRecDepth 20000 in
theorem dL_low_1 : decode cL_low 1 = .ok (.ldc 9, 2) := by decide +kernel
set_option maxRecDepth 20000 in
theorem dL_low_3 : decode cL_low 3 = .ok (.iand, 1) := by decide +kernel
set_option maxRecDepth 20000 in
theorem dL_low_4 : decode cL_low 4 = .ok (.iload_n 1, 1) := by decide +kernel
set_option maxRecDepth 20000 in
theorem dL_low_5 : decode cL_low 5 = .ok (.irem, 1) := by decide +kernel
set_option maxRecDepth 20000 in
theorem dL_low_6 : decode cL_low 6 = .ok (.ireturn, 1) := by decide +kernel
set_option maxRecDepth 20000 in
theorem dL_look_0 : decode cL_look 0 = .ok (.iconst 0, 1) := by decide +kernel
set_option maxRecDepth 20000 in
theorem dL_look_1 : decode cL_look 1 = .ok (.istore_n 3, 1) := by decide +kernel
set_option maxRecDepth 20000 in
theorem dL_look_2 : decode cL_look 2 = .ok (.iload_n 3, 1) := by decide +kernel
set_option maxRecDepth 20000 in
theorem dL_look_3 : decode cL_look 3 = .ok (.bipush 16, 2) := by decide +kernel
set_option maxRecDepth 20000 in
theorem dL_look_5 : decode cL_look 5 = .ok (.if_icmp .ge 59, 3) := by decide +kernel
set_option maxRecDepth 20000 in
theorem dL_look_8 : decode cL_look 8 = .ok (.aload_n 1, 1) := by decide +kernel
set_option maxRecDepth 20000 in
theorem dL_look_9 : decode cL_look 9 = .ok (.iload_n 3, 1) := by decide +kernel
set_option maxRecDepth 20000 in
theorem dL_look_10 : decode cL_look 10 = .ok (.aload_n 0, 1) := by decide +kernel
set_option maxRecDepth 20000 in
theorem dL_look_11 : decode cL_look 11 = .ok (.iload_n 3, 1) := by decide +kernel
set_option maxRecDepth 20000 in
theorem dL_look_12 : decode cL_look 12 = .ok (.invokevirtual 10, 3) := by decide +kernel
set_option maxRecDepth 20000 in
theorem dL_look_15 : decode cL_look 15 = .ok (.iastore, 1) := by decide +kernel
set_option maxRecDepth 20000 in
theorem dL_look_16 : decode cL_look 16 = .ok (.aload_n 1, 1) := by decide +kernel
set_option maxRecDepth 20000 in
theorem dL_look_17 : decode cL_look 17 = .ok (.bipush 16, 2) := by decide +kernel
set_option maxRecDepth 20000 in
theorem dL_look_19 : decode cL_look 19 = .ok (.iload_n 3, 1) := by decide +kernel
set_option maxRecDepth 20000 in
theorem dL_look_20 : decode cL_look 20 = .ok (.iadd, 1) := by decide +kernel
set_option maxRecDepth 20000 in
theorem dL_look_21 : decode cL_look 21 = .ok (.aload_n 0, 1) := by decide +kernel
set_option maxRecDepth 20000 in
theorem dL_look_22 : decode cL_look 22 = .ok (.iload_n 3, 1) := by decide +kernel
set_option maxRecDepth 20000 in
theorem dL_look_23 : decode cL_look 23 = .ok (.invokevirtual 16, 3) := by decide +kernel
set_option maxRecDepth 20000 in
theorem dL_look_26 : decode cL_look 26 = .ok (.iastore, 1) := by decide +kernel
set_option maxRecDepth 20000 in
theorem dL_look_27 : decode cL_look 27 = .ok (.iconst 0, 1) := by decide +kernel
set_option maxRecDepth 20000 in
theorem dL_look_28 : decode cL_look 28 = .ok (.istore 4, 2) := by decide +kernel
set_option maxRecDepth 20000 in
theorem dL_look_30 : decode cL_look 30 = .ok (.iload 4, 2) := by decide +kernel
set_option maxRecDepth 20000 in
theorem dL_look_32 : decode cL_look 32 = .ok (.iconst 3, 1) := by decide +kernel
set_option maxRecDepth 20000 in
theorem dL_look_33 : decode cL_look 33 = .ok (.if_icmp .ge 25, 3) := by decide +kernel
set_option maxRecDepth 20000 in
theorem dL_look_36 : decode cL_look 36 = .ok (.aload_n 2, 1) := by decide +kernel
set_option maxRecDepth 20000 in
theorem dL_look_37 : decode cL_look 37 = .ok (.bipush 16, 2) := by decide +kernel
set_option maxRecDepth 20000 in
theorem dL_look_39 : decode cL_look 39 = .ok (.iload 4, 2) := by decide +kernel
set_option maxRecDepth 20000 in
theorem dL_look_41 : decode cL_look 41 = .ok (.imul, 1) := by decide +kernel
set_option maxRecDepth 20000 in
theorem dL_look_42 : decode cL_look 42 = .ok (.iload_n 3, 1) := by decide +kernel
set_option maxRecDepth 20000 in
theorem dL_look_43 : decode cL_look 43 = .ok (.iadd, 1) := by decide +kernel
set_option maxRecDepth 20000 in
theorem dL_look_44 : decode cL_look 44 = .ok (.aload_n 0, 1) := by decide +kernel
set_option maxRecDepth 20000 in
theorem dL_look_45 : decode cL_look 45 = .ok (.iload 4, 2) := by decide +kernel
set_option maxRecDepth 20000 in
theorem dL_look_47 : decode cL_look 47 = .ok (.iload_n 3, 1) := by decide +kernel
set_option maxRecDepth 20000 in
theorem dL_look_48 : decode cL_look 48 = .ok (.invokevirtual 19, 3) := by decide +kernel
set_option maxRecDepth 20000 in
theorem dL_look_51 : decode cL_look 51 = .ok (.iastore, 1) := by decide +kernel
set_option maxRecDepth 20000 in
theorem dL_look_52 : decode cL_look 52 = .ok (.iinc 4 1, 3) := by decide +kernel
set_option maxRecDepth 20000 in
theorem dL_look_55 : decode cL_look 55 = .ok (.goto (-25), 3) := by decide +kernel
set_option maxRecDepth 20000 in
theorem dL_look_58 : decode cL_look 58 = .ok (.iinc 3 1, 3) := by decide +kernel
set_option maxRecDepth 20000 in
theorem dL_look_61 : decode cL_look 61 = .ok (.goto (-59), 3) := by decide +kernel
set_option maxRecDepth 20000 in
theorem dL_look_64 : decode cL_look 64 = .ok (.return_, 1) := by decide +kernel
set_option maxRecDepth 20000 in
theorem dL_areValues_0 : decode cL_areValues 0 = .ok (.iconst 1, 1) := by decide +kernel
set_option maxRecDepth 20000 in
theorem dL_areValues_1 : decode cL_areValues 1 = .ok (.istore_n 2, 1) := by decide +kernel
set_option maxRecDepth 20000 in
theorem dL_areValues_2 : decode cL_areValues 2 = .ok (.iconst 0, 1) := by decide +kernel
set_option maxRecDepth 20000 in
theorem dL_areValues_3 : decode cL_areValues 3 = .ok (.istore_n 3, 1) := by decide +kernel
set_option maxRecDepth 20000 in
theorem dL_areValues_4 : decode cL_areValues 4 = .ok (.iload_n 3, 1) := by decide +kernel
set_option maxRecDepth 20000 in
theorem dL_areValues_5 : decode cL_areValues 5 = .ok (.bipush 16, 2) := by decide +kernel
set_option maxRecDepth 20000 in
theorem dL_areValues_7 : decode cL_areValues 7 = .ok (.if_icmp .ge 30, 3) := by decide +kernel
set_option maxRecDepth 20000 in
theorem dL_areValues_10 : decode cL_areValues 10 = .ok (.iload_n 2, 1) := by decide +kernel
set_option maxRecDepth 20000 in
theorem dL_areValues_11 : decode cL_areValues 11 = .ok (.ifCond .eq 18, 3) := by decide +kernel
set_option maxRecDepth 20000 in
theorem dL_areValues_14 : decode cL_areValues 14 = .ok (.aload_n 0, 1) := by decide +kernel
set_option maxRecDepth 20000 in
theorem dL_areValues_15 : decode cL_areValues 15 = .ok (.iload_n 3, 1) := by decide +kernel
set_option maxRecDepth 20000 in
theorem dL_areValues_16 : decode cL_areValues 16 = .ok (.invokevirtual 10, 3) := by decide +kernel
set_option maxRecDepth 20000 in
theorem dL_areValues_19 : decode cL_areValues 19 = .ok (.aload_n 1, 1) := by decide +kernel
set_option maxRecDepth 20000 in
theorem dL_areValues_20 : decode cL_areValues 20 = .ok (.iload_n 3, 1) := by decide +kernel
set_option maxRecDepth 20000 in
theorem dL_areValues_21 : decode cL_areValues 21 = .ok (.iaload, 1) := by decide +kernel
set_option maxRecDepth 20000 in
theorem dL_areValues_22 : decode cL_areValues 22 = .ok (.if_icmp .ne 7, 3) := by decide +kernel
set_option maxRecDepth 20000 in
theorem dL_areValues_25 : decode cL_areValues 25 = .ok (.iconst 1, 1) := by decide +kernel
set_option maxRecDepth 20000 in
theorem dL_areValues_26 : decode cL_areValues 26 = .ok (.goto 4, 3) := by decide +kernel
set_option maxRecDepth 20000 in
theorem dL_areValues_29 : decode cL_areValues 29 = .ok (.iconst 0, 1) := by decide +kernel
set_option maxRecDepth 20000 in
theorem dL_areValues_30 : decode cL_areValues 30 = .ok (.istore_n 2, 1) := by decide +kernel
set_option maxRecDepth 20000 in
theorem dL_areValues_31 : decode cL_areValues 31 = .ok (.iinc 3 1, 3) := by decide +kernel
set_option maxRecDepth 20000 in
theorem dL_areValues_34 : decode cL_areValues 34 = .ok (.goto (-30), 3) := by decide +kernel
set_option maxRecDepth 20000 in
theorem dL_areValues_37 : decode cL_areValues 37 = .ok (.iload_n 2, 1) := by decide +kernel
set_option maxRecDepth 20000 in
theorem dL_areValues_38 : decode cL_areValues 38 = .ok (.ireturn, 1) := by decide +kernel
set_option maxRecDepth 20000 in
theorem dL_otherModes_0 : decode cL_otherModes 0 = .ok (.iconst 0, 1) := by decide +kernel
set_option maxRecDepth 20000 in
theorem dL_otherModes_1 : decode cL_otherModes 1 = .ok (.istore_n 3, 1) := by decide +kernel
set_option maxRecDepth 20000 in
theorem dL_otherModes_2 : decode cL_otherModes 2 = .ok (.iconst 0, 1) := by decide +kernel
set_option maxRecDepth 20000 in
theorem dL_otherModes_3 : decode cL_otherModes 3 = .ok (.istore 4, 2) := by decide +kernel
set_option maxRecDepth 20000 in
theorem dL_otherModes_5 : decode cL_otherModes 5 = .ok (.iload 4, 2) := by decide +kernel
set_option maxRecDepth 20000 in
theorem dL_otherModes_7 : decode cL_otherModes 7 = .ok (.bipush 48, 2) := by decide +kernel
set_option maxRecDepth 20000 in
theorem dL_otherModes_9 : decode cL_otherModes 9 = .ok (.if_icmp .ge 47, 3) := by decide +kernel
set_option maxRecDepth 20000 in
theorem dL_otherModes_12 : decode cL_otherModes 12 = .ok (.iload_n 3, 1) := by decide +kernel
set_option maxRecDepth 20000 in
theorem dL_otherModes_13 : decode cL_otherModes 13 = .ok (.iload 4, 2) := by decide +kernel
set_option maxRecDepth 20000 in
theorem dL_otherModes_15 : decode cL_otherModes 15 = .ok (.bipush 16, 2) := by decide +kernel
set_option maxRecDepth 20000 in
theorem dL_otherModes_17 : decode cL_otherModes 17 = .ok (.idiv, 1) := by decide +kernel
set_option maxRecDepth 20000 in
theorem dL_otherModes_18 : decode cL_otherModes 18 = .ok (.iload_n 2, 1) := by decide +kernel
set_option maxRecDepth 20000 in
theorem dL_otherModes_19 : decode cL_otherModes 19 = .ok (.if_icmp .eq 28, 3) := by decide +kernel
set_option maxRecDepth 20000 in
theorem dL_otherModes_22 : decode cL_otherModes 22 = .ok (.aload_n 0, 1) := by decide +kernel
set_option maxRecDepth 20000 in
theorem dL_otherModes_23 : decode cL_otherModes 23 = .ok (.iload 4, 2) := by decide +kernel
set_option maxRecDepth 20000 in
theorem dL_otherModes_25 : decode cL_otherModes 25 = .ok (.bipush 16, 2) := by decide +kernel
set_option maxRecDepth 20000 in
theorem dL_otherModes_27 : decode cL_otherModes 27 = .ok (.idiv, 1) := by decide +kernel
set_option maxRecDepth 20000 in
theorem dL_otherModes_28 : decode cL_otherModes 28 = .ok (.iload 4, 2) := by decide +kernel
set_option maxRecDepth 20000 in
theorem dL_otherModes_30 : decode cL_otherModes 30 = .ok (.bipush 16, 2) := by decide +kernel
set_option maxRecDepth 20000 in
theorem dL_otherModes_32 : decode cL_otherModes 32 = .ok (.irem, 1) := by decide +kernel
set_option maxRecDepth 20000 in
theorem dL_otherModes_33 : decode cL_otherModes 33 = .ok (.invokevirtual 19, 3) := by decide +kernel
set_option maxRecDepth 20000 in
theorem dL_otherModes_36 : decode cL_otherModes 36 = .ok (.aload_n 1, 1) := by decide +kernel
set_option maxRecDepth 20000 in
theorem dL_otherModes_37 : decode cL_otherModes 37 = .ok (.iload 4, 2) := by decide +kernel
set_option maxRecDepth 20000 in
theorem dL_otherModes_39 : decode cL_otherModes 39 = .ok (.iaload, 1) := by decide +kernel
set_option maxRecDepth 20000 in
theorem dL_otherModes_40 : decode cL_otherModes 40 = .ok (.if_icmp .eq 7, 3) := by decide +kernel
set_option maxRecDepth 20000 in
theorem dL_otherModes_43 : decode cL_otherModes 43 = .ok (.iconst 1, 1) := by decide +kernel
set_option maxRecDepth 20000 in
theorem dL_otherModes_44 : decode cL_otherModes 44 = .ok (.goto 4, 3) := by decide +kernel
set_option maxRecDepth 20000 in
theorem dL_otherModes_47 : decode cL_otherModes 47 = .ok (.iconst 0, 1) := by decide +kernel
set_option maxRecDepth 20000 in
theorem dL_otherModes_48 : decode cL_otherModes 48 = .ok (.iadd, 1) := by decide +kernel
set_option maxRecDepth 20000 in
theorem dL_otherModes_49 : decode cL_otherModes 49 = .ok (.istore_n 3, 1) := by decide +kernel
set_option maxRecDepth 20000 in
theorem dL_otherModes_50 : decode cL_otherModes 50 = .ok (.iinc 4 1, 3) := by decide +kernel
set_option maxRecDepth 20000 in
theorem dL_otherModes_53 : decode cL_otherModes 53 = .ok (.goto (-48), 3) := by decide +kernel
set_option maxRecDepth 20000 in
theorem dL_otherModes_56 : decode cL_otherModes 56 = .ok (.iload_n 3, 1) := by decide +kernel
set_option maxRecDepth 20000 in
theorem dL_otherModes_57 : decode cL_otherModes 57 = .ok (.ireturn, 1) := by decide +kernel
set_option maxRecDepth 20000 in
theorem dL_isSession_0 : decode cL_isSession 0 = .ok (.aload_n 0, 1) := by decide +kernel
set_option maxRecDepth 20000 in
theorem dL_isSession_1 : decode cL_isSession 1 = .ok (.iload_n 1, 1) := by decide +kernel
set_option maxRecDepth 20000 in
theorem dL_isSession_2 : decode cL_isSession 2 = .ok (.iconst 1, 1) := by decide +kernel
set_option maxRecDepth 20000 in
theorem dL_isSession_3 : decode cL_isSession 3 = .ok (.invokevirtual 23, 3) := by decide +kernel
set_option maxRecDepth 20000 in
theorem dL_isSession_6 : decode cL_isSession 6 = .ok (.istore_n 2, 1) := by decide +kernel
set_option maxRecDepth 20000 in
theorem dL_isSession_7 : decode cL_isSession 7 = .ok (.iconst 0, 1) := by decide +kernel
set_option maxRecDepth 20000 in
theorem dL_isSession_8 : decode cL_isSession 8 = .ok (.istore_n 3, 1) := by decide +kernel
set_option maxRecDepth 20000 in
theorem dL_isSession_9 : decode cL_isSession 9 = .ok (.iconst 0, 1) := by decide +kernel
set_option maxRecDepth 20000 in
theorem dL_isSession_10 : decode cL_isSession 10 = .ok (.istore 4, 2) := by decide +kernel
set_option maxRecDepth 20000 in
theorem dL_isSession_12 : decode cL_isSession 12 = .ok (.aload_n 0, 1) := by decide +kernel
set_option maxRecDepth 20000 in
theorem dL_isSession_13 : decode cL_isSession 13 = .ok (.iload_n 1, 1) := by decide +kernel
set_option maxRecDepth 20000 in
theorem dL_isSession_14 : decode cL_isSession 14 = .ok (.iconst 0, 1) := by decide +kernel
set_option maxRecDepth 20000 in
theorem dL_isSession_15 : decode cL_isSession 15 = .ok (.invokevirtual 23, 3) := by decide +kernel
set_option maxRecDepth 20000 in
theorem dL_isSession_18 : decode cL_isSession 18 = .ok (.iconst 1, 1) := by decide +kernel
set_option maxRecDepth 20000 in
theorem dL_isSession_19 : decode cL_isSession 19 = .ok (.if_icmp .ne 7, 3) := by decide +kernel
set_option maxRecDepth 20000 in
theorem dL_isSession_22 : decode cL_isSession 22 = .ok (.iconst 1, 1) := by decide +kernel
set_option maxRecDepth 20000 in
theorem dL_isSession_23 : decode cL_isSession 23 = .ok (.goto 4, 3) := by decide +kernel
set_option maxRecDepth 20000 in
theorem dL_isSession_26 : decode cL_isSession 26 = .ok (.iconst 0, 1) := by decide +kernel
set_option maxRecDepth 20000 in
theorem dL_isSession_27 : decode cL_isSession 27 = .ok (.istore 5, 2) := by decide +kernel
set_option maxRecDepth 20000 in
theorem dL_isSession_29 : decode cL_isSession 29 = .ok (.iload_n 2, 1) := by decide +kernel
set_option maxRecDepth 20000 in
theorem dL_isSession_30 : decode cL_isSession 30 = .ok (.ifCond .lt 31, 3) := by decide +kernel
set_option maxRecDepth 20000 in
theorem dL_isSession_33 : decode cL_isSession 33 = .ok (.iload_n 2, 1) := by decide +kernel
set_option maxRecDepth 20000 in
theorem dL_isSession_34 : decode cL_isSession 34 = .ok (.bipush 12, 2) := by decide +kernel
set_option maxRecDepth 20000 in
theorem dL_isSession_36 : decode cL_isSession 36 = .ok (.if_icmp .gt 25, 3) := by decide +kernel
set_option maxRecDepth 20000 in
theorem dL_isSession_39 : decode cL_isSession 39 = .ok (.iload 5, 2) := by decide +kernel
set_option maxRecDepth 20000 in
theorem dL_isSession_41 : decode cL_isSession 41 = .ok (.ifCond .ne 16, 3) := by decide +kernel
set_option maxRecDepth 20000 in
theorem dL_isSession_44 : decode cL_isSession 44 = .ok (.iload_n 2, 1) := by decide +kernel
set_option maxRecDepth 20000 in
theorem dL_isSession_45 : decode cL_isSession 45 = .ok (.ifCond .ne 16, 3) := by decide +kernel
set_option maxRecDepth 20000 in
theorem dL_isSession_48 : decode cL_isSession 48 = .ok (.aload_n 0, 1) := by decide +kernel
set_option maxRecDepth 20000 in
theorem dL_isSession_49 : decode cL_isSession 49 = .ok (.iload_n 1, 1) := by decide +kernel
set_option maxRecDepth 20000 in
theorem dL_isSession_50 : decode cL_isSession 50 = .ok (.iconst 2, 1) := by decide +kernel
set_option maxRecDepth 20000 in
theorem dL_isSession_51 : decode cL_isSession 51 = .ok (.invokevirtual 23, 3) := by decide +kernel
set_option maxRecDepth 20000 in
theorem dL_isSession_54 : decode cL_isSession 54 = .ok (.ifCond .ne 7, 3) := by decide +kernel
set_option maxRecDepth 20000 in
theorem dL_isSession_57 : decode cL_isSession 57 = .ok (.iconst 1, 1) := by decide +kernel
set_option maxRecDepth 20000 in
theorem dL_isSession_58 : decode cL_isSession 58 = .ok (.goto 4, 3) := by decide +kernel
set_option maxRecDepth 20000 in
theorem dL_isSession_61 : decode cL_isSession 61 = .ok (.iconst 0, 1) := by decide +kernel
set_option maxRecDepth 20000 in
theorem dL_isSession_62 : decode cL_isSession 62 = .ok (.istore 6, 2) := by decide +kernel
set_option maxRecDepth 20000 in
theorem dL_isSession_64 : decode cL_isSession 64 = .ok (.iconst 0, 1) := by decide +kernel
set_option maxRecDepth 20000 in
theorem dL_isSession_65 : decode cL_isSession 65 = .ok (.istore 7, 2) := by decide +kernel
set_option maxRecDepth 20000 in
theorem dL_isSession_67 : decode cL_isSession 67 = .ok (.iload 7, 2) := by decide +kernel
set_option maxRecDepth 20000 in
theorem dL_isSession_69 : decode cL_isSession 69 = .ok (.bipush 16, 2) := by decide +kernel
set_option maxRecDepth 20000 in
theorem dL_isSession_71 : decode cL_isSession 71 = .ok (.if_icmp .ge 49, 3) := by decide +kernel
set_option maxRecDepth 20000 in
theorem dL_isSession_74 : decode cL_isSession 74 = .ok (.iload_n 3, 1) := by decide +kernel
set_option maxRecDepth 20000 in
theorem dL_isSession_75 : decode cL_isSession 75 = .ok (.aload_n 0, 1) := by decide +kernel
set_option maxRecDepth 20000 in
theorem dL_isSession_76 : decode cL_isSession 76 = .ok (.iload_n 1, 1) := by decide +kernel
set_option maxRecDepth 20000 in
theorem dL_isSession_77 : decode cL_isSession 77 = .ok (.iload 7, 2) := by decide +kernel
set_option maxRecDepth 20000 in
theorem dL_isSession_79 : decode cL_isSession 79 = .ok (.invokevirtual 19, 3) := by decide +kernel
set_option maxRecDepth 20000 in
theorem dL_isSession_82 : decode cL_isSession 82 = .ok (.iconst 1, 1) := by decide +kernel
set_option maxRecDepth 20000 in
theorem dL_isSession_83 : decode cL_isSession 83 = .ok (.if_icmp .ne 7, 3) := by decide +kernel
set_option maxRecDepth 20000 in
theorem dL_isSession_86 : decode cL_isSession 86 = .ok (.iconst 1, 1) := by decide +kernel
set_option maxRecDepth 20000 in
theorem dL_isSession_87 : decode cL_isSession 87 = .ok (.goto 4, 3) := by decide +kernel
set_option maxRecDepth 20000 in
theorem dL_isSession_90 : decode cL_isSession 90 = .ok (.iconst 0, 1) := by decide +kernel
set_option maxRecDepth 20000 in
theorem dL_isSession_91 : decode cL_isSession 91 = .ok (.iadd, 1) := by decide +kernel
set_option maxRecDepth 20000 in
theorem dL_isSession_92 : decode cL_isSession 92 = .ok (.istore_n 3, 1) := by decide +kernel
set_option maxRecDepth 20000 in
theorem dL_isSession_93 : decode cL_isSession 93 = .ok (.iload 4, 2) := by decide +kernel
set_option maxRecDepth 20000 in
theorem dL_isSession_95 : decode cL_isSession 95 = .ok (.aload_n 0, 1) := by decide +kernel
set_option maxRecDepth 20000 in
theorem dL_isSession_96 : decode cL_isSession 96 = .ok (.iload_n 1, 1) := by decide +kernel
set_option maxRecDepth 20000 in
theorem dL_isSession_97 : decode cL_isSession 97 = .ok (.iload 7, 2) := by decide +kernel
set_option maxRecDepth 20000 in
theorem dL_isSession_99 : decode cL_isSession 99 = .ok (.invokevirtual 19, 3) := by decide +kernel
set_option maxRecDepth 20000 in
theorem dL_isSession_102 : decode cL_isSession 102 = .ok (.iconst 2, 1) := by decide +kernel
set_option maxRecDepth 20000 in
theorem dL_isSession_103 : decode cL_isSession 103 = .ok (.if_icmp .ne 7, 3) := by decide +kernel
set_option maxRecDepth 20000 in
theorem dL_isSession_106 : decode cL_isSession 106 = .ok (.iconst 1, 1) := by decide +kernel
set_option maxRecDepth 20000 in
theorem dL_isSession_107 : decode cL_isSession 107 = .ok (.goto 4, 3) := by decide +kernel
set_option maxRecDepth 20000 in
theorem dL_isSession_110 : decode cL_isSession 110 = .ok (.iconst 0, 1) := by decide +kernel
set_option maxRecDepth 20000 in
theorem dL_isSession_111 : decode cL_isSession 111 = .ok (.iadd, 1) := by decide +kernel
set_option maxRecDepth 20000 in
theorem dL_isSession_112 : decode cL_isSession 112 = .ok (.istore 4, 2) := by decide +kernel
set_option maxRecDepth 20000 in
theorem dL_isSession_114 : decode cL_isSession 114 = .ok (.iinc 7 1, 3) := by decide +kernel
set_option maxRecDepth 20000 in
theorem dL_isSession_117 : decode cL_isSession 117 = .ok (.goto (-50), 3) := by decide +kernel
set_option maxRecDepth 20000 in
theorem dL_isSession_120 : decode cL_isSession 120 = .ok (.iload 6, 2) := by decide +kernel
set_option maxRecDepth 20000 in
theorem dL_isSession_122 : decode cL_isSession 122 = .ok (.ifCond .eq 51, 3) := by decide +kernel
set_option maxRecDepth 20000 in
theorem dL_isSession_125 : decode cL_isSession 125 = .ok (.aload_n 0, 1) := by decide +kernel
set_option maxRecDepth 20000 in
theorem dL_isSession_126 : decode cL_isSession 126 = .ok (.iload_n 1, 1) := by decide +kernel
set_option maxRecDepth 20000 in
theorem dL_isSession_127 : decode cL_isSession 127 = .ok (.iconst 3, 1) := by decide +kernel
set_option maxRecDepth 20000 in
theorem dL_isSession_128 : decode cL_isSession 128 = .ok (.invokevirtual 23, 3) := by decide +kernel
set_option maxRecDepth 20000 in
theorem dL_isSession_131 : decode cL_isSession 131 = .ok (.iload_n 3, 1) := by decide +kernel
set_option maxRecDepth 20000 in
theorem dL_isSession_132 : decode cL_isSession 132 = .ok (.if_icmp .ne 41, 3) := by decide +kernel
set_option maxRecDepth 20000 in
theorem dL_isSession_135 : decode cL_isSession 135 = .ok (.aload_n 0, 1) := by decide +kernel
set_option maxRecDepth 20000 in
theorem dL_isSession_136 : decode cL_isSession 136 = .ok (.iload_n 1, 1) := by decide +kernel
set_option maxRecDepth 20000 in
theorem dL_isSession_137 : decode cL_isSession 137 = .ok (.iconst 4, 1) := by decide +kernel
set_option maxRecDepth 20000 in
theorem dL_isSession_138 : decode cL_isSession 138 = .ok (.invokevirtual 23, 3) := by decide +kernel
set_option maxRecDepth 20000 in
theorem dL_isSession_141 : decode cL_isSession 141 = .ok (.iload 4, 2) := by decide +kernel
set_option maxRecDepth 20000 in
theorem dL_isSession_143 : decode cL_isSession 143 = .ok (.if_icmp .ne 30, 3) := by decide +kernel
set_option maxRecDepth 20000 in
theorem dL_isSession_146 : decode cL_isSession 146 = .ok (.iload 5, 2) := by decide +kernel
set_option maxRecDepth 20000 in
theorem dL_isSession_148 : decode cL_isSession 148 = .ok (.ifCond .ne 10, 3) := by decide +kernel
set_option maxRecDepth 20000 in
theorem dL_isSession_151 : decode cL_isSession 151 = .ok (.iload_n 3, 1) := by decide +kernel
set_option maxRecDepth 20000 in
theorem dL_isSession_152 : decode cL_isSession 152 = .ok (.iload 4, 2) := by decide +kernel
set_option maxRecDepth 20000 in
theorem dL_isSession_154 : decode cL_isSession 154 = .ok (.iadd, 1) := by decide +kernel
set_option maxRecDepth 20000 in
theorem dL_isSession_155 : decode cL_isSession 155 = .ok (.ifCond .ne 18, 3) := by decide +kernel
set_option maxRecDepth 20000 in
theorem dL_isSession_158 : decode cL_isSession 158 = .ok (.aload_n 0, 1) := by decide +kernel
set_option maxRecDepth 20000 in
theorem dL_isSession_159 : decode cL_isSession 159 = .ok (.iload_n 1, 1) := by decide +kernel
set_option maxRecDepth 20000 in
theorem dL_isSession_160 : decode cL_isSession 160 = .ok (.iconst 2, 1) := by decide +kernel
set_option maxRecDepth 20000 in
theorem dL_isSession_161 : decode cL_isSession 161 = .ok (.invokevirtual 23, 3) := by decide +kernel
set_option maxRecDepth 20000 in
theorem dL_isSession_164 : decode cL_isSession 164 = .ok (.iload 4, 2) := by decide +kernel
set_option maxRecDepth 20000 in
theorem dL_isSession_166 : decode cL_isSession 166 = .ok (.if_icmp .gt 7, 3) := by decide +kernel
set_option maxRecDepth 20000 in
theorem dL_isSession_169 : decode cL_isSession 169 = .ok (.iconst 1, 1) := by decide +kernel
set_option maxRecDepth 20000 in
theorem dL_isSession_170 : decode cL_isSession 170 = .ok (.goto 4, 3) := by decide +kernel
set_option maxRecDepth 20000 in
theorem dL_isSession_173 : decode cL_isSession 173 = .ok (.iconst 0, 1) := by decide +kernel
set_option maxRecDepth 20000 in
theorem dL_isSession_174 : decode cL_isSession 174 = .ok (.istore 6, 2) := by decide +kernel
set_option maxRecDepth 20000 in
theorem dL_isSession_176 : decode cL_isSession 176 = .ok (.iconst 0, 1) := by decide +kernel
set_option maxRecDepth 20000 in
theorem dL_isSession_177 : decode cL_isSession 177 = .ok (.istore 7, 2) := by decide +kernel
set_option maxRecDepth 20000 in
theorem dL_isSession_179 : decode cL_isSession 179 = .ok (.iload 7, 2) := by decide +kernel
set_option maxRecDepth 20000 in
theorem dL_isSession_181 : decode cL_isSession 181 = .ok (.iload_n 2, 1) := by decide +kernel
set_option maxRecDepth 20000 in
theorem dL_isSession_182 : decode cL_isSession 182 = .ok (.if_icmp .ge 156, 3) := by decide +kernel
set_option maxRecDepth 20000 in
theorem dL_isSession_185 : decode cL_isSession 185 = .ok (.iload 6, 2) := by decide +kernel
set_option maxRecDepth 20000 in
theorem dL_isSession_187 : decode cL_isSession 187 = .ok (.ifCond .eq 151, 3) := by decide +kernel
set_option maxRecDepth 20000 in
theorem dL_isSession_190 : decode cL_isSession 190 = .ok (.aload_n 0, 1) := by decide +kernel
set_option maxRecDepth 20000 in
theorem dL_isSession_191 : decode cL_isSession 191 = .ok (.iload_n 1, 1) := by decide +kernel
set_option maxRecDepth 20000 in
theorem dL_isSession_192 : decode cL_isSession 192 = .ok (.iload 7, 2) := by decide +kernel
set_option maxRecDepth 20000 in
theorem dL_isSession_194 : decode cL_isSession 194 = .ok (.iconst 0, 1) := by decide +kernel
set_option maxRecDepth 20000 in
theorem dL_isSession_195 : decode cL_isSession 195 = .ok (.invokevirtual 26, 3) := by decide +kernel
set_option maxRecDepth 20000 in
theorem dL_isSession_198 : decode cL_isSession 198 = .ok (.istore 8, 2) := by decide +kernel
set_option maxRecDepth 20000 in
theorem dL_isSession_200 : decode cL_isSession 200 = .ok (.aload_n 0, 1) := by decide +kernel
set_option maxRecDepth 20000 in
theorem dL_isSession_201 : decode cL_isSession 201 = .ok (.iload_n 1, 1) := by decide +kernel
set_option maxRecDepth 20000 in
theorem dL_isSession_202 : decode cL_isSession 202 = .ok (.iload 7, 2) := by decide +kernel
set_option maxRecDepth 20000 in
theorem dL_isSession_204 : decode cL_isSession 204 = .ok (.iconst 1, 1) := by decide +kernel
set_option maxRecDepth 20000 in
theorem dL_isSession_205 : decode cL_isSession 205 = .ok (.invokevirtual 26, 3) := by decide +kernel
set_option maxRecDepth 20000 in
theorem dL_isSession_208 : decode cL_isSession 208 = .ok (.istore 9, 2) := by decide +kernel
set_option maxRecDepth 20000 in
theorem dL_isSession_210 : decode cL_isSession 210 = .ok (.iload 8, 2) := by decide +kernel
set_option maxRecDepth 20000 in
theorem dL_isSession_212 : decode cL_isSession 212 = .ok (.ifCond .lt 68, 3) := by decide +kernel
set_option maxRecDepth 20000 in
theorem dL_isSession_215 : decode cL_isSession 215 = .ok (.iload 7, 2) := by decide +kernel
set_option maxRecDepth 20000 in
theorem dL_isSession_217 : decode cL_isSession 217 = .ok (.iconst 1, 1) := by decide +kernel
set_option maxRecDepth 20000 in
theorem dL_isSession_218 : decode cL_isSession 218 = .ok (.iadd, 1) := by decide +kernel
set_option maxRecDepth 20000 in
theorem dL_isSession_219 : decode cL_isSession 219 = .ok (.iload_n 2, 1) := by decide +kernel
set_option maxRecDepth 20000 in
theorem dL_isSession_220 : decode cL_isSession 220 = .ok (.if_icmp .eq 39, 3) := by decide +kernel
set_option maxRecDepth 20000 in
theorem dL_isSession_223 : decode cL_isSession 223 = .ok (.aload_n 0, 1) := by decide +kernel
set_option maxRecDepth 20000 in
theorem dL_isSession_224 : decode cL_isSession 224 = .ok (.iload_n 1, 1) := by decide +kernel
set_option maxRecDepth 20000 in
theorem dL_isSession_225 : decode cL_isSession 225 = .ok (.iload 7, 2) := by decide +kernel
set_option maxRecDepth 20000 in
theorem dL_isSession_227 : decode cL_isSession 227 = .ok (.iconst 1, 1) := by decide +kernel
set_option maxRecDepth 20000 in
theorem dL_isSession_228 : decode cL_isSession 228 = .ok (.iadd, 1) := by decide +kernel
set_option maxRecDepth 20000 in
theorem dL_isSession_229 : decode cL_isSession 229 = .ok (.iconst 0, 1) := by decide +kernel
set_option maxRecDepth 20000 in
theorem dL_isSession_230 : decode cL_isSession 230 = .ok (.invokevirtual 26, 3) := by decide +kernel
set_option maxRecDepth 20000 in
theorem dL_isSession_233 : decode cL_isSession 233 = .ok (.iload 8, 2) := by decide +kernel
set_option maxRecDepth 20000 in
theorem dL_isSession_235 : decode cL_isSession 235 = .ok (.iconst (-1), 1) := by decide +kernel
set_option maxRecDepth 20000 in
theorem dL_isSession_236 : decode cL_isSession 236 = .ok (.ixor, 1) := by decide +kernel
set_option maxRecDepth 20000 in
theorem dL_isSession_237 : decode cL_isSession 237 = .ok (.iand, 1) := by decide +kernel
set_option maxRecDepth 20000 in
theorem dL_isSession_238 : decode cL_isSession 238 = .ok (.ifCond .ne 42, 3) := by decide +kernel
set_option maxRecDepth 20000 in
theorem dL_isSession_241 : decode cL_isSession 241 = .ok (.aload_n 0, 1) := by decide +kernel
set_option maxRecDepth 20000 in
theorem dL_isSession_242 : decode cL_isSession 242 = .ok (.iload_n 1, 1) := by decide +kernel
set_option maxRecDepth 20000 in
theorem dL_isSession_243 : decode cL_isSession 243 = .ok (.iload 7, 2) := by decide +kernel
set_option maxRecDepth 20000 in
theorem dL_isSession_245 : decode cL_isSession 245 = .ok (.iconst 1, 1) := by decide +kernel
set_option maxRecDepth 20000 in
theorem dL_isSession_246 : decode cL_isSession 246 = .ok (.iadd, 1) := by decide +kernel
set_option maxRecDepth 20000 in
theorem dL_isSession_247 : decode cL_isSession 247 = .ok (.iconst 1, 1) := by decide +kernel
set_option maxRecDepth 20000 in
theorem dL_isSession_248 : decode cL_isSession 248 = .ok (.invokevirtual 26, 3) := by decide +kernel
set_option maxRecDepth 20000 in
theorem dL_isSession_251 : decode cL_isSession 251 = .ok (.iload 9, 2) := by decide +kernel
set_option maxRecDepth 20000 in
theorem dL_isSession_253 : decode cL_isSession 253 = .ok (.iconst (-1), 1) := by decide +kernel
set_option maxRecDepth 20000 in
theorem dL_isSession_254 : decode cL_isSession 254 = .ok (.ixor, 1) := by decide +kernel
set_option maxRecDepth 20000 in
theorem dL_isSession_255 : decode cL_isSession 255 = .ok (.iand, 1) := by decide +kernel
set_option maxRecDepth 20000 in
theorem dL_isSession_256 : decode cL_isSession 256 = .ok (.ifCond .ne 24, 3) := by decide +kernel
set_option maxRecDepth 20000 in
theorem dL_isSession_259 : decode cL_isSession 259 = .ok (.aload_n 0, 1) := by decide +kernel
set_option maxRecDepth 20000 in
theorem dL_isSession_260 : decode cL_isSession 260 = .ok (.iload_n 1, 1) := by decide +kernel
set_option maxRecDepth 20000 in
theorem dL_isSession_261 : decode cL_isSession 261 = .ok (.aload_n 0, 1) := by decide +kernel
set_option maxRecDepth 20000 in
theorem dL_isSession_262 : decode cL_isSession 262 = .ok (.iload_n 1, 1) := by decide +kernel
set_option maxRecDepth 20000 in
theorem dL_isSession_263 : decode cL_isSession 263 = .ok (.iload 7, 2) := by decide +kernel
set_option maxRecDepth 20000 in
theorem dL_isSession_265 : decode cL_isSession 265 = .ok (.invokevirtual 30, 3) := by decide +kernel
set_option maxRecDepth 20000 in
theorem dL_isSession_268 : decode cL_isSession 268 = .ok (.invokevirtual 33, 3) := by decide +kernel
set_option maxRecDepth 20000 in
theorem dL_isSession_271 : decode cL_isSession 271 = .ok (.iload 7, 2) := by decide +kernel
set_option maxRecDepth 20000 in
theorem dL_isSession_273 : decode cL_isSession 273 = .ok (.if_icmp .lt 7, 3) := by decide +kernel
set_option maxRecDepth 20000 in
theorem dL_isSession_276 : decode cL_isSession 276 = .ok (.iconst 1, 1) := by decide +kernel
set_option maxRecDepth 20000 in
theorem dL_isSession_277 : decode cL_isSession 277 = .ok (.goto 4, 3) := by decide +kernel
set_option maxRecDepth 20000 in
theorem dL_isSession_280 : decode cL_isSession 280 = .ok (.iconst 0, 1) := by decide +kernel
set_option maxRecDepth 20000 in
theorem dL_isSession_281 : decode cL_isSession 281 = .ok (.istore 6, 2) := by decide +kernel
set_option maxRecDepth 20000 in
theorem dL_isSession_283 : decode cL_isSession 283 = .ok (.iconst 0, 1) := by decide +kernel
set_option maxRecDepth 20000 in
theorem dL_isSession_284 : decode cL_isSession 284 = .ok (.istore 10, 2) := by decide +kernel
set_option maxRecDepth 20000 in
theorem dL_isSession_286 : decode cL_isSession 286 = .ok (.iload 10, 2) := by decide +kernel
set_option maxRecDepth 20000 in
theorem dL_isSession_288 : decode cL_isSession 288 = .ok (.bipush 16, 2) := by decide +kernel
set_option maxRecDepth 20000 in
theorem dL_isSession_290 : decode cL_isSession 290 = .ok (.if_icmp .ge 42, 3) := by decide +kernel
set_option maxRecDepth 20000 in
theorem dL_isSession_293 : decode cL_isSession 293 = .ok (.iload 6, 2) := by decide +kernel
set_option maxRecDepth 20000 in
theorem dL_isSession_295 : decode cL_isSession 295 = .ok (.ifCond .eq 37, 3) := by decide +kernel
set_option maxRecDepth 20000 in
theorem dL_isSession_298 : decode cL_isSession 298 = .ok (.iload 8, 2) := by decide +kernel
set_option maxRecDepth 20000 in
theorem dL_isSession_300 : decode cL_isSession 300 = .ok (.iload 10, 2) := by decide +kernel
set_option maxRecDepth 20000 in
theorem dL_isSession_302 : decode cL_isSession 302 = .ok (.ishr, 1) := by decide +kernel
set_option maxRecDepth 20000 in
theorem dL_isSession_303 : decode cL_isSession 303 = .ok (.iconst 1, 1) := by decide +kernel
set_option maxRecDepth 20000 in
theorem dL_isSession_304 : decode cL_isSession 304 = .ok (.iand, 1) := by decide +kernel
set_option maxRecDepth 20000 in
theorem dL_isSession_305 : decode cL_isSession 305 = .ok (.ifCond .eq 14, 3) := by decide +kernel
set_option maxRecDepth 20000 in
theorem dL_isSession_308 : decode cL_isSession 308 = .ok (.aload_n 0, 1) := by decide +kernel
set_option maxRecDepth 20000 in
theorem dL_isSession_309 : decode cL_isSession 309 = .ok (.iload_n 1, 1) := by decide +kernel
set_option maxRecDepth 20000 in
theorem dL_isSession_310 : decode cL_isSession 310 = .ok (.iload 10, 2) := by decide +kernel
set_option maxRecDepth 20000 in
theorem dL_isSession_312 : decode cL_isSession 312 = .ok (.invokevirtual 19, 3) := by decide +kernel
set_option maxRecDepth 20000 in
theorem dL_isSession_315 : decode cL_isSession 315 = .ok (.iconst 2, 1) := by decide +kernel
set_option maxRecDepth 20000 in
theorem dL_isSession_316 : decode cL_isSession 316 = .ok (.if_icmp .ne 7, 3) := by decide +kernel
set_option maxRecDepth 20000 in
theorem dL_isSession_319 : decode cL_isSession 319 = .ok (.iconst 1, 1) := by decide +kernel
set_option maxRecDepth 20000 in
theorem dL_isSession_320 : decode cL_isSession 320 = .ok (.goto 4, 3) := by decide +kernel
set_option maxRecDepth 20000 in
theorem dL_isSession_323 : decode cL_isSession 323 = .ok (.iconst 0, 1) := by decide +kernel
set_option maxRecDepth 20000 in
theorem dL_isSession_324 : decode cL_isSession 324 = .ok (.istore 6, 2) := by decide +kernel
set_option maxRecDepth 20000 in
theorem dL_isSession_326 : decode cL_isSession 326 = .ok (.iinc 10 1, 3) := by decide +kernel
set_option maxRecDepth 20000 in
theorem dL_isSession_329 : decode cL_isSession 329 = .ok (.goto (-43), 3) := by decide +kernel
set_option maxRecDepth 20000 in
theorem dL_isSession_332 : decode cL_isSession 332 = .ok (.iinc 7 1, 3) := by decide +kernel
set_option maxRecDepth 20000 in
theorem dL_isSession_335 : decode cL_isSession 335 = .ok (.goto (-156), 3) := by decide +kernel
set_option maxRecDepth 20000 in
theorem dL_isSession_338 : decode cL_isSession 338 = .ok (.iconst 0, 1) := by decide +kernel
set_option maxRecDepth 20000 in
theorem dL_isSession_339 : decode cL_isSession 339 = .ok (.istore 7, 2) := by decide +kernel
set_option maxRecDepth 20000 in
theorem dL_isSession_341 : decode cL_isSession 341 = .ok (.iload 7, 2) := by decide +kernel
set_option maxRecDepth 20000 in
theorem dL_isSession_343 : decode cL_isSession 343 = .ok (.bipush 8, 2) := by decide +kernel
set_option maxRecDepth 20000 in
theorem dL_isSession_345 : decode cL_isSession 345 = .ok (.if_icmp .ge 73, 3) := by decide +kernel
set_option maxRecDepth 20000 in
theorem dL_isSession_348 : decode cL_isSession 348 = .ok (.iload 6, 2) := by decide +kernel
set_option maxRecDepth 20000 in
theorem dL_isSession_350 : decode cL_isSession 350 = .ok (.ifCond .eq 68, 3) := by decide +kernel
set_option maxRecDepth 20000 in
theorem dL_isSession_353 : decode cL_isSession 353 = .ok (.bipush (-5), 2) := by decide +kernel
set_option maxRecDepth 20000 in
theorem dL_isSession_355 : decode cL_isSession 355 = .ok (.istore 8, 2) := by decide +kernel
set_option maxRecDepth 20000 in
theorem dL_isSession_357 : decode cL_isSession 357 = .ok (.iconst 0, 1) := by decide +kernel
set_option maxRecDepth 20000 in
theorem dL_isSession_358 : decode cL_isSession 358 = .ok (.istore 9, 2) := by decide +kernel
set_option maxRecDepth 20000 in
theorem dL_isSession_360 : decode cL_isSession 360 = .ok (.iload 9, 2) := by decide +kernel
set_option maxRecDepth 20000 in
theorem dL_isSession_362 : decode cL_isSession 362 = .ok (.iload_n 2, 1) := by decide +kernel
set_option maxRecDepth 20000 in
theorem dL_isSession_363 : decode cL_isSession 363 = .ok (.if_icmp .ge 30, 3) := by decide +kernel
set_option maxRecDepth 20000 in
theorem dL_isSession_366 : decode cL_isSession 366 = .ok (.aload_n 0, 1) := by decide +kernel
set_option maxRecDepth 20000 in
theorem dL_isSession_367 : decode cL_isSession 367 = .ok (.iload_n 1, 1) := by decide +kernel
set_option maxRecDepth 20000 in
theorem dL_isSession_368 : decode cL_isSession 368 = .ok (.iload 9, 2) := by decide +kernel
set_option maxRecDepth 20000 in
theorem dL_isSession_370 : decode cL_isSession 370 = .ok (.invokevirtual 30, 3) := by decide +kernel
set_option maxRecDepth 20000 in
theorem dL_isSession_373 : decode cL_isSession 373 = .ok (.iload 7, 2) := by decide +kernel
set_option maxRecDepth 20000 in
theorem dL_isSession_375 : decode cL_isSession 375 = .ok (.if_icmp .ne 8, 3) := by decide +kernel
set_option maxRecDepth 20000 in
theorem dL_isSession_378 : decode cL_isSession 378 = .ok (.iload 9, 2) := by decide +kernel
set_option maxRecDepth 20000 in
theorem dL_isSession_380 : decode cL_isSession 380 = .ok (.goto 5, 3) := by decide +kernel
set_option maxRecDepth 20000 in
theorem dL_isSession_383 : decode cL_isSession 383 = .ok (.iload 8, 2) := by decide +kernel
set_option maxRecDepth 20000 in
theorem dL_isSession_385 : decode cL_isSession 385 = .ok (.istore 8, 2) := by decide +kernel
set_option maxRecDepth 20000 in
theorem dL_isSession_387 : decode cL_isSession 387 = .ok (.iinc 9 1, 3) := by decide +kernel
set_option maxRecDepth 20000 in
theorem dL_isSession_390 : decode cL_isSession 390 = .ok (.goto (-30), 3) := by decide +kernel
set_option maxRecDepth 20000 in
theorem dL_isSession_393 : decode cL_isSession 393 = .ok (.aload_n 0, 1) := by decide +kernel
set_option maxRecDepth 20000 in
theorem dL_isSession_394 : decode cL_isSession 394 = .ok (.iload_n 1, 1) := by decide +kernel
set_option maxRecDepth 20000 in
theorem dL_isSession_395 : decode cL_isSession 395 = .ok (.iload 7, 2) := by decide +kernel
set_option maxRecDepth 20000 in
theorem dL_isSession_397 : decode cL_isSession 397 = .ok (.invokevirtual 33, 3) := by decide +kernel
set_option maxRecDepth 20000 in
theorem dL_isSession_400 : decode cL_isSession 400 = .ok (.iload 8, 2) := by decide +kernel
set_option maxRecDepth 20000 in
theorem dL_isSession_402 : decode cL_isSession 402 = .ok (.if_icmp .ne 7, 3) := by decide +kernel
set_option maxRecDepth 20000 in
theorem dL_isSession_405 : decode cL_isSession 405 = .ok (.iconst 1, 1) := by decide +kernel
set_option maxRecDepth 20000 in
theorem dL_isSession_406 : decode cL_isSession 406 = .ok (.goto 4, 3) := by decide +kernel
set_option maxRecDepth 20000 in
theorem dL_isSession_409 : decode cL_isSession 409 = .ok (.iconst 0, 1) := by decide +kernel
set_option maxRecDepth 20000 in
theorem dL_isSession_410 : decode cL_isSession 410 = .ok (.istore 6, 2) := by decide +kernel
set_option maxRecDepth 20000 in
theorem dL_isSession_412 : decode cL_isSession 412 = .ok (.iinc 7 1, 3) := by decide +kernel
set_option maxRecDepth 20000 in
theorem dL_isSession_415 : decode cL_isSession 415 = .ok (.goto (-74), 3) := by decide +kernel
set_option maxRecDepth 20000 in
theorem dL_isSession_418 : decode cL_isSession 418 = .ok (.iload 6, 2) := by decide +kernel
set_option maxRecDepth 20000 in
theorem dL_isSession_420 : decode cL_isSession 420 = .ok (.ireturn, 1) := by decide +kernel
set_option maxRecDepth 20000 in
theorem dL_holds_0 : decode cL_holds 0 = .ok (.iconst 0, 1) := by decide +kernel
set_option maxRecDepth 20000 in
theorem dL_holds_1 : decode cL_holds 1 = .ok (.istore_n 1, 1) := by decide +kernel
set_option maxRecDepth 20000 in
theorem dL_holds_2 : decode cL_holds 2 = .ok (.iconst 0, 1) := by decide +kernel
set_option maxRecDepth 20000 in
theorem dL_holds_3 : decode cL_holds 3 = .ok (.istore_n 2, 1) := by decide +kernel
set_option maxRecDepth 20000 in
theorem dL_holds_4 : decode cL_holds 4 = .ok (.iconst 0, 1) := by decide +kernel
set_option maxRecDepth 20000 in
theorem dL_holds_5 : decode cL_holds 5 = .ok (.istore_n 3, 1) := by decide +kernel
set_option maxRecDepth 20000 in
theorem dL_holds_6 : decode cL_holds 6 = .ok (.iload_n 3, 1) := by decide +kernel
set_option maxRecDepth 20000 in
theorem dL_holds_7 : decode cL_holds 7 = .ok (.bipush 16, 2) := by decide +kernel
set_option maxRecDepth 20000 in
theorem dL_holds_9 : decode cL_holds 9 = .ok (.if_icmp .ge 138, 3) := by decide +kernel
set_option maxRecDepth 20000 in
theorem dL_holds_12 : decode cL_holds 12 = .ok (.iconst 0, 1) := by decide +kernel
set_option maxRecDepth 20000 in
theorem dL_holds_13 : decode cL_holds 13 = .ok (.istore 4, 2) := by decide +kernel
set_option maxRecDepth 20000 in
theorem dL_holds_15 : decode cL_holds 15 = .ok (.iconst 0, 1) := by decide +kernel
set_option maxRecDepth 20000 in
theorem dL_holds_16 : decode cL_holds 16 = .ok (.istore 5, 2) := by decide +kernel
set_option maxRecDepth 20000 in
theorem dL_holds_18 : decode cL_holds 18 = .ok (.iconst 0, 1) := by decide +kernel
set_option maxRecDepth 20000 in
theorem dL_holds_19 : decode cL_holds 19 = .ok (.istore 6, 2) := by decide +kernel
set_option maxRecDepth 20000 in
theorem dL_holds_21 : decode cL_holds 21 = .ok (.iload 6, 2) := by decide +kernel
set_option maxRecDepth 20000 in
theorem dL_holds_23 : decode cL_holds 23 = .ok (.iconst 3, 1) := by decide +kernel
set_option maxRecDepth 20000 in
theorem dL_holds_24 : decode cL_holds 24 = .ok (.if_icmp .ge 50, 3) := by decide +kernel
set_option maxRecDepth 20000 in
theorem dL_holds_27 : decode cL_holds 27 = .ok (.iload 4, 2) := by decide +kernel
set_option maxRecDepth 20000 in
theorem dL_holds_29 : decode cL_holds 29 = .ok (.aload_n 0, 1) := by decide +kernel
set_option maxRecDepth 20000 in
theorem dL_holds_30 : decode cL_holds 30 = .ok (.iload 6, 2) := by decide +kernel
set_option maxRecDepth 20000 in
theorem dL_holds_32 : decode cL_holds 32 = .ok (.iload_n 3, 1) := by decide +kernel
set_option maxRecDepth 20000 in
theorem dL_holds_33 : decode cL_holds 33 = .ok (.invokevirtual 19, 3) := by decide +kernel
set_option maxRecDepth 20000 in
theorem dL_holds_36 : decode cL_holds 36 = .ok (.iconst 2, 1) := by decide +kernel
set_option maxRecDepth 20000 in
theorem dL_holds_37 : decode cL_holds 37 = .ok (.if_icmp .ne 7, 3) := by decide +kernel
set_option maxRecDepth 20000 in
theorem dL_holds_40 : decode cL_holds 40 = .ok (.iconst 1, 1) := by decide +kernel
set_option maxRecDepth 20000 in
theorem dL_holds_41 : decode cL_holds 41 = .ok (.goto 4, 3) := by decide +kernel
set_option maxRecDepth 20000 in
theorem dL_holds_44 : decode cL_holds 44 = .ok (.iconst 0, 1) := by decide +kernel
set_option maxRecDepth 20000 in
theorem dL_holds_45 : decode cL_holds 45 = .ok (.iadd, 1) := by decide +kernel
set_option maxRecDepth 20000 in
theorem dL_holds_46 : decode cL_holds 46 = .ok (.istore 4, 2) := by decide +kernel
set_option maxRecDepth 20000 in
theorem dL_holds_48 : decode cL_holds 48 = .ok (.iload 5, 2) := by decide +kernel
set_option maxRecDepth 20000 in
theorem dL_holds_50 : decode cL_holds 50 = .ok (.aload_n 0, 1) := by decide +kernel
set_option maxRecDepth 20000 in
theorem dL_holds_51 : decode cL_holds 51 = .ok (.iload 6, 2) := by decide +kernel
set_option maxRecDepth 20000 in
theorem dL_holds_53 : decode cL_holds 53 = .ok (.iload_n 3, 1) := by decide +kernel
set_option maxRecDepth 20000 in
theorem dL_holds_54 : decode cL_holds 54 = .ok (.invokevirtual 19, 3) := by decide +kernel
set_option maxRecDepth 20000 in
theorem dL_holds_57 : decode cL_holds 57 = .ok (.ifCond .le 7, 3) := by decide +kernel
set_option maxRecDepth 20000 in
theorem dL_holds_60 : decode cL_holds 60 = .ok (.iconst 1, 1) := by decide +kernel
set_option maxRecDepth 20000 in
theorem dL_holds_61 : decode cL_holds 61 = .ok (.goto 4, 3) := by decide +kernel
set_option maxRecDepth 20000 in
theorem dL_holds_64 : decode cL_holds 64 = .ok (.iconst 0, 1) := by decide +kernel
set_option maxRecDepth 20000 in
theorem dL_holds_65 : decode cL_holds 65 = .ok (.iadd, 1) := by decide +kernel
set_option maxRecDepth 20000 in
theorem dL_holds_66 : decode cL_holds 66 = .ok (.istore 5, 2) := by decide +kernel
set_option maxRecDepth 20000 in
theorem dL_holds_68 : decode cL_holds 68 = .ok (.iinc 6 1, 3) := by decide +kernel
set_option maxRecDepth 20000 in
theorem dL_holds_71 : decode cL_holds 71 = .ok (.goto (-50), 3) := by decide +kernel
set_option maxRecDepth 20000 in
theorem dL_holds_74 : decode cL_holds 74 = .ok (.iload 4, 2) := by decide +kernel
set_option maxRecDepth 20000 in
theorem dL_holds_76 : decode cL_holds 76 = .ok (.ifCond .le 9, 3) := by decide +kernel
set_option maxRecDepth 20000 in
theorem dL_holds_79 : decode cL_holds 79 = .ok (.iload 5, 2) := by decide +kernel
set_option maxRecDepth 20000 in
theorem dL_holds_81 : decode cL_holds 81 = .ok (.iconst 1, 1) := by decide +kernel
set_option maxRecDepth 20000 in
theorem dL_holds_82 : decode cL_holds 82 = .ok (.if_icmp .gt 21, 3) := by decide +kernel
set_option maxRecDepth 20000 in
theorem dL_holds_85 : decode cL_holds 85 = .ok (.iload 4, 2) := by decide +kernel
set_option maxRecDepth 20000 in
theorem dL_holds_87 : decode cL_holds 87 = .ok (.ifCond .ne 18, 3) := by decide +kernel
set_option maxRecDepth 20000 in
theorem dL_holds_90 : decode cL_holds 90 = .ok (.aload_n 0, 1) := by decide +kernel
set_option maxRecDepth 20000 in
theorem dL_holds_91 : decode cL_holds 91 = .ok (.iload_n 3, 1) := by decide +kernel
set_option maxRecDepth 20000 in
theorem dL_holds_92 : decode cL_holds 92 = .ok (.invokevirtual 16, 3) := by decide +kernel
set_option maxRecDepth 20000 in
theorem dL_holds_95 : decode cL_holds 95 = .ok (.aload_n 0, 1) := by decide +kernel
set_option maxRecDepth 20000 in
theorem dL_holds_96 : decode cL_holds 96 = .ok (.iload_n 3, 1) := by decide +kernel
set_option maxRecDepth 20000 in
theorem dL_holds_97 : decode cL_holds 97 = .ok (.invokevirtual 10, 3) := by decide +kernel
set_option maxRecDepth 20000 in
theorem dL_holds_100 : decode cL_holds 100 = .ok (.if_icmp .eq 5, 3) := by decide +kernel
set_option maxRecDepth 20000 in
theorem dL_holds_103 : decode cL_holds 103 = .ok (.iconst 0, 1) := by decide +kernel
set_option maxRecDepth 20000 in
theorem dL_holds_104 : decode cL_holds 104 = .ok (.ireturn, 1) := by decide +kernel
set_option maxRecDepth 20000 in
theorem dL_holds_105 : decode cL_holds 105 = .ok (.iload_n 1, 1) := by decide +kernel
set_option maxRecDepth 20000 in
theorem dL_holds_106 : decode cL_holds 106 = .ok (.aload_n 0, 1) := by decide +kernel
set_option maxRecDepth 20000 in
theorem dL_holds_107 : decode cL_holds 107 = .ok (.iload_n 3, 1) := by decide +kernel
set_option maxRecDepth 20000 in
theorem dL_holds_108 : decode cL_holds 108 = .ok (.invokevirtual 10, 3) := by decide +kernel
set_option maxRecDepth 20000 in
theorem dL_holds_111 : decode cL_holds 111 = .ok (.ifCond .ge 7, 3) := by decide +kernel
set_option maxRecDepth 20000 in
theorem dL_holds_114 : decode cL_holds 114 = .ok (.iconst 0, 1) := by decide +kernel
set_option maxRecDepth 20000 in
theorem dL_holds_115 : decode cL_holds 115 = .ok (.goto 4, 3) := by decide +kernel
set_option maxRecDepth 20000 in
theorem dL_holds_118 : decode cL_holds 118 = .ok (.iconst 1, 1) := by decide +kernel
set_option maxRecDepth 20000 in
theorem dL_holds_119 : decode cL_holds 119 = .ok (.iadd, 1) := by decide +kernel
set_option maxRecDepth 20000 in
theorem dL_holds_120 : decode cL_holds 120 = .ok (.istore_n 1, 1) := by decide +kernel
set_option maxRecDepth 20000 in
theorem dL_holds_121 : decode cL_holds 121 = .ok (.iload_n 2, 1) := by decide +kernel
set_option maxRecDepth 20000 in
theorem dL_holds_122 : decode cL_holds 122 = .ok (.aload_n 0, 1) := by decide +kernel
set_option maxRecDepth 20000 in
theorem dL_holds_123 : decode cL_holds 123 = .ok (.iload_n 3, 1) := by decide +kernel
set_option maxRecDepth 20000 in
theorem dL_holds_124 : decode cL_holds 124 = .ok (.invokevirtual 10, 3) := by decide +kernel
set_option maxRecDepth 20000 in
theorem dL_holds_127 : decode cL_holds 127 = .ok (.ifCond .ge 7, 3) := by decide +kernel
set_option maxRecDepth 20000 in
theorem dL_holds_130 : decode cL_holds 130 = .ok (.iconst 0, 1) := by decide +kernel
set_option maxRecDepth 20000 in
theorem dL_holds_131 : decode cL_holds 131 = .ok (.goto 8, 3) := by decide +kernel
set_option maxRecDepth 20000 in
theorem dL_holds_134 : decode cL_holds 134 = .ok (.aload_n 0, 1) := by decide +kernel
set_option maxRecDepth 20000 in
theorem dL_holds_135 : decode cL_holds 135 = .ok (.iload_n 3, 1) := by decide +kernel
set_option maxRecDepth 20000 in
theorem dL_holds_136 : decode cL_holds 136 = .ok (.invokevirtual 10, 3) := by decide +kernel
set_option maxRecDepth 20000 in
theorem dL_holds_139 : decode cL_holds 139 = .ok (.iadd, 1) := by decide +kernel
set_option maxRecDepth 20000 in
theorem dL_holds_140 : decode cL_holds 140 = .ok (.istore_n 2, 1) := by decide +kernel
set_option maxRecDepth 20000 in
theorem dL_holds_141 : decode cL_holds 141 = .ok (.iinc 3 1, 3) := by decide +kernel
set_option maxRecDepth 20000 in
theorem dL_holds_144 : decode cL_holds 144 = .ok (.goto (-138), 3) := by decide +kernel
set_option maxRecDepth 20000 in
theorem dL_holds_147 : decode cL_holds 147 = .ok (.aload_n 0, 1) := by decide +kernel
set_option maxRecDepth 20000 in
theorem dL_holds_148 : decode cL_holds 148 = .ok (.invokevirtual 36, 3) := by decide +kernel
set_option maxRecDepth 20000 in
theorem dL_holds_151 : decode cL_holds 151 = .ok (.iload_n 1, 1) := by decide +kernel
set_option maxRecDepth 20000 in
theorem dL_holds_152 : decode cL_holds 152 = .ok (.ifCond .ne 7, 3) := by decide +kernel
set_option maxRecDepth 20000 in
theorem dL_holds_155 : decode cL_holds 155 = .ok (.dconst 0, 1) := by decide +kernel
set_option maxRecDepth 20000 in
theorem dL_holds_156 : decode cL_holds 156 = .ok (.goto 8, 3) := by decide +kernel
set_option maxRecDepth 20000 in
theorem dL_holds_159 : decode cL_holds 159 = .ok (.iload_n 2, 1) := by decide +kernel
set_option maxRecDepth 20000 in
theorem dL_holds_160 : decode cL_holds 160 = .ok (.i2d, 1) := by decide +kernel
set_option maxRecDepth 20000 in
theorem dL_holds_161 : decode cL_holds 161 = .ok (.iload_n 1, 1) := by decide +kernel
set_option maxRecDepth 20000 in
theorem dL_holds_162 : decode cL_holds 162 = .ok (.i2d, 1) := by decide +kernel
set_option maxRecDepth 20000 in
theorem dL_holds_163 : decode cL_holds 163 = .ok (.ddiv, 1) := by decide +kernel
set_option maxRecDepth 20000 in
theorem dL_holds_164 : decode cL_holds 164 = .ok (.dcmp .l, 1) := by decide +kernel
set_option maxRecDepth 20000 in
theorem dL_holds_165 : decode cL_holds 165 = .ok (.ifCond .ne 31, 3) := by decide +kernel
set_option maxRecDepth 20000 in
theorem dL_holds_168 : decode cL_holds 168 = .ok (.aload_n 0, 1) := by decide +kernel
set_option maxRecDepth 20000 in
theorem dL_holds_169 : decode cL_holds 169 = .ok (.iconst 0, 1) := by decide +kernel
set_option maxRecDepth 20000 in
theorem dL_holds_170 : decode cL_holds 170 = .ok (.invokestatic 40, 3) := by decide +kernel
set_option maxRecDepth 20000 in
theorem dL_holds_173 : decode cL_holds 173 = .ok (.ifCond .eq 23, 3) := by decide +kernel
set_option maxRecDepth 20000 in
theorem dL_holds_176 : decode cL_holds 176 = .ok (.aload_n 0, 1) := by decide +kernel
set_option maxRecDepth 20000 in
theorem dL_holds_177 : decode cL_holds 177 = .ok (.iconst 1, 1) := by decide +kernel
set_option maxRecDepth 20000 in
theorem dL_holds_178 : decode cL_holds 178 = .ok (.invokestatic 40, 3) := by decide +kernel
set_option maxRecDepth 20000 in
theorem dL_holds_181 : decode cL_holds 181 = .ok (.ifCond .eq 15, 3) := by decide +kernel
set_option maxRecDepth 20000 in
theorem dL_holds_184 : decode cL_holds 184 = .ok (.aload_n 0, 1) := by decide +kernel
set_option maxRecDepth 20000 in
theorem dL_holds_185 : decode cL_holds 185 = .ok (.iconst 2, 1) := by decide +kernel
set_option maxRecDepth 20000 in
theorem dL_holds_186 : decode cL_holds 186 = .ok (.invokestatic 40, 3) := by decide +kernel
set_option maxRecDepth 20000 in
theorem dL_holds_189 : decode cL_holds 189 = .ok (.ifCond .eq 7, 3) := by decide +kernel
set_option maxRecDepth 20000 in
theorem dL_holds_192 : decode cL_holds 192 = .ok (.iconst 1, 1) := by decide +kernel
set_option maxRecDepth 20000 in
theorem dL_holds_193 : decode cL_holds 193 = .ok (.goto 4, 3) := by decide +kernel
set_option maxRecDepth 20000 in
theorem dL_holds_196 : decode cL_holds 196 = .ok (.iconst 0, 1) := by decide +kernel
set_option maxRecDepth 20000 in
theorem dL_holds_197 : decode cL_holds 197 = .ok (.ireturn, 1) := by decide +kernel
set_option maxRecDepth 20000 in
theorem dL_doneBy_0 : decode cL_doneBy 0 = .ok (.iload_n 3, 1) := by decide +kernel
set_option maxRecDepth 20000 in
theorem dL_doneBy_1 : decode cL_doneBy 1 = .ok (.iconst 5, 1) := by decide +kernel
set_option maxRecDepth 20000 in
theorem dL_doneBy_2 : decode cL_doneBy 2 = .ok (.invokestatic 46, 3) := by decide +kernel
set_option maxRecDepth 20000 in
theorem dL_doneBy_5 : decode cL_doneBy 5 = .ok (.istore 4, 2) := by decide +kernel
set_option maxRecDepth 20000 in
theorem dL_doneBy_7 : decode cL_doneBy 7 = .ok (.iload_n 1, 1) := by decide +kernel
set_option maxRecDepth 20000 in
theorem dL_doneBy_8 : decode cL_doneBy 8 = .ok (.tableswitch 92 0 4 #[36, 44, 52, 52, 68], 36) := by decide +kernel
set_option maxRecDepth 20000 in
theorem dL_doneBy_44 : decode cL_doneBy 44 = .ok (.aload_n 0, 1) := by decide +kernel
set_option maxRecDepth 20000 in
theorem dL_doneBy_45 : decode cL_doneBy 45 = .ok (.iload_n 2, 1) := by decide +kernel
set_option maxRecDepth 20000 in
theorem dL_doneBy_46 : decode cL_doneBy 46 = .ok (.iload 4, 2) := by decide +kernel
set_option maxRecDepth 20000 in
theorem dL_doneBy_48 : decode cL_doneBy 48 = .ok (.invokevirtual 49, 3) := by decide +kernel
set_option maxRecDepth 20000 in
theorem dL_doneBy_51 : decode cL_doneBy 51 = .ok (.ireturn, 1) := by decide +kernel
set_option maxRecDepth 20000 in
theorem dL_doneBy_52 : decode cL_doneBy 52 = .ok (.aload_n 0, 1) := by decide +kernel
set_option maxRecDepth 20000 in
theorem dL_doneBy_53 : decode cL_doneBy 53 = .ok (.iload_n 2, 1) := by decide +kernel
set_option maxRecDepth 20000 in
theorem dL_doneBy_54 : decode cL_doneBy 54 = .ok (.iload 4, 2) := by decide +kernel
set_option maxRecDepth 20000 in
theorem dL_doneBy_56 : decode cL_doneBy 56 = .ok (.invokevirtual 52, 3) := by decide +kernel
set_option maxRecDepth 20000 in
theorem dL_doneBy_59 : decode cL_doneBy 59 = .ok (.ireturn, 1) := by decide +kernel
set_option maxRecDepth 20000 in
theorem dL_doneBy_60 : decode cL_doneBy 60 = .ok (.aload_n 0, 1) := by decide +kernel
set_option maxRecDepth 20000 in
theorem dL_doneBy_61 : decode cL_doneBy 61 = .ok (.iload_n 2, 1) := by decide +kernel
set_option maxRecDepth 20000 in
theorem dL_doneBy_62 : decode cL_doneBy 62 = .ok (.iload 4, 2) := by decide +kernel
set_option maxRecDepth 20000 in
theorem dL_doneBy_64 : decode cL_doneBy 64 = .ok (.iload_n 3, 1) := by decide +kernel
set_option maxRecDepth 20000 in
theorem dL_doneBy_65 : decode cL_doneBy 65 = .ok (.iconst 3, 1) := by decide +kernel
set_option maxRecDepth 20000 in
theorem dL_doneBy_66 : decode cL_doneBy 66 = .ok (.ishr, 1) := by decide +kernel
set_option maxRecDepth 20000 in
theorem dL_doneBy_67 : decode cL_doneBy 67 = .ok (.bipush 12, 2) := by decide +kernel
set_option maxRecDepth 20000 in
theorem dL_doneBy_69 : decode cL_doneBy 69 = .ok (.invokestatic 46, 3) := by decide +kernel
set_option maxRecDepth 20000 in
theorem dL_doneBy_72 : decode cL_doneBy 72 = .ok (.invokevirtual 55, 3) := by decide +kernel
set_option maxRecDepth 20000 in
theorem dL_doneBy_75 : decode cL_doneBy 75 = .ok (.ireturn, 1) := by decide +kernel
set_option maxRecDepth 20000 in
theorem dL_doneBy_76 : decode cL_doneBy 76 = .ok (.aload_n 0, 1) := by decide +kernel
set_option maxRecDepth 20000 in
theorem dL_doneBy_77 : decode cL_doneBy 77 = .ok (.iload_n 2, 1) := by decide +kernel
set_option maxRecDepth 20000 in
theorem dL_doneBy_78 : decode cL_doneBy 78 = .ok (.iconst 1, 1) := by decide +kernel
set_option maxRecDepth 20000 in
theorem dL_doneBy_79 : decode cL_doneBy 79 = .ok (.iload_n 3, 1) := by decide +kernel
set_option maxRecDepth 20000 in
theorem dL_doneBy_80 : decode cL_doneBy 80 = .ok (.bipush 31, 2) := by decide +kernel
set_option maxRecDepth 20000 in
theorem dL_doneBy_82 : decode cL_doneBy 82 = .ok (.invokestatic 46, 3) := by decide +kernel
set_option maxRecDepth 20000 in
theorem dL_doneBy_85 : decode cL_doneBy 85 = .ok (.iadd, 1) := by decide +kernel
set_option maxRecDepth 20000 in
theorem dL_doneBy_86 : decode cL_doneBy 86 = .ok (.iload_n 3, 1) := by decide +kernel
set_option maxRecDepth 20000 in
theorem dL_doneBy_87 : decode cL_doneBy 87 = .ok (.iconst 5, 1) := by decide +kernel
set_option maxRecDepth 20000 in
theorem dL_doneBy_88 : decode cL_doneBy 88 = .ok (.ishr, 1) := by decide +kernel
set_option maxRecDepth 20000 in
theorem dL_doneBy_89 : decode cL_doneBy 89 = .ok (.bipush 7, 2) := by decide +kernel
set_option maxRecDepth 20000 in
theorem dL_doneBy_91 : decode cL_doneBy 91 = .ok (.invokestatic 46, 3) := by decide +kernel
set_option maxRecDepth 20000 in
theorem dL_doneBy_94 : decode cL_doneBy 94 = .ok (.iconst 3, 1) := by decide +kernel
set_option maxRecDepth 20000 in
theorem dL_doneBy_95 : decode cL_doneBy 95 = .ok (.isub, 1) := by decide +kernel
set_option maxRecDepth 20000 in
theorem dL_doneBy_96 : decode cL_doneBy 96 = .ok (.invokevirtual 59, 3) := by decide +kernel
set_option maxRecDepth 20000 in
theorem dL_doneBy_99 : decode cL_doneBy 99 = .ok (.ireturn, 1) := by decide +kernel
set_option maxRecDepth 20000 in
theorem dL_doneBy_100 : decode cL_doneBy 100 = .ok (.aload_n 0, 1) := by decide +kernel
set_option maxRecDepth 20000 in
theorem dL_doneBy_101 : decode cL_doneBy 101 = .ok (.iload_n 2, 1) := by decide +kernel
set_option maxRecDepth 20000 in
theorem dL_doneBy_102 : decode cL_doneBy 102 = .ok (.iload 4, 2) := by decide +kernel
set_option maxRecDepth 20000 in
theorem dL_doneBy_104 : decode cL_doneBy 104 = .ok (.iload 4, 2) := by decide +kernel
set_option maxRecDepth 20000 in
theorem dL_doneBy_106 : decode cL_doneBy 106 = .ok (.iconst 1, 1) := by decide +kernel
set_option maxRecDepth 20000 in
theorem dL_doneBy_107 : decode cL_doneBy 107 = .ok (.iadd, 1) := by decide +kernel
set_option maxRecDepth 20000 in
theorem dL_doneBy_108 : decode cL_doneBy 108 = .ok (.iload_n 3, 1) := by decide +kernel
set_option maxRecDepth 20000 in
theorem dL_doneBy_109 : decode cL_doneBy 109 = .ok (.iconst 3, 1) := by decide +kernel
set_option maxRecDepth 20000 in
theorem dL_doneBy_110 : decode cL_doneBy 110 = .ok (.ishr, 1) := by decide +kernel
set_option maxRecDepth 20000 in
theorem dL_doneBy_111 : decode cL_doneBy 111 = .ok (.iconst 4, 1) := by decide +kernel
set_option maxRecDepth 20000 in
theorem dL_doneBy_112 : decode cL_doneBy 112 = .ok (.invokestatic 46, 3) := by decide +kernel
set_option maxRecDepth 20000 in
theorem dL_doneBy_115 : decode cL_doneBy 115 = .ok (.iadd, 1) := by decide +kernel
set_option maxRecDepth 20000 in
theorem dL_doneBy_116 : decode cL_doneBy 116 = .ok (.iconst 5, 1) := by decide +kernel
set_option maxRecDepth 20000 in
theorem dL_doneBy_117 : decode cL_doneBy 117 = .ok (.irem, 1) := by decide +kernel
set_option maxRecDepth 20000 in
theorem dL_doneBy_118 : decode cL_doneBy 118 = .ok (.iconst 1, 1) := by decide +kernel
set_option maxRecDepth 20000 in
theorem dL_doneBy_119 : decode cL_doneBy 119 = .ok (.iload_n 3, 1) := by decide +kernel
set_option maxRecDepth 20000 in
theorem dL_doneBy_120 : decode cL_doneBy 120 = .ok (.iconst 5, 1) := by decide +kernel
set_option maxRecDepth 20000 in
theorem dL_doneBy_121 : decode cL_doneBy 121 = .ok (.ishr, 1) := by decide +kernel
set_option maxRecDepth 20000 in
theorem dL_doneBy_122 : decode cL_doneBy 122 = .ok (.iconst 5, 1) := by decide +kernel
set_option maxRecDepth 20000 in
theorem dL_doneBy_123 : decode cL_doneBy 123 = .ok (.invokestatic 46, 3) := by decide +kernel
set_option maxRecDepth 20000 in
theorem dL_doneBy_126 : decode cL_doneBy 126 = .ok (.iadd, 1) := by decide +kernel
set_option maxRecDepth 20000 in
theorem dL_doneBy_127 : decode cL_doneBy 127 = .ok (.invokevirtual 62, 3) := by decide +kernel
set_option maxRecDepth 20000 in
theorem dL_doneBy_130 : decode cL_doneBy 130 = .ok (.ireturn, 1) := by decide +kernel
set_option maxRecDepth 20000 in
theorem dL_states_0 : decode cL_states 0 = .ok (.iload_n 3, 1) := by decide +kernel
set_option maxRecDepth 20000 in
theorem dL_states_1 : decode cL_states 1 = .ok (.iconst 5, 1) := by decide +kernel
set_option maxRecDepth 20000 in
theorem dL_states_2 : decode cL_states 2 = .ok (.invokestatic 46, 3) := by decide +kernel
set_option maxRecDepth 20000 in
theorem dL_states_5 : decode cL_states 5 = .ok (.istore 7, 2) := by decide +kernel
set_option maxRecDepth 20000 in
theorem dL_states_7 : decode cL_states 7 = .ok (.aload_n 0, 1) := by decide +kernel
set_option maxRecDepth 20000 in
theorem dL_states_8 : decode cL_states 8 = .ok (.iload 7, 2) := by decide +kernel
set_option maxRecDepth 20000 in
theorem dL_states_10 : decode cL_states 10 = .ok (.iload_n 1, 1) := by decide +kernel
set_option maxRecDepth 20000 in
theorem dL_states_11 : decode cL_states 11 = .ok (.ifCond .ne 7, 3) := by decide +kernel
set_option maxRecDepth 20000 in
theorem dL_states_14 : decode cL_states 14 = .ok (.iconst 1, 1) := by decide +kernel
set_option maxRecDepth 20000 in
theorem dL_states_15 : decode cL_states 15 = .ok (.goto 4, 3) := by decide +kernel
set_option maxRecDepth 20000 in
theorem dL_states_18 : decode cL_states 18 = .ok (.iconst 2, 1) := by decide +kernel
set_option maxRecDepth 20000 in
theorem dL_states_19 : decode cL_states 19 = .ok (.invokevirtual 66, 3) := by decide +kernel
set_option maxRecDepth 20000 in
theorem dL_states_22 : decode cL_states 22 = .ok (.iload_n 2, 1) := by decide +kernel
set_option maxRecDepth 20000 in
theorem dL_states_23 : decode cL_states 23 = .ok (.ishr, 1) := by decide +kernel
set_option maxRecDepth 20000 in
theorem dL_states_24 : decode cL_states 24 = .ok (.iconst 1, 1) := by decide +kernel
set_option maxRecDepth 20000 in
theorem dL_states_25 : decode cL_states 25 = .ok (.iand, 1) := by decide +kernel
set_option maxRecDepth 20000 in
theorem dL_states_26 : decode cL_states 26 = .ok (.istore 8, 2) := by decide +kernel
set_option maxRecDepth 20000 in
theorem dL_states_28 : decode cL_states 28 = .ok (.aload_n 0, 1) := by decide +kernel
set_option maxRecDepth 20000 in
theorem dL_states_29 : decode cL_states 29 = .ok (.iconst 2, 1) := by decide +kernel
set_option maxRecDepth 20000 in
theorem dL_states_30 : decode cL_states 30 = .ok (.invokevirtual 69, 3) := by decide +kernel
set_option maxRecDepth 20000 in
theorem dL_states_33 : decode cL_states 33 = .ok (.istore 9, 2) := by decide +kernel
set_option maxRecDepth 20000 in
theorem dL_states_35 : decode cL_states 35 = .ok (.aload_n 0, 1) := by decide +kernel
set_option maxRecDepth 20000 in
theorem dL_states_36 : decode cL_states 36 = .ok (.iconst 3, 1) := by decide +kernel
set_option maxRecDepth 20000 in
theorem dL_states_37 : decode cL_states 37 = .ok (.invokevirtual 69, 3) := by decide +kernel
set_option maxRecDepth 20000 in
theorem dL_states_40 : decode cL_states 40 = .ok (.istore 10, 2) := by decide +kernel
set_option maxRecDepth 20000 in
theorem dL_states_42 : decode cL_states 42 = .ok (.aload_n 0, 1) := by decide +kernel
set_option maxRecDepth 20000 in
theorem dL_states_43 : decode cL_states 43 = .ok (.iconst 4, 1) := by decide +kernel
set_option maxRecDepth 20000 in
theorem dL_states_44 : decode cL_states 44 = .ok (.invokevirtual 69, 3) := by decide +kernel
set_option maxRecDepth 20000 in
theorem dL_states_47 : decode cL_states 47 = .ok (.istore 11, 2) := by decide +kernel
set_option maxRecDepth 20000 in
theorem dL_states_49 : decode cL_states 49 = .ok (.aload_n 0, 1) := by decide +kernel
set_option maxRecDepth 20000 in
theorem dL_states_50 : decode cL_states 50 = .ok (.iload_n 1, 1) := by decide +kernel
set_option maxRecDepth 20000 in
theorem dL_states_51 : decode cL_states 51 = .ok (.iload_n 2, 1) := by decide +kernel
set_option maxRecDepth 20000 in
theorem dL_states_52 : decode cL_states 52 = .ok (.iload_n 3, 1) := by decide +kernel
set_option maxRecDepth 20000 in
theorem dL_states_53 : decode cL_states 53 = .ok (.invokestatic 72, 3) := by decide +kernel
set_option maxRecDepth 20000 in
theorem dL_states_56 : decode cL_states 56 = .ok (.istore 12, 2) := by decide +kernel
set_option maxRecDepth 20000 in
theorem dL_states_58 : decode cL_states 58 = .ok (.aload_n 0, 1) := by decide +kernel
set_option maxRecDepth 20000 in
theorem dL_states_59 : decode cL_states 59 = .ok (.iload_n 2, 1) := by decide +kernel
set_option maxRecDepth 20000 in
theorem dL_states_60 : decode cL_states 60 = .ok (.iconst 0, 1) := by decide +kernel
set_option maxRecDepth 20000 in
theorem dL_states_61 : decode cL_states 61 = .ok (.invokevirtual 23, 3) := by decide +kernel
set_option maxRecDepth 20000 in
theorem dL_states_64 : decode cL_states 64 = .ok (.ifCond .ne 45, 3) := by decide +kernel
set_option maxRecDepth 20000 in
theorem dL_states_67 : decode cL_states 67 = .ok (.iload 12, 2) := by decide +kernel
set_option maxRecDepth 20000 in
theorem dL_states_69 : decode cL_states 69 = .ok (.bipush (-4), 2) := by decide +kernel
set_option maxRecDepth 20000 in
theorem dL_states_71 : decode cL_states 71 = .ok (.if_icmp .ne 36, 3) := by decide +kernel
set_option maxRecDepth 20000 in
theorem dL_states_74 : decode cL_states 74 = .ok (.aload_n 0, 1) := by decide +kernel
set_option maxRecDepth 20000 in
theorem dL_states_75 : decode cL_states 75 = .ok (.aload 5, 2) := by decide +kernel
set_option maxRecDepth 20000 in
theorem dL_states_77 : decode cL_states 77 = .ok (.invokestatic 76, 3) := by decide +kernel
set_option maxRecDepth 20000 in
theorem dL_states_80 : decode cL_states 80 = .ok (.ifCond .eq 27, 3) := by decide +kernel
set_option maxRecDepth 20000 in
theorem dL_states_83 : decode cL_states 83 = .ok (.aload_n 0, 1) := by decide +kernel
set_option maxRecDepth 20000 in
theorem dL_states_84 : decode cL_states 84 = .ok (.aload 6, 2) := by decide +kernel
set_option maxRecDepth 20000 in
theorem dL_states_86 : decode cL_states 86 = .ok (.iconst 3, 1) := by decide +kernel
set_option maxRecDepth 20000 in
theorem dL_states_87 : decode cL_states 87 = .ok (.invokestatic 80, 3) := by decide +kernel
set_option maxRecDepth 20000 in
theorem dL_states_90 : decode cL_states 90 = .ok (.ifCond .ne 17, 3) := by decide +kernel
set_option maxRecDepth 20000 in
theorem dL_states_93 : decode cL_states 93 = .ok (.aload_n 0, 1) := by decide +kernel
set_option maxRecDepth 20000 in
theorem dL_states_94 : decode cL_states 94 = .ok (.iconst 2, 1) := by decide +kernel
set_option maxRecDepth 20000 in
theorem dL_states_95 : decode cL_states 95 = .ok (.invokevirtual 69, 3) := by decide +kernel
set_option maxRecDepth 20000 in
theorem dL_states_98 : decode cL_states 98 = .ok (.iload 9, 2) := by decide +kernel
set_option maxRecDepth 20000 in
theorem dL_states_100 : decode cL_states 100 = .ok (.if_icmp .ne 7, 3) := by decide +kernel
set_option maxRecDepth 20000 in
theorem dL_states_103 : decode cL_states 103 = .ok (.iconst 1, 1) := by decide +kernel
set_option maxRecDepth 20000 in
theorem dL_states_104 : decode cL_states 104 = .ok (.goto 4, 3) := by decide +kernel
set_option maxRecDepth 20000 in
theorem dL_states_107 : decode cL_states 107 = .ok (.iconst 0, 1) := by decide +kernel
set_option maxRecDepth 20000 in
theorem dL_states_108 : decode cL_states 108 = .ok (.ireturn, 1) := by decide +kernel
set_option maxRecDepth 20000 in
theorem dL_states_109 : decode cL_states 109 = .ok (.iload 12, 2) := by decide +kernel
set_option maxRecDepth 20000 in
theorem dL_states_111 : decode cL_states 111 = .ok (.bipush (-6), 2) := by decide +kernel
set_option maxRecDepth 20000 in
theorem dL_states_113 : decode cL_states 113 = .ok (.if_icmp .eq 10, 3) := by decide +kernel
set_option maxRecDepth 20000 in
theorem dL_states_116 : decode cL_states 116 = .ok (.iload 12, 2) := by decide +kernel
set_option maxRecDepth 20000 in
theorem dL_states_118 : decode cL_states 118 = .ok (.bipush (-7), 2) := by decide +kernel
set_option maxRecDepth 20000 in
theorem dL_states_120 : decode cL_states 120 = .ok (.if_icmp .ne 7, 3) := by decide +kernel
set_option maxRecDepth 20000 in
theorem dL_states_123 : decode cL_states 123 = .ok (.iconst 1, 1) := by decide +kernel
set_option maxRecDepth 20000 in
theorem dL_states_124 : decode cL_states 124 = .ok (.goto 4, 3) := by decide +kernel
set_option maxRecDepth 20000 in
theorem dL_states_127 : decode cL_states 127 = .ok (.iconst 0, 1) := by decide +kernel
set_option maxRecDepth 20000 in
theorem dL_states_128 : decode cL_states 128 = .ok (.istore 13, 2) := by decide +kernel
set_option maxRecDepth 20000 in
theorem dL_states_130 : decode cL_states 130 = .ok (.aload_n 0, 1) := by decide +kernel
set_option maxRecDepth 20000 in
theorem dL_states_131 : decode cL_states 131 = .ok (.iconst 2, 1) := by decide +kernel
set_option maxRecDepth 20000 in
theorem dL_states_132 : decode cL_states 132 = .ok (.invokevirtual 69, 3) := by decide +kernel
set_option maxRecDepth 20000 in
theorem dL_states_135 : decode cL_states 135 = .ok (.iload 9, 2) := by decide +kernel
set_option maxRecDepth 20000 in
theorem dL_states_137 : decode cL_states 137 = .ok (.iload 13, 2) := by decide +kernel
set_option maxRecDepth 20000 in
theorem dL_states_139 : decode cL_states 139 = .ok (.ifCond .eq 7, 3) := by decide +kernel
set_option maxRecDepth 20000 in
theorem dL_states_142 : decode cL_states 142 = .ok (.iconst 0, 1) := by decide +kernel
set_option maxRecDepth 20000 in
theorem dL_states_143 : decode cL_states 143 = .ok (.goto 4, 3) := by decide +kernel
set_option maxRecDepth 20000 in
theorem dL_states_146 : decode cL_states 146 = .ok (.iconst 1, 1) := by decide +kernel
set_option maxRecDepth 20000 in
theorem dL_states_147 : decode cL_states 147 = .ok (.iadd, 1) := by decide +kernel
set_option maxRecDepth 20000 in
theorem dL_states_148 : decode cL_states 148 = .ok (.if_icmp .ne 94, 3) := by decide +kernel
set_option maxRecDepth 20000 in
theorem dL_states_151 : decode cL_states 151 = .ok (.aload_n 0, 1) := by decide +kernel
set_option maxRecDepth 20000 in
theorem dL_states_152 : decode cL_states 152 = .ok (.iconst 3, 1) := by decide +kernel
set_option maxRecDepth 20000 in
theorem dL_states_153 : decode cL_states 153 = .ok (.invokevirtual 69, 3) := by decide +kernel
set_option maxRecDepth 20000 in
theorem dL_states_156 : decode cL_states 156 = .ok (.iload 10, 2) := by decide +kernel
set_option maxRecDepth 20000 in
theorem dL_states_158 : decode cL_states 158 = .ok (.iload 12, 2) := by decide +kernel
set_option maxRecDepth 20000 in
theorem dL_states_160 : decode cL_states 160 = .ok (.bipush (-6), 2) := by decide +kernel
set_option maxRecDepth 20000 in
theorem dL_states_162 : decode cL_states 162 = .ok (.if_icmp .ne 7, 3) := by decide +kernel
set_option maxRecDepth 20000 in
theorem dL_states_165 : decode cL_states 165 = .ok (.iconst 1, 1) := by decide +kernel
set_option maxRecDepth 20000 in
theorem dL_states_166 : decode cL_states 166 = .ok (.goto 4, 3) := by decide +kernel
set_option maxRecDepth 20000 in
theorem dL_states_169 : decode cL_states 169 = .ok (.iconst 0, 1) := by decide +kernel
set_option maxRecDepth 20000 in
theorem dL_states_170 : decode cL_states 170 = .ok (.iadd, 1) := by decide +kernel
set_option maxRecDepth 20000 in
theorem dL_states_171 : decode cL_states 171 = .ok (.if_icmp .ne 71, 3) := by decide +kernel
set_option maxRecDepth 20000 in
theorem dL_states_174 : decode cL_states 174 = .ok (.aload_n 0, 1) := by decide +kernel
set_option maxRecDepth 20000 in
theorem dL_states_175 : decode cL_states 175 = .ok (.iconst 4, 1) := by decide +kernel
set_option maxRecDepth 20000 in
theorem dL_states_176 : decode cL_states 176 = .ok (.invokevirtual 69, 3) := by decide +kernel
set_option maxRecDepth 20000 in
theorem dL_states_179 : decode cL_states 179 = .ok (.iload 11, 2) := by decide +kernel
set_option maxRecDepth 20000 in
theorem dL_states_181 : decode cL_states 181 = .ok (.iload 12, 2) := by decide +kernel
set_option maxRecDepth 20000 in
theorem dL_states_183 : decode cL_states 183 = .ok (.bipush (-7), 2) := by decide +kernel
set_option maxRecDepth 20000 in
theorem dL_states_185 : decode cL_states 185 = .ok (.if_icmp .ne 7, 3) := by decide +kernel
set_option maxRecDepth 20000 in
theorem dL_states_188 : decode cL_states 188 = .ok (.iconst 1, 1) := by decide +kernel
set_option maxRecDepth 20000 in
theorem dL_states_189 : decode cL_states 189 = .ok (.goto 4, 3) := by decide +kernel
set_option maxRecDepth 20000 in
theorem dL_states_192 : decode cL_states 192 = .ok (.iconst 0, 1) := by decide +kernel
set_option maxRecDepth 20000 in
theorem dL_states_193 : decode cL_states 193 = .ok (.iadd, 1) := by decide +kernel
set_option maxRecDepth 20000 in
theorem dL_states_194 : decode cL_states 194 = .ok (.if_icmp .ne 48, 3) := by decide +kernel
set_option maxRecDepth 20000 in
theorem dL_states_197 : decode cL_states 197 = .ok (.aload_n 0, 1) := by decide +kernel
set_option maxRecDepth 20000 in
theorem dL_states_198 : decode cL_states 198 = .ok (.aload 6, 2) := by decide +kernel
set_option maxRecDepth 20000 in
theorem dL_states_200 : decode cL_states 200 = .ok (.iload_n 2, 1) := by decide +kernel
set_option maxRecDepth 20000 in
theorem dL_states_201 : decode cL_states 201 = .ok (.invokestatic 80, 3) := by decide +kernel
set_option maxRecDepth 20000 in
theorem dL_states_204 : decode cL_states 204 = .ok (.ifCond .ne 38, 3) := by decide +kernel
set_option maxRecDepth 20000 in
theorem dL_states_207 : decode cL_states 207 = .ok (.iload_n 1, 1) := by decide +kernel
set_option maxRecDepth 20000 in
theorem dL_states_208 : decode cL_states 208 = .ok (.iconst 3, 1) := by decide +kernel
set_option maxRecDepth 20000 in
theorem dL_states_209 : decode cL_states 209 = .ok (.if_icmp .gt 29, 3) := by decide +kernel
set_option maxRecDepth 20000 in
theorem dL_states_212 : decode cL_states 212 = .ok (.iload 12, 2) := by decide +kernel
set_option maxRecDepth 20000 in
theorem dL_states_214 : decode cL_states 214 = .ok (.bipush (-6), 2) := by decide +kernel
set_option maxRecDepth 20000 in
theorem dL_states_216 : decode cL_states 216 = .ok (.if_icmp .ne 7, 3) := by decide +kernel
set_option maxRecDepth 20000 in
theorem dL_states_219 : decode cL_states 219 = .ok (.iconst 1, 1) := by decide +kernel
set_option maxRecDepth 20000 in
theorem dL_states_220 : decode cL_states 220 = .ok (.goto 4, 3) := by decide +kernel
set_option maxRecDepth 20000 in
theorem dL_states_223 : decode cL_states 223 = .ok (.iconst 0, 1) := by decide +kernel
set_option maxRecDepth 20000 in
theorem dL_states_224 : decode cL_states 224 = .ok (.iload 8, 2) := by decide +kernel
set_option maxRecDepth 20000 in
theorem dL_states_226 : decode cL_states 226 = .ok (.iconst 1, 1) := by decide +kernel
set_option maxRecDepth 20000 in
theorem dL_states_227 : decode cL_states 227 = .ok (.if_icmp .ne 7, 3) := by decide +kernel
set_option maxRecDepth 20000 in
theorem dL_states_230 : decode cL_states 230 = .ok (.iconst 1, 1) := by decide +kernel
set_option maxRecDepth 20000 in
theorem dL_states_231 : decode cL_states 231 = .ok (.goto 4, 3) := by decide +kernel
set_option maxRecDepth 20000 in
theorem dL_states_234 : decode cL_states 234 = .ok (.iconst 0, 1) := by decide +kernel
set_option maxRecDepth 20000 in
theorem dL_states_235 : decode cL_states 235 = .ok (.if_icmp .ne 7, 3) := by decide +kernel
set_option maxRecDepth 20000 in
theorem dL_states_238 : decode cL_states 238 = .ok (.iconst 1, 1) := by decide +kernel
set_option maxRecDepth 20000 in
theorem dL_states_239 : decode cL_states 239 = .ok (.goto 4, 3) := by decide +kernel
set_option maxRecDepth 20000 in
theorem dL_states_242 : decode cL_states 242 = .ok (.iconst 0, 1) := by decide +kernel
set_option maxRecDepth 20000 in
theorem dL_states_243 : decode cL_states 243 = .ok (.istore 14, 2) := by decide +kernel
set_option maxRecDepth 20000 in
theorem dL_states_245 : decode cL_states 245 = .ok (.iload 13, 2) := by decide +kernel
set_option maxRecDepth 20000 in
theorem dL_states_247 : decode cL_states 247 = .ok (.ifCond .eq 39, 3) := by decide +kernel
set_option maxRecDepth 20000 in
theorem dL_states_250 : decode cL_states 250 = .ok (.iload 14, 2) := by decide +kernel
set_option maxRecDepth 20000 in
theorem dL_states_252 : decode cL_states 252 = .ok (.ifCond .eq 32, 3) := by decide +kernel
set_option maxRecDepth 20000 in
theorem dL_states_255 : decode cL_states 255 = .ok (.aload_n 0, 1) := by decide +kernel
set_option maxRecDepth 20000 in
theorem dL_states_256 : decode cL_states 256 = .ok (.aload 5, 2) := by decide +kernel
set_option maxRecDepth 20000 in
theorem dL_states_258 : decode cL_states 258 = .ok (.invokestatic 76, 3) := by decide +kernel
set_option maxRecDepth 20000 in
theorem dL_states_261 : decode cL_states 261 = .ok (.ifCond .eq 23, 3) := by decide +kernel
set_option maxRecDepth 20000 in
theorem dL_states_264 : decode cL_states 264 = .ok (.iload 4, 2) := by decide +kernel
set_option maxRecDepth 20000 in
theorem dL_states_266 : decode cL_states 266 = .ok (.iconst 1, 1) := by decide +kernel
set_option maxRecDepth 20000 in
theorem dL_states_267 : decode cL_states 267 = .ok (.if_icmp .eq 13, 3) := by decide +kernel
set_option maxRecDepth 20000 in
theorem dL_states_270 : decode cL_states 270 = .ok (.aload_n 0, 1) := by decide +kernel
set_option maxRecDepth 20000 in
theorem dL_states_271 : decode cL_states 271 = .ok (.aload 6, 2) := by decide +kernel
set_option maxRecDepth 20000 in
theorem dL_states_273 : decode cL_states 273 = .ok (.iconst 3, 1) := by decide +kernel
set_option maxRecDepth 20000 in
theorem dL_states_274 : decode cL_states 274 = .ok (.invokestatic 80, 3) := by decide +kernel
set_option maxRecDepth 20000 in
theorem dL_states_277 : decode cL_states 277 = .ok (.ifCond .ne 7, 3) := by decide +kernel
set_option maxRecDepth 20000 in
theorem dL_states_280 : decode cL_states 280 = .ok (.iconst 1, 1) := by decide +kernel
set_option maxRecDepth 20000 in
theorem dL_states_281 : decode cL_states 281 = .ok (.goto 4, 3) := by decide +kernel
set_option maxRecDepth 20000 in
theorem dL_states_284 : decode cL_states 284 = .ok (.iconst 0, 1) := by decide +kernel
set_option maxRecDepth 20000 in
theorem dL_states_285 : decode cL_states 285 = .ok (.ireturn, 1) := by decide +kernel
set_option maxRecDepth 20000 in
theorem dL_states_286 : decode cL_states 286 = .ok (.iload 14, 2) := by decide +kernel
set_option maxRecDepth 20000 in
theorem dL_states_288 : decode cL_states 288 = .ok (.ifCond .eq 97, 3) := by decide +kernel
set_option maxRecDepth 20000 in
theorem dL_states_291 : decode cL_states 291 = .ok (.iload_n 1, 1) := by decide +kernel
set_option maxRecDepth 20000 in
theorem dL_states_292 : decode cL_states 292 = .ok (.ifCond .gt 32, 3) := by decide +kernel
set_option maxRecDepth 20000 in
theorem dL_states_295 : decode cL_states 295 = .ok (.iload 12, 2) := by decide +kernel
set_option maxRecDepth 20000 in
theorem dL_states_297 : decode cL_states 297 = .ok (.aload 5, 2) := by decide +kernel
set_option maxRecDepth 20000 in
theorem dL_states_299 : decode cL_states 299 = .ok (.iload 7, 2) := by decide +kernel
set_option maxRecDepth 20000 in
theorem dL_states_301 : decode cL_states 301 = .ok (.iaload, 1) := by decide +kernel
set_option maxRecDepth 20000 in
theorem dL_states_302 : decode cL_states 302 = .ok (.if_icmp .ne 83, 3) := by decide +kernel
set_option maxRecDepth 20000 in
theorem dL_states_305 : decode cL_states 305 = .ok (.aload_n 0, 1) := by decide +kernel
set_option maxRecDepth 20000 in
theorem dL_states_306 : decode cL_states 306 = .ok (.aload 5, 2) := by decide +kernel
set_option maxRecDepth 20000 in
theorem dL_states_308 : decode cL_states 308 = .ok (.invokestatic 76, 3) := by decide +kernel
set_option maxRecDepth 20000 in
theorem dL_states_311 : decode cL_states 311 = .ok (.ifCond .eq 74, 3) := by decide +kernel
set_option maxRecDepth 20000 in
theorem dL_states_314 : decode cL_states 314 = .ok (.aload_n 0, 1) := by decide +kernel
set_option maxRecDepth 20000 in
theorem dL_states_315 : decode cL_states 315 = .ok (.iload_n 2, 1) := by decide +kernel
set_option maxRecDepth 20000 in
theorem dL_states_316 : decode cL_states 316 = .ok (.iload 7, 2) := by decide +kernel
set_option maxRecDepth 20000 in
theorem dL_states_318 : decode cL_states 318 = .ok (.invokevirtual 19, 3) := by decide +kernel
set_option maxRecDepth 20000 in
theorem dL_states_321 : decode cL_states 321 = .ok (.ifCond .le 64, 3) := by decide +kernel
set_option maxRecDepth 20000 in
theorem dL_states_324 : decode cL_states 324 = .ok (.iload_n 1, 1) := by decide +kernel
set_option maxRecDepth 20000 in
theorem dL_states_325 : decode cL_states 325 = .ok (.ifCond .eq 56, 3) := by decide +kernel
set_option maxRecDepth 20000 in
theorem dL_states_328 : decode cL_states 328 = .ok (.iload_n 1, 1) := by decide +kernel
set_option maxRecDepth 20000 in
theorem dL_states_329 : decode cL_states 329 = .ok (.iconst 3, 1) := by decide +kernel
set_option maxRecDepth 20000 in
theorem dL_states_330 : decode cL_states 330 = .ok (.if_icmp .gt 51, 3) := by decide +kernel
set_option maxRecDepth 20000 in
theorem dL_states_333 : decode cL_states 333 = .ok (.iload 12, 2) := by decide +kernel
set_option maxRecDepth 20000 in
theorem dL_states_335 : decode cL_states 335 = .ok (.aload 5, 2) := by decide +kernel
set_option maxRecDepth 20000 in
theorem dL_states_337 : decode cL_states 337 = .ok (.iload 7, 2) := by decide +kernel
set_option maxRecDepth 20000 in
theorem dL_states_339 : decode cL_states 339 = .ok (.iaload, 1) := by decide +kernel
set_option maxRecDepth 20000 in
theorem dL_states_340 : decode cL_states 340 = .ok (.if_icmp .ne 45, 3) := by decide +kernel
set_option maxRecDepth 20000 in
theorem dL_states_343 : decode cL_states 343 = .ok (.aload_n 0, 1) := by decide +kernel
set_option maxRecDepth 20000 in
theorem dL_states_344 : decode cL_states 344 = .ok (.iload_n 2, 1) := by decide +kernel
set_option maxRecDepth 20000 in
theorem dL_states_345 : decode cL_states 345 = .ok (.iload 7, 2) := by decide +kernel
set_option maxRecDepth 20000 in
theorem dL_states_347 : decode cL_states 347 = .ok (.invokevirtual 19, 3) := by decide +kernel
set_option maxRecDepth 20000 in
theorem dL_states_350 : decode cL_states 350 = .ok (.iconst 2, 1) := by decide +kernel
set_option maxRecDepth 20000 in
theorem dL_states_351 : decode cL_states 351 = .ok (.if_icmp .ne 34, 3) := by decide +kernel
set_option maxRecDepth 20000 in
theorem dL_states_354 : decode cL_states 354 = .ok (.aload_n 0, 1) := by decide +kernel
set_option maxRecDepth 20000 in
theorem dL_states_355 : decode cL_states 355 = .ok (.iload 7, 2) := by decide +kernel
set_option maxRecDepth 20000 in
theorem dL_states_357 : decode cL_states 357 = .ok (.invokevirtual 10, 3) := by decide +kernel
set_option maxRecDepth 20000 in
theorem dL_states_360 : decode cL_states 360 = .ok (.iload_n 1, 1) := by decide +kernel
set_option maxRecDepth 20000 in
theorem dL_states_361 : decode cL_states 361 = .ok (.iconst 1, 1) := by decide +kernel
set_option maxRecDepth 20000 in
theorem dL_states_362 : decode cL_states 362 = .ok (.if_icmp .ne 8, 3) := by decide +kernel
set_option maxRecDepth 20000 in
theorem dL_states_365 : decode cL_states 365 = .ok (.bipush (-5), 2) := by decide +kernel
set_option maxRecDepth 20000 in
theorem dL_states_367 : decode cL_states 367 = .ok (.goto 11, 3) := by decide +kernel
set_option maxRecDepth 20000 in
theorem dL_states_370 : decode cL_states 370 = .ok (.iload_n 3, 1) := by decide +kernel
set_option maxRecDepth 20000 in
theorem dL_states_371 : decode cL_states 371 = .ok (.iconst 3, 1) := by decide +kernel
set_option maxRecDepth 20000 in
theorem dL_states_372 : decode cL_states 372 = .ok (.ishr, 1) := by decide +kernel
set_option maxRecDepth 20000 in
theorem dL_states_373 : decode cL_states 373 = .ok (.bipush 12, 2) := by decide +kernel
set_option maxRecDepth 20000 in
theorem dL_states_375 : decode cL_states 375 = .ok (.invokestatic 46, 3) := by decide +kernel
set_option maxRecDepth 20000 in
theorem dL_states_378 : decode cL_states 378 = .ok (.if_icmp .ne 7, 3) := by decide +kernel
set_option maxRecDepth 20000 in
theorem dL_states_381 : decode cL_states 381 = .ok (.iconst 1, 1) := by decide +kernel
set_option maxRecDepth 20000 in
theorem dL_states_382 : decode cL_states 382 = .ok (.goto 4, 3) := by decide +kernel
set_option maxRecDepth 20000 in
theorem dL_states_385 : decode cL_states 385 = .ok (.iconst 0, 1) := by decide +kernel
set_option maxRecDepth 20000 in
theorem dL_states_386 : decode cL_states 386 = .ok (.ireturn, 1) := by decide +kernel
set_option maxRecDepth 20000 in
theorem dL_undoes_0 : decode cL_undoes 0 = .ok (.aload_n 0, 1) := by decide +kernel
set_option maxRecDepth 20000 in
theorem dL_undoes_1 : decode cL_undoes 1 = .ok (.iload_n 1, 1) := by decide +kernel
set_option maxRecDepth 20000 in
theorem dL_undoes_2 : decode cL_undoes 2 = .ok (.iload_n 2, 1) := by decide +kernel
set_option maxRecDepth 20000 in
theorem dL_undoes_3 : decode cL_undoes 3 = .ok (.invokevirtual 33, 3) := by decide +kernel
set_option maxRecDepth 20000 in
theorem dL_undoes_6 : decode cL_undoes 6 = .ok (.istore 6, 2) := by decide +kernel
set_option maxRecDepth 20000 in
theorem dL_undoes_8 : decode cL_undoes 8 = .ok (.iload 6, 2) := by decide +kernel
set_option maxRecDepth 20000 in
theorem dL_undoes_10 : decode cL_undoes 10 = .ok (.ifCond .ge 31, 3) := by decide +kernel
set_option maxRecDepth 20000 in
theorem dL_undoes_13 : decode cL_undoes 13 = .ok (.aload_n 0, 1) := by decide +kernel
set_option maxRecDepth 20000 in
theorem dL_undoes_14 : decode cL_undoes 14 = .ok (.iload_n 1, 1) := by decide +kernel
set_option maxRecDepth 20000 in
theorem dL_undoes_15 : decode cL_undoes 15 = .ok (.iload_n 2, 1) := by decide +kernel
set_option maxRecDepth 20000 in
theorem dL_undoes_16 : decode cL_undoes 16 = .ok (.invokevirtual 84, 3) := by decide +kernel
set_option maxRecDepth 20000 in
theorem dL_undoes_19 : decode cL_undoes 19 = .ok (.bipush (-4), 2) := by decide +kernel
set_option maxRecDepth 20000 in
theorem dL_undoes_21 : decode cL_undoes 21 = .ok (.if_icmp .ne 18, 3) := by decide +kernel
set_option maxRecDepth 20000 in
theorem dL_undoes_24 : decode cL_undoes 24 = .ok (.aload_n 0, 1) := by decide +kernel
set_option maxRecDepth 20000 in
theorem dL_undoes_25 : decode cL_undoes 25 = .ok (.iload_n 1, 1) := by decide +kernel
set_option maxRecDepth 20000 in
theorem dL_undoes_26 : decode cL_undoes 26 = .ok (.iload_n 2, 1) := by decide +kernel
set_option maxRecDepth 20000 in
theorem dL_undoes_27 : decode cL_undoes 27 = .ok (.invokevirtual 87, 3) := by decide +kernel
set_option maxRecDepth 20000 in
theorem dL_undoes_30 : decode cL_undoes 30 = .ok (.bipush (-4), 2) := by decide +kernel
set_option maxRecDepth 20000 in
theorem dL_undoes_32 : decode cL_undoes 32 = .ok (.if_icmp .ne 7, 3) := by decide +kernel
set_option maxRecDepth 20000 in
theorem dL_undoes_35 : decode cL_undoes 35 = .ok (.iconst 1, 1) := by decide +kernel
set_option maxRecDepth 20000 in
theorem dL_undoes_36 : decode cL_undoes 36 = .ok (.goto 4, 3) := by decide +kernel
set_option maxRecDepth 20000 in
theorem dL_undoes_39 : decode cL_undoes 39 = .ok (.iconst 0, 1) := by decide +kernel
set_option maxRecDepth 20000 in
theorem dL_undoes_40 : decode cL_undoes 40 = .ok (.ireturn, 1) := by decide +kernel
set_option maxRecDepth 20000 in
theorem dL_undoes_41 : decode cL_undoes 41 = .ok (.bipush 16, 2) := by decide +kernel
set_option maxRecDepth 20000 in
theorem dL_undoes_43 : decode cL_undoes 43 = .ok (.newarray .int, 2) := by decide +kernel
set_option maxRecDepth 20000 in
theorem dL_undoes_45 : decode cL_undoes 45 = .ok (.astore 7, 2) := by decide +kernel
set_option maxRecDepth 20000 in
theorem dL_undoes_47 : decode cL_undoes 47 = .ok (.iconst 0, 1) := by decide +kernel
set_option maxRecDepth 20000 in
theorem dL_undoes_48 : decode cL_undoes 48 = .ok (.istore 8, 2) := by decide +kernel
set_option maxRecDepth 20000 in
theorem dL_undoes_50 : decode cL_undoes 50 = .ok (.aload_n 0, 1) := by decide +kernel
set_option maxRecDepth 20000 in
theorem dL_undoes_51 : decode cL_undoes 51 = .ok (.iload_n 1, 1) := by decide +kernel
set_option maxRecDepth 20000 in
theorem dL_undoes_52 : decode cL_undoes 52 = .ok (.iload 6, 2) := by decide +kernel
set_option maxRecDepth 20000 in
theorem dL_undoes_54 : decode cL_undoes 54 = .ok (.iconst 1, 1) := by decide +kernel
set_option maxRecDepth 20000 in
theorem dL_undoes_55 : decode cL_undoes 55 = .ok (.invokevirtual 26, 3) := by decide +kernel
set_option maxRecDepth 20000 in
theorem dL_undoes_58 : decode cL_undoes 58 = .ok (.istore 9, 2) := by decide +kernel
set_option maxRecDepth 20000 in
theorem dL_undoes_60 : decode cL_undoes 60 = .ok (.aload_n 0, 1) := by decide +kernel
set_option maxRecDepth 20000 in
theorem dL_undoes_61 : decode cL_undoes 61 = .ok (.iload_n 1, 1) := by decide +kernel
set_option maxRecDepth 20000 in
theorem dL_undoes_62 : decode cL_undoes 62 = .ok (.iload 6, 2) := by decide +kernel
set_option maxRecDepth 20000 in
theorem dL_undoes_64 : decode cL_undoes 64 = .ok (.iconst 0, 1) := by decide +kernel
set_option maxRecDepth 20000 in
theorem dL_undoes_65 : decode cL_undoes 65 = .ok (.invokevirtual 26, 3) := by decide +kernel
set_option maxRecDepth 20000 in
theorem dL_undoes_68 : decode cL_undoes 68 = .ok (.istore 10, 2) := by decide +kernel
set_option maxRecDepth 20000 in
theorem dL_undoes_70 : decode cL_undoes 70 = .ok (.iconst 0, 1) := by decide +kernel
set_option maxRecDepth 20000 in
theorem dL_undoes_71 : decode cL_undoes 71 = .ok (.istore 11, 2) := by decide +kernel
set_option maxRecDepth 20000 in
theorem dL_undoes_73 : decode cL_undoes 73 = .ok (.iload 11, 2) := by decide +kernel
set_option maxRecDepth 20000 in
theorem dL_undoes_75 : decode cL_undoes 75 = .ok (.bipush 16, 2) := by decide +kernel
set_option maxRecDepth 20000 in
theorem dL_undoes_77 : decode cL_undoes 77 = .ok (.if_icmp .ge 45, 3) := by decide +kernel
set_option maxRecDepth 20000 in
theorem dL_undoes_80 : decode cL_undoes 80 = .ok (.aload 7, 2) := by decide +kernel
set_option maxRecDepth 20000 in
theorem dL_undoes_82 : decode cL_undoes 82 = .ok (.iload 11, 2) := by decide +kernel
set_option maxRecDepth 20000 in
theorem dL_undoes_84 : decode cL_undoes 84 = .ok (.aload_n 0, 1) := by decide +kernel
set_option maxRecDepth 20000 in
theorem dL_undoes_85 : decode cL_undoes 85 = .ok (.iload_n 1, 1) := by decide +kernel
set_option maxRecDepth 20000 in
theorem dL_undoes_86 : decode cL_undoes 86 = .ok (.iload_n 2, 1) := by decide +kernel
set_option maxRecDepth 20000 in
theorem dL_undoes_87 : decode cL_undoes 87 = .ok (.iload 11, 2) := by decide +kernel
set_option maxRecDepth 20000 in
theorem dL_undoes_89 : decode cL_undoes 89 = .ok (.invokevirtual 90, 3) := by decide +kernel
set_option maxRecDepth 20000 in
theorem dL_undoes_92 : decode cL_undoes 92 = .ok (.iastore, 1) := by decide +kernel
set_option maxRecDepth 20000 in
theorem dL_undoes_93 : decode cL_undoes 93 = .ok (.iload 8, 2) := by decide +kernel
set_option maxRecDepth 20000 in
theorem dL_undoes_95 : decode cL_undoes 95 = .ok (.aload 7, 2) := by decide +kernel
set_option maxRecDepth 20000 in
theorem dL_undoes_97 : decode cL_undoes 97 = .ok (.iload 11, 2) := by decide +kernel
set_option maxRecDepth 20000 in
theorem dL_undoes_99 : decode cL_undoes 99 = .ok (.iaload, 1) := by decide +kernel
set_option maxRecDepth 20000 in
theorem dL_undoes_100 : decode cL_undoes 100 = .ok (.aload 4, 2) := by decide +kernel
set_option maxRecDepth 20000 in
theorem dL_undoes_102 : decode cL_undoes 102 = .ok (.iload 11, 2) := by decide +kernel
set_option maxRecDepth 20000 in
theorem dL_undoes_104 : decode cL_undoes 104 = .ok (.iaload, 1) := by decide +kernel
set_option maxRecDepth 20000 in
theorem dL_undoes_105 : decode cL_undoes 105 = .ok (.if_icmp .eq 7, 3) := by decide +kernel
set_option maxRecDepth 20000 in
theorem dL_undoes_108 : decode cL_undoes 108 = .ok (.iconst 1, 1) := by decide +kernel
set_option maxRecDepth 20000 in
theorem dL_undoes_109 : decode cL_undoes 109 = .ok (.goto 4, 3) := by decide +kernel
set_option maxRecDepth 20000 in
theorem dL_undoes_112 : decode cL_undoes 112 = .ok (.iconst 0, 1) := by decide +kernel
set_option maxRecDepth 20000 in
theorem dL_undoes_113 : decode cL_undoes 113 = .ok (.iadd, 1) := by decide +kernel
set_option maxRecDepth 20000 in
theorem dL_undoes_114 : decode cL_undoes 114 = .ok (.istore 8, 2) := by decide +kernel
set_option maxRecDepth 20000 in
theorem dL_undoes_116 : decode cL_undoes 116 = .ok (.iinc 11 1, 3) := by decide +kernel
set_option maxRecDepth 20000 in
theorem dL_undoes_119 : decode cL_undoes 119 = .ok (.goto (-46), 3) := by decide +kernel
set_option maxRecDepth 20000 in
theorem dL_undoes_122 : decode cL_undoes 122 = .ok (.aload_n 0, 1) := by decide +kernel
set_option maxRecDepth 20000 in
theorem dL_undoes_123 : decode cL_undoes 123 = .ok (.iload_n 1, 1) := by decide +kernel
set_option maxRecDepth 20000 in
theorem dL_undoes_124 : decode cL_undoes 124 = .ok (.iload_n 2, 1) := by decide +kernel
set_option maxRecDepth 20000 in
theorem dL_undoes_125 : decode cL_undoes 125 = .ok (.invokevirtual 84, 3) := by decide +kernel
set_option maxRecDepth 20000 in
theorem dL_undoes_128 : decode cL_undoes 128 = .ok (.iload 8, 2) := by decide +kernel
set_option maxRecDepth 20000 in
theorem dL_undoes_130 : decode cL_undoes 130 = .ok (.if_icmp .ne 77, 3) := by decide +kernel
set_option maxRecDepth 20000 in
theorem dL_undoes_133 : decode cL_undoes 133 = .ok (.aload_n 0, 1) := by decide +kernel
set_option maxRecDepth 20000 in
theorem dL_undoes_134 : decode cL_undoes 134 = .ok (.iload_n 1, 1) := by decide +kernel
set_option maxRecDepth 20000 in
theorem dL_undoes_135 : decode cL_undoes 135 = .ok (.iconst 1, 1) := by decide +kernel
set_option maxRecDepth 20000 in
theorem dL_undoes_136 : decode cL_undoes 136 = .ok (.invokevirtual 23, 3) := by decide +kernel
set_option maxRecDepth 20000 in
theorem dL_undoes_139 : decode cL_undoes 139 = .ok (.iload 6, 2) := by decide +kernel
set_option maxRecDepth 20000 in
theorem dL_undoes_141 : decode cL_undoes 141 = .ok (.iconst 1, 1) := by decide +kernel
set_option maxRecDepth 20000 in
theorem dL_undoes_142 : decode cL_undoes 142 = .ok (.iadd, 1) := by decide +kernel
set_option maxRecDepth 20000 in
theorem dL_undoes_143 : decode cL_undoes 143 = .ok (.if_icmp .ne 64, 3) := by decide +kernel
set_option maxRecDepth 20000 in
theorem dL_undoes_146 : decode cL_undoes 146 = .ok (.aload_n 0, 1) := by decide +kernel
set_option maxRecDepth 20000 in
theorem dL_undoes_147 : decode cL_undoes 147 = .ok (.iload_n 1, 1) := by decide +kernel
set_option maxRecDepth 20000 in
theorem dL_undoes_148 : decode cL_undoes 148 = .ok (.iload 6, 2) := by decide +kernel
set_option maxRecDepth 20000 in
theorem dL_undoes_150 : decode cL_undoes 150 = .ok (.iconst 0, 1) := by decide +kernel
set_option maxRecDepth 20000 in
theorem dL_undoes_151 : decode cL_undoes 151 = .ok (.invokevirtual 26, 3) := by decide +kernel
set_option maxRecDepth 20000 in
theorem dL_undoes_154 : decode cL_undoes 154 = .ok (.ifCond .ne 53, 3) := by decide +kernel
set_option maxRecDepth 20000 in
theorem dL_undoes_157 : decode cL_undoes 157 = .ok (.aload_n 0, 1) := by decide +kernel
set_option maxRecDepth 20000 in
theorem dL_undoes_158 : decode cL_undoes 158 = .ok (.iload_n 1, 1) := by decide +kernel
set_option maxRecDepth 20000 in
theorem dL_undoes_159 : decode cL_undoes 159 = .ok (.iload 6, 2) := by decide +kernel
set_option maxRecDepth 20000 in
theorem dL_undoes_161 : decode cL_undoes 161 = .ok (.iconst 1, 1) := by decide +kernel
set_option maxRecDepth 20000 in
theorem dL_undoes_162 : decode cL_undoes 162 = .ok (.invokevirtual 26, 3) := by decide +kernel
set_option maxRecDepth 20000 in
theorem dL_undoes_165 : decode cL_undoes 165 = .ok (.iload_n 3, 1) := by decide +kernel
set_option maxRecDepth 20000 in
theorem dL_undoes_166 : decode cL_undoes 166 = .ok (.iconst 1, 1) := by decide +kernel
set_option maxRecDepth 20000 in
theorem dL_undoes_167 : decode cL_undoes 167 = .ok (.if_icmp .ne 8, 3) := by decide +kernel
set_option maxRecDepth 20000 in
theorem dL_undoes_170 : decode cL_undoes 170 = .ok (.iload 9, 2) := by decide +kernel
set_option maxRecDepth 20000 in
theorem dL_undoes_172 : decode cL_undoes 172 = .ok (.goto 4, 3) := by decide +kernel
set_option maxRecDepth 20000 in
theorem dL_undoes_175 : decode cL_undoes 175 = .ok (.iconst 0, 1) := by decide +kernel
set_option maxRecDepth 20000 in
theorem dL_undoes_176 : decode cL_undoes 176 = .ok (.if_icmp .ne 31, 3) := by decide +kernel
set_option maxRecDepth 20000 in
theorem dL_undoes_179 : decode cL_undoes 179 = .ok (.aload_n 0, 1) := by decide +kernel
set_option maxRecDepth 20000 in
theorem dL_undoes_180 : decode cL_undoes 180 = .ok (.aload 5, 2) := by decide +kernel
set_option maxRecDepth 20000 in
theorem dL_undoes_182 : decode cL_undoes 182 = .ok (.iload_n 1, 1) := by decide +kernel
set_option maxRecDepth 20000 in
theorem dL_undoes_183 : decode cL_undoes 183 = .ok (.invokestatic 80, 3) := by decide +kernel
set_option maxRecDepth 20000 in
theorem dL_undoes_186 : decode cL_undoes 186 = .ok (.ifCond .ne 21, 3) := by decide +kernel
set_option maxRecDepth 20000 in
theorem dL_undoes_189 : decode cL_undoes 189 = .ok (.iload_n 3, 1) := by decide +kernel
set_option maxRecDepth 20000 in
theorem dL_undoes_190 : decode cL_undoes 190 = .ok (.ifCond .eq 13, 3) := by decide +kernel
set_option maxRecDepth 20000 in
theorem dL_undoes_193 : decode cL_undoes 193 = .ok (.aload_n 0, 1) := by decide +kernel
set_option maxRecDepth 20000 in
theorem dL_undoes_194 : decode cL_undoes 194 = .ok (.aload 5, 2) := by decide +kernel
set_option maxRecDepth 20000 in
theorem dL_undoes_196 : decode cL_undoes 196 = .ok (.iconst 3, 1) := by decide +kernel
set_option maxRecDepth 20000 in
theorem dL_undoes_197 : decode cL_undoes 197 = .ok (.invokestatic 80, 3) := by decide +kernel
set_option maxRecDepth 20000 in
theorem dL_undoes_200 : decode cL_undoes 200 = .ok (.ifCond .ne 7, 3) := by decide +kernel
set_option maxRecDepth 20000 in
theorem dL_undoes_203 : decode cL_undoes 203 = .ok (.iconst 1, 1) := by decide +kernel
set_option maxRecDepth 20000 in
theorem dL_undoes_204 : decode cL_undoes 204 = .ok (.goto 4, 3) := by decide +kernel
set_option maxRecDepth 20000 in
theorem dL_undoes_207 : decode cL_undoes 207 = .ok (.iconst 0, 1) := by decide +kernel
set_option maxRecDepth 20000 in
theorem dL_undoes_208 : decode cL_undoes 208 = .ok (.istore 11, 2) := by decide +kernel
set_option maxRecDepth 20000 in
theorem dL_undoes_210 : decode cL_undoes 210 = .ok (.iconst 0, 1) := by decide +kernel
set_option maxRecDepth 20000 in
theorem dL_undoes_211 : decode cL_undoes 211 = .ok (.istore 12, 2) := by decide +kernel
set_option maxRecDepth 20000 in
theorem dL_undoes_213 : decode cL_undoes 213 = .ok (.iload 12, 2) := by decide +kernel
set_option maxRecDepth 20000 in
theorem dL_undoes_215 : decode cL_undoes 215 = .ok (.bipush 16, 2) := by decide +kernel
set_option maxRecDepth 20000 in
theorem dL_undoes_217 : decode cL_undoes 217 = .ok (.if_icmp .ge 95, 3) := by decide +kernel
set_option maxRecDepth 20000 in
theorem dL_undoes_220 : decode cL_undoes 220 = .ok (.iload 11, 2) := by decide +kernel
set_option maxRecDepth 20000 in
theorem dL_undoes_222 : decode cL_undoes 222 = .ok (.ifCond .eq 90, 3) := by decide +kernel
set_option maxRecDepth 20000 in
theorem dL_undoes_225 : decode cL_undoes 225 = .ok (.aload_n 0, 1) := by decide +kernel
set_option maxRecDepth 20000 in
theorem dL_undoes_226 : decode cL_undoes 226 = .ok (.iload 12, 2) := by decide +kernel
set_option maxRecDepth 20000 in
theorem dL_undoes_228 : decode cL_undoes 228 = .ok (.invokevirtual 10, 3) := by decide +kernel
set_option maxRecDepth 20000 in
theorem dL_undoes_231 : decode cL_undoes 231 = .ok (.aload 7, 2) := by decide +kernel
set_option maxRecDepth 20000 in
theorem dL_undoes_233 : decode cL_undoes 233 = .ok (.iload 12, 2) := by decide +kernel
set_option maxRecDepth 20000 in
theorem dL_undoes_235 : decode cL_undoes 235 = .ok (.iaload, 1) := by decide +kernel
set_option maxRecDepth 20000 in
theorem dL_undoes_236 : decode cL_undoes 236 = .ok (.if_icmp .ne 67, 3) := by decide +kernel
set_option maxRecDepth 20000 in
theorem dL_undoes_239 : decode cL_undoes 239 = .ok (.iload 10, 2) := by decide +kernel
set_option maxRecDepth 20000 in
theorem dL_undoes_241 : decode cL_undoes 241 = .ok (.iload 12, 2) := by decide +kernel
set_option maxRecDepth 20000 in
theorem dL_undoes_243 : decode cL_undoes 243 = .ok (.ishr, 1) := by decide +kernel
set_option maxRecDepth 20000 in
theorem dL_undoes_244 : decode cL_undoes 244 = .ok (.iconst 1, 1) := by decide +kernel
set_option maxRecDepth 20000 in
theorem dL_undoes_245 : decode cL_undoes 245 = .ok (.iand, 1) := by decide +kernel
set_option maxRecDepth 20000 in
theorem dL_undoes_246 : decode cL_undoes 246 = .ok (.iconst 1, 1) := by decide +kernel
set_option maxRecDepth 20000 in
theorem dL_undoes_247 : decode cL_undoes 247 = .ok (.if_icmp .eq 16, 3) := by decide +kernel
set_option maxRecDepth 20000 in
theorem dL_undoes_250 : decode cL_undoes 250 = .ok (.aload 7, 2) := by decide +kernel
set_option maxRecDepth 20000 in
theorem dL_undoes_252 : decode cL_undoes 252 = .ok (.iload 12, 2) := by decide +kernel
set_option maxRecDepth 20000 in
theorem dL_undoes_254 : decode cL_undoes 254 = .ok (.iaload, 1) := by decide +kernel
set_option maxRecDepth 20000 in
theorem dL_undoes_255 : decode cL_undoes 255 = .ok (.aload 4, 2) := by decide +kernel
set_option maxRecDepth 20000 in
theorem dL_undoes_257 : decode cL_undoes 257 = .ok (.iload 12, 2) := by decide +kernel
set_option maxRecDepth 20000 in
theorem dL_undoes_259 : decode cL_undoes 259 = .ok (.iaload, 1) := by decide +kernel
set_option maxRecDepth 20000 in
theorem dL_undoes_260 : decode cL_undoes 260 = .ok (.if_icmp .ne 43, 3) := by decide +kernel
set_option maxRecDepth 20000 in
theorem dL_undoes_263 : decode cL_undoes 263 = .ok (.iload_n 3, 1) := by decide +kernel
set_option maxRecDepth 20000 in
theorem dL_undoes_264 : decode cL_undoes 264 = .ok (.iconst 1, 1) := by decide +kernel
set_option maxRecDepth 20000 in
theorem dL_undoes_265 : decode cL_undoes 265 = .ok (.if_icmp .eq 34, 3) := by decide +kernel
set_option maxRecDepth 20000 in
theorem dL_undoes_268 : decode cL_undoes 268 = .ok (.iload 9, 2) := by decide +kernel
set_option maxRecDepth 20000 in
theorem dL_undoes_270 : decode cL_undoes 270 = .ok (.iload 12, 2) := by decide +kernel
set_option maxRecDepth 20000 in
theorem dL_undoes_272 : decode cL_undoes 272 = .ok (.ishr, 1) := by decide +kernel
set_option maxRecDepth 20000 in
theorem dL_undoes_273 : decode cL_undoes 273 = .ok (.iconst 1, 1) := by decide +kernel
set_option maxRecDepth 20000 in
theorem dL_undoes_274 : decode cL_undoes 274 = .ok (.iand, 1) := by decide +kernel
set_option maxRecDepth 20000 in
theorem dL_undoes_275 : decode cL_undoes 275 = .ok (.iconst 1, 1) := by decide +kernel
set_option maxRecDepth 20000 in
theorem dL_undoes_276 : decode cL_undoes 276 = .ok (.if_icmp .eq 23, 3) := by decide +kernel
set_option maxRecDepth 20000 in
theorem dL_undoes_279 : decode cL_undoes 279 = .ok (.aload_n 0, 1) := by decide +kernel
set_option maxRecDepth 20000 in
theorem dL_undoes_280 : decode cL_undoes 280 = .ok (.iload_n 1, 1) := by decide +kernel
set_option maxRecDepth 20000 in
theorem dL_undoes_281 : decode cL_undoes 281 = .ok (.iload 12, 2) := by decide +kernel
set_option maxRecDepth 20000 in
theorem dL_undoes_283 : decode cL_undoes 283 = .ok (.invokevirtual 19, 3) := by decide +kernel
set_option maxRecDepth 20000 in
theorem dL_undoes_286 : decode cL_undoes 286 = .ok (.aload 5, 2) := by decide +kernel
set_option maxRecDepth 20000 in
theorem dL_undoes_288 : decode cL_undoes 288 = .ok (.bipush 16, 2) := by decide +kernel
set_option maxRecDepth 20000 in
theorem dL_undoes_290 : decode cL_undoes 290 = .ok (.iload_n 1, 1) := by decide +kernel
set_option maxRecDepth 20000 in
theorem dL_undoes_291 : decode cL_undoes 291 = .ok (.imul, 1) := by decide +kernel
set_option maxRecDepth 20000 in
theorem dL_undoes_292 : decode cL_undoes 292 = .ok (.iload 12, 2) := by decide +kernel
set_option maxRecDepth 20000 in
theorem dL_undoes_294 : decode cL_undoes 294 = .ok (.iadd, 1) := by decide +kernel
set_option maxRecDepth 20000 in
theorem dL_undoes_295 : decode cL_undoes 295 = .ok (.iaload, 1) := by decide +kernel
set_option maxRecDepth 20000 in
theorem dL_undoes_296 : decode cL_undoes 296 = .ok (.if_icmp .ne 7, 3) := by decide +kernel
set_option maxRecDepth 20000 in
theorem dL_undoes_299 : decode cL_undoes 299 = .ok (.iconst 1, 1) := by decide +kernel
set_option maxRecDepth 20000 in
theorem dL_undoes_300 : decode cL_undoes 300 = .ok (.goto 4, 3) := by decide +kernel
set_option maxRecDepth 20000 in
theorem dL_undoes_303 : decode cL_undoes 303 = .ok (.iconst 0, 1) := by decide +kernel
set_option maxRecDepth 20000 in
theorem dL_undoes_304 : decode cL_undoes 304 = .ok (.istore 11, 2) := by decide +kernel
set_option maxRecDepth 20000 in
theorem dL_undoes_306 : decode cL_undoes 306 = .ok (.iinc 12 1, 3) := by decide +kernel
set_option maxRecDepth 20000 in
theorem dL_undoes_309 : decode cL_undoes 309 = .ok (.goto (-96), 3) := by decide +kernel
set_option maxRecDepth 20000 in
theorem dL_undoes_312 : decode cL_undoes 312 = .ok (.iload 11, 2) := by decide +kernel
set_option maxRecDepth 20000 in
theorem dL_undoes_314 : decode cL_undoes 314 = .ok (.ireturn, 1) := by decide +kernel
set_option maxRecDepth 20000 in
theorem dL_closes_0 : decode cL_closes 0 = .ok (.aload_n 0, 1) := by decide +kernel
set_option maxRecDepth 20000 in
theorem dL_closes_1 : decode cL_closes 1 = .ok (.iload_n 1, 1) := by decide +kernel
set_option maxRecDepth 20000 in
theorem dL_closes_2 : decode cL_closes 2 = .ok (.iconst 0, 1) := by decide +kernel
set_option maxRecDepth 20000 in
theorem dL_closes_3 : decode cL_closes 3 = .ok (.invokevirtual 23, 3) := by decide +kernel
set_option maxRecDepth 20000 in
theorem dL_closes_6 : decode cL_closes 6 = .ok (.istore 5, 2) := by decide +kernel
set_option maxRecDepth 20000 in
theorem dL_closes_8 : decode cL_closes 8 = .ok (.iconst 0, 1) := by decide +kernel
set_option maxRecDepth 20000 in
theorem dL_closes_9 : decode cL_closes 9 = .ok (.istore 6, 2) := by decide +kernel
set_option maxRecDepth 20000 in
theorem dL_closes_11 : decode cL_closes 11 = .ok (.iconst 0, 1) := by decide +kernel
set_option maxRecDepth 20000 in
theorem dL_closes_12 : decode cL_closes 12 = .ok (.istore 7, 2) := by decide +kernel
set_option maxRecDepth 20000 in
theorem dL_closes_14 : decode cL_closes 14 = .ok (.iload 7, 2) := by decide +kernel
set_option maxRecDepth 20000 in
theorem dL_closes_16 : decode cL_closes 16 = .ok (.bipush 16, 2) := by decide +kernel
set_option maxRecDepth 20000 in
theorem dL_closes_18 : decode cL_closes 18 = .ok (.if_icmp .ge 47, 3) := by decide +kernel
set_option maxRecDepth 20000 in
theorem dL_closes_21 : decode cL_closes 21 = .ok (.iload 6, 2) := by decide +kernel
set_option maxRecDepth 20000 in
theorem dL_closes_23 : decode cL_closes 23 = .ok (.aload 4, 2) := by decide +kernel
set_option maxRecDepth 20000 in
theorem dL_closes_25 : decode cL_closes 25 = .ok (.bipush 16, 2) := by decide +kernel
set_option maxRecDepth 20000 in
theorem dL_closes_27 : decode cL_closes 27 = .ok (.iload_n 1, 1) := by decide +kernel
set_option maxRecDepth 20000 in
theorem dL_closes_28 : decode cL_closes 28 = .ok (.imul, 1) := by decide +kernel
set_option maxRecDepth 20000 in
theorem dL_closes_29 : decode cL_closes 29 = .ok (.iload 7, 2) := by decide +kernel
set_option maxRecDepth 20000 in
theorem dL_closes_31 : decode cL_closes 31 = .ok (.iadd, 1) := by decide +kernel
set_option maxRecDepth 20000 in
theorem dL_closes_32 : decode cL_closes 32 = .ok (.iaload, 1) := by decide +kernel
set_option maxRecDepth 20000 in
theorem dL_closes_33 : decode cL_closes 33 = .ok (.iconst 2, 1) := by decide +kernel
set_option maxRecDepth 20000 in
theorem dL_closes_34 : decode cL_closes 34 = .ok (.if_icmp .ne 21, 3) := by decide +kernel
set_option maxRecDepth 20000 in
theorem dL_closes_37 : decode cL_closes 37 = .ok (.aload_n 3, 1) := by decide +kernel
set_option maxRecDepth 20000 in
theorem dL_closes_38 : decode cL_closes 38 = .ok (.iload 7, 2) := by decide +kernel
set_option maxRecDepth 20000 in
theorem dL_closes_40 : decode cL_closes 40 = .ok (.iaload, 1) := by decide +kernel
set_option maxRecDepth 20000 in
theorem dL_closes_41 : decode cL_closes 41 = .ok (.aload_n 3, 1) := by decide +kernel
set_option maxRecDepth 20000 in
theorem dL_closes_42 : decode cL_closes 42 = .ok (.bipush 16, 2) := by decide +kernel
set_option maxRecDepth 20000 in
theorem dL_closes_44 : decode cL_closes 44 = .ok (.iload 7, 2) := by decide +kernel
set_option maxRecDepth 20000 in
theorem dL_closes_46 : decode cL_closes 46 = .ok (.iadd, 1) := by decide +kernel
set_option maxRecDepth 20000 in
theorem dL_closes_47 : decode cL_closes 47 = .ok (.iaload, 1) := by decide +kernel
set_option maxRecDepth 20000 in
theorem dL_closes_48 : decode cL_closes 48 = .ok (.if_icmp .eq 7, 3) := by decide +kernel
set_option maxRecDepth 20000 in
theorem dL_closes_51 : decode cL_closes 51 = .ok (.iconst 1, 1) := by decide +kernel
set_option maxRecDepth 20000 in
theorem dL_closes_52 : decode cL_closes 52 = .ok (.goto 4, 3) := by decide +kernel
set_option maxRecDepth 20000 in
theorem dL_closes_55 : decode cL_closes 55 = .ok (.iconst 0, 1) := by decide +kernel
set_option maxRecDepth 20000 in
theorem dL_closes_56 : decode cL_closes 56 = .ok (.iadd, 1) := by decide +kernel
set_option maxRecDepth 20000 in
theorem dL_closes_57 : decode cL_closes 57 = .ok (.istore 6, 2) := by decide +kernel
set_option maxRecDepth 20000 in
theorem dL_closes_59 : decode cL_closes 59 = .ok (.iinc 7 1, 3) := by decide +kernel
set_option maxRecDepth 20000 in
theorem dL_closes_62 : decode cL_closes 62 = .ok (.goto (-48), 3) := by decide +kernel
set_option maxRecDepth 20000 in
theorem dL_closes_65 : decode cL_closes 65 = .ok (.iload_n 2, 1) := by decide +kernel
set_option maxRecDepth 20000 in
theorem dL_closes_66 : decode cL_closes 66 = .ok (.ifCond .eq 11, 3) := by decide +kernel
set_option maxRecDepth 20000 in
theorem dL_closes_69 : decode cL_closes 69 = .ok (.aload_n 0, 1) := by decide +kernel
set_option maxRecDepth 20000 in
theorem dL_closes_70 : decode cL_closes 70 = .ok (.iload_n 1, 1) := by decide +kernel
set_option maxRecDepth 20000 in
theorem dL_closes_71 : decode cL_closes 71 = .ok (.invokevirtual 93, 3) := by decide +kernel
set_option maxRecDepth 20000 in
theorem dL_closes_74 : decode cL_closes 74 = .ok (.goto 8, 3) := by decide +kernel
set_option maxRecDepth 20000 in
theorem dL_closes_77 : decode cL_closes 77 = .ok (.aload_n 0, 1) := by decide +kernel
set_option maxRecDepth 20000 in
theorem dL_closes_78 : decode cL_closes 78 = .ok (.iload_n 1, 1) := by decide +kernel
set_option maxRecDepth 20000 in
theorem dL_closes_79 : decode cL_closes 79 = .ok (.invokevirtual 96, 3) := by decide +kernel
set_option maxRecDepth 20000 in
theorem dL_closes_82 : decode cL_closes 82 = .ok (.istore 7, 2) := by decide +kernel
set_option maxRecDepth 20000 in
theorem dL_closes_84 : decode cL_closes 84 = .ok (.iload 5, 2) := by decide +kernel
set_option maxRecDepth 20000 in
theorem dL_closes_86 : decode cL_closes 86 = .ok (.ifCond .ne 16, 3) := by decide +kernel
set_option maxRecDepth 20000 in
theorem dL_closes_89 : decode cL_closes 89 = .ok (.iload 7, 2) := by decide +kernel
set_option maxRecDepth 20000 in
theorem dL_closes_91 : decode cL_closes 91 = .ok (.bipush (-4), 2) := by decide +kernel
set_option maxRecDepth 20000 in
theorem dL_closes_93 : decode cL_closes 93 = .ok (.if_icmp .ne 7, 3) := by decide +kernel
set_option maxRecDepth 20000 in
theorem dL_closes_96 : decode cL_closes 96 = .ok (.iconst 1, 1) := by decide +kernel
set_option maxRecDepth 20000 in
theorem dL_closes_97 : decode cL_closes 97 = .ok (.goto 4, 3) := by decide +kernel
set_option maxRecDepth 20000 in
theorem dL_closes_100 : decode cL_closes 100 = .ok (.iconst 0, 1) := by decide +kernel
set_option maxRecDepth 20000 in
theorem dL_closes_101 : decode cL_closes 101 = .ok (.ireturn, 1) := by decide +kernel
set_option maxRecDepth 20000 in
theorem dL_closes_102 : decode cL_closes 102 = .ok (.iload 7, 2) := by decide +kernel
set_option maxRecDepth 20000 in
theorem dL_closes_104 : decode cL_closes 104 = .ok (.iload 6, 2) := by decide +kernel
set_option maxRecDepth 20000 in
theorem dL_closes_106 : decode cL_closes 106 = .ok (.if_icmp .ne 26, 3) := by decide +kernel
set_option maxRecDepth 20000 in
theorem dL_closes_109 : decode cL_closes 109 = .ok (.aload_n 0, 1) := by decide +kernel
set_option maxRecDepth 20000 in
theorem dL_closes_110 : decode cL_closes 110 = .ok (.iload_n 1, 1) := by decide +kernel
set_option maxRecDepth 20000 in
theorem dL_closes_111 : decode cL_closes 111 = .ok (.iconst 0, 1) := by decide +kernel
set_option maxRecDepth 20000 in
theorem dL_closes_112 : decode cL_closes 112 = .ok (.invokevirtual 23, 3) := by decide +kernel
set_option maxRecDepth 20000 in
theorem dL_closes_115 : decode cL_closes 115 = .ok (.ifCond .ne 17, 3) := by decide +kernel
set_option maxRecDepth 20000 in
theorem dL_closes_118 : decode cL_closes 118 = .ok (.aload_n 0, 1) := by decide +kernel
set_option maxRecDepth 20000 in
theorem dL_closes_119 : decode cL_closes 119 = .ok (.aload 4, 2) := by decide +kernel
set_option maxRecDepth 20000 in
theorem dL_closes_121 : decode cL_closes 121 = .ok (.iload_n 1, 1) := by decide +kernel
set_option maxRecDepth 20000 in
theorem dL_closes_122 : decode cL_closes 122 = .ok (.invokestatic 80, 3) := by decide +kernel
set_option maxRecDepth 20000 in
theorem dL_closes_125 : decode cL_closes 125 = .ok (.ifCond .ne 7, 3) := by decide +kernel
set_option maxRecDepth 20000 in
theorem dL_closes_128 : decode cL_closes 128 = .ok (.iconst 1, 1) := by decide +kernel
set_option maxRecDepth 20000 in
theorem dL_closes_129 : decode cL_closes 129 = .ok (.goto 4, 3) := by decide +kernel
set_option maxRecDepth 20000 in
theorem dL_closes_132 : decode cL_closes 132 = .ok (.iconst 0, 1) := by decide +kernel
set_option maxRecDepth 20000 in
theorem dL_closes_133 : decode cL_closes 133 = .ok (.istore 8, 2) := by decide +kernel
set_option maxRecDepth 20000 in
theorem dL_closes_135 : decode cL_closes 135 = .ok (.iconst 0, 1) := by decide +kernel
set_option maxRecDepth 20000 in
theorem dL_closes_136 : decode cL_closes 136 = .ok (.istore 9, 2) := by decide +kernel
set_option maxRecDepth 20000 in
theorem dL_closes_138 : decode cL_closes 138 = .ok (.iload 9, 2) := by decide +kernel
set_option maxRecDepth 20000 in
theorem dL_closes_140 : decode cL_closes 140 = .ok (.bipush 16, 2) := by decide +kernel
set_option maxRecDepth 20000 in
theorem dL_closes_142 : decode cL_closes 142 = .ok (.if_icmp .ge 72, 3) := by decide +kernel
set_option maxRecDepth 20000 in
theorem dL_closes_145 : decode cL_closes 145 = .ok (.iload 8, 2) := by decide +kernel
set_option maxRecDepth 20000 in
theorem dL_closes_147 : decode cL_closes 147 = .ok (.ifCond .eq 67, 3) := by decide +kernel
set_option maxRecDepth 20000 in
theorem dL_closes_150 : decode cL_closes 150 = .ok (.aload_n 0, 1) := by decide +kernel
set_option maxRecDepth 20000 in
theorem dL_closes_151 : decode cL_closes 151 = .ok (.iload_n 1, 1) := by decide +kernel
set_option maxRecDepth 20000 in
theorem dL_closes_152 : decode cL_closes 152 = .ok (.iload 9, 2) := by decide +kernel
set_option maxRecDepth 20000 in
theorem dL_closes_154 : decode cL_closes 154 = .ok (.invokevirtual 19, 3) := by decide +kernel
set_option maxRecDepth 20000 in
theorem dL_closes_157 : decode cL_closes 157 = .ok (.ifCond .ne 48, 3) := by decide +kernel
set_option maxRecDepth 20000 in
theorem dL_closes_160 : decode cL_closes 160 = .ok (.aload_n 0, 1) := by decide +kernel
set_option maxRecDepth 20000 in
theorem dL_closes_161 : decode cL_closes 161 = .ok (.iload 9, 2) := by decide +kernel
set_option maxRecDepth 20000 in
theorem dL_closes_163 : decode cL_closes 163 = .ok (.invokevirtual 10, 3) := by decide +kernel
set_option maxRecDepth 20000 in
theorem dL_closes_166 : decode cL_closes 166 = .ok (.iload_n 2, 1) := by decide +kernel
set_option maxRecDepth 20000 in
theorem dL_closes_167 : decode cL_closes 167 = .ok (.ifCond .ne 27, 3) := by decide +kernel
set_option maxRecDepth 20000 in
theorem dL_closes_170 : decode cL_closes 170 = .ok (.aload 4, 2) := by decide +kernel
set_option maxRecDepth 20000 in
theorem dL_closes_172 : decode cL_closes 172 = .ok (.bipush 16, 2) := by decide +kernel
set_option maxRecDepth 20000 in
theorem dL_closes_174 : decode cL_closes 174 = .ok (.iload_n 1, 1) := by decide +kernel
set_option maxRecDepth 20000 in
theorem dL_closes_175 : decode cL_closes 175 = .ok (.imul, 1) := by decide +kernel
set_option maxRecDepth 20000 in
theorem dL_closes_176 : decode cL_closes 176 = .ok (.iload 9, 2) := by decide +kernel
set_option maxRecDepth 20000 in
theorem dL_closes_178 : decode cL_closes 178 = .ok (.iadd, 1) := by decide +kernel
set_option maxRecDepth 20000 in
theorem dL_closes_179 : decode cL_closes 179 = .ok (.iaload, 1) := by decide +kernel
set_option maxRecDepth 20000 in
theorem dL_closes_180 : decode cL_closes 180 = .ok (.iconst 2, 1) := by decide +kernel
set_option maxRecDepth 20000 in
theorem dL_closes_181 : decode cL_closes 181 = .ok (.if_icmp .ne 13, 3) := by decide +kernel
set_option maxRecDepth 20000 in
theorem dL_closes_184 : decode cL_closes 184 = .ok (.aload_n 3, 1) := by decide +kernel
set_option maxRecDepth 20000 in
theorem dL_closes_185 : decode cL_closes 185 = .ok (.bipush 16, 2) := by decide +kernel
set_option maxRecDepth 20000 in
theorem dL_closes_187 : decode cL_closes 187 = .ok (.iload 9, 2) := by decide +kernel
set_option maxRecDepth 20000 in
theorem dL_closes_189 : decode cL_closes 189 = .ok (.iadd, 1) := by decide +kernel
set_option maxRecDepth 20000 in
theorem dL_closes_190 : decode cL_closes 190 = .ok (.iaload, 1) := by decide +kernel
set_option maxRecDepth 20000 in
theorem dL_closes_191 : decode cL_closes 191 = .ok (.goto 7, 3) := by decide +kernel
set_option maxRecDepth 20000 in
theorem dL_closes_194 : decode cL_closes 194 = .ok (.aload_n 3, 1) := by decide +kernel
set_option maxRecDepth 20000 in
theorem dL_closes_195 : decode cL_closes 195 = .ok (.iload 9, 2) := by decide +kernel
set_option maxRecDepth 20000 in
theorem dL_closes_197 : decode cL_closes 197 = .ok (.iaload, 1) := by decide +kernel
set_option maxRecDepth 20000 in
theorem dL_closes_198 : decode cL_closes 198 = .ok (.if_icmp .ne 7, 3) := by decide +kernel
set_option maxRecDepth 20000 in
theorem dL_closes_201 : decode cL_closes 201 = .ok (.iconst 1, 1) := by decide +kernel
set_option maxRecDepth 20000 in
theorem dL_closes_202 : decode cL_closes 202 = .ok (.goto 4, 3) := by decide +kernel
set_option maxRecDepth 20000 in
theorem dL_closes_205 : decode cL_closes 205 = .ok (.iconst 0, 1) := by decide +kernel
set_option maxRecDepth 20000 in
theorem dL_closes_206 : decode cL_closes 206 = .ok (.istore 8, 2) := by decide +kernel
set_option maxRecDepth 20000 in
theorem dL_closes_208 : decode cL_closes 208 = .ok (.iinc 9 1, 3) := by decide +kernel
set_option maxRecDepth 20000 in
theorem dL_closes_211 : decode cL_closes 211 = .ok (.goto (-73), 3) := by decide +kernel
set_option maxRecDepth 20000 in
theorem dL_closes_214 : decode cL_closes 214 = .ok (.iload 8, 2) := by decide +kernel
set_option maxRecDepth 20000 in
theorem dL_closes_216 : decode cL_closes 216 = .ok (.ireturn, 1) := by decide +kernel
set_option maxRecDepth 20000 in
theorem dL_act_0 : decode cL_act 0 = .ok (.bipush 32, 2) := by decide +kernel
set_option maxRecDepth 20000 in
theorem dL_act_2 : decode cL_act 2 = .ok (.newarray .int, 2) := by decide +kernel
set_option maxRecDepth 20000 in
theorem dL_act_4 : decode cL_act 4 = .ok (.astore 4, 2) := by decide +kernel
set_option maxRecDepth 20000 in
theorem dL_act_6 : decode cL_act 6 = .ok (.bipush 48, 2) := by decide +kernel
set_option maxRecDepth 20000 in
theorem dL_act_8 : decode cL_act 8 = .ok (.newarray .int, 2) := by decide +kernel
set_option maxRecDepth 20000 in
theorem dL_act_10 : decode cL_act 10 = .ok (.astore 5, 2) := by decide +kernel
set_option maxRecDepth 20000 in
theorem dL_act_12 : decode cL_act 12 = .ok (.iload_n 1, 1) := by decide +kernel
set_option maxRecDepth 20000 in
theorem dL_act_13 : decode cL_act 13 = .ok (.iconst 5, 1) := by decide +kernel
set_option maxRecDepth 20000 in
theorem dL_act_14 : decode cL_act 14 = .ok (.ishr, 1) := by decide +kernel
set_option maxRecDepth 20000 in
theorem dL_act_15 : decode cL_act 15 = .ok (.iconst 3, 1) := by decide +kernel
set_option maxRecDepth 20000 in
theorem dL_act_16 : decode cL_act 16 = .ok (.invokestatic 46, 3) := by decide +kernel
set_option maxRecDepth 20000 in
theorem dL_act_19 : decode cL_act 19 = .ok (.istore 6, 2) := by decide +kernel
set_option maxRecDepth 20000 in
theorem dL_act_21 : decode cL_act 21 = .ok (.iload_n 1, 1) := by decide +kernel
set_option maxRecDepth 20000 in
theorem dL_act_22 : decode cL_act 22 = .ok (.bipush 20, 2) := by decide +kernel
set_option maxRecDepth 20000 in
theorem dL_act_24 : decode cL_act 24 = .ok (.invokestatic 46, 3) := by decide +kernel
set_option maxRecDepth 20000 in
theorem dL_act_27 : decode cL_act 27 = .ok (.istore 7, 2) := by decide +kernel
set_option maxRecDepth 20000 in
theorem dL_act_29 : decode cL_act 29 = .ok (.aload_n 0, 1) := by decide +kernel
set_option maxRecDepth 20000 in
theorem dL_act_30 : decode cL_act 30 = .ok (.aload 4, 2) := by decide +kernel
set_option maxRecDepth 20000 in
theorem dL_act_32 : decode cL_act 32 = .ok (.aload 5, 2) := by decide +kernel
set_option maxRecDepth 20000 in
theorem dL_act_34 : decode cL_act 34 = .ok (.invokestatic 99, 3) := by decide +kernel
set_option maxRecDepth 20000 in
theorem dL_act_37 : decode cL_act 37 = .ok (.iload 7, 2) := by decide +kernel
set_option maxRecDepth 20000 in
theorem dL_act_39 : decode cL_act 39 = .ok (.bipush 10, 2) := by decide +kernel
set_option maxRecDepth 20000 in
theorem dL_act_41 : decode cL_act 41 = .ok (.if_icmp .ge 34, 3) := by decide +kernel
set_option maxRecDepth 20000 in
theorem dL_act_44 : decode cL_act 44 = .ok (.aload_n 0, 1) := by decide +kernel
set_option maxRecDepth 20000 in
theorem dL_act_45 : decode cL_act 45 = .ok (.iload 7, 2) := by decide +kernel
set_option maxRecDepth 20000 in
theorem dL_act_47 : decode cL_act 47 = .ok (.bipush 6, 2) := by decide +kernel
set_option maxRecDepth 20000 in
theorem dL_act_49 : decode cL_act 49 = .ok (.if_icmp .ge 8, 3) := by decide +kernel
set_option maxRecDepth 20000 in
theorem dL_act_52 : decode cL_act 52 = .ok (.iload 7, 2) := by decide +kernel
set_option maxRecDepth 20000 in
theorem dL_act_54 : decode cL_act 54 = .ok (.goto 7, 3) := by decide +kernel
set_option maxRecDepth 20000 in
theorem dL_act_57 : decode cL_act 57 = .ok (.iload 7, 2) := by decide +kernel
set_option maxRecDepth 20000 in
theorem dL_act_59 : decode cL_act 59 = .ok (.iconst 4, 1) := by decide +kernel
set_option maxRecDepth 20000 in
theorem dL_act_60 : decode cL_act 60 = .ok (.isub, 1) := by decide +kernel
set_option maxRecDepth 20000 in
theorem dL_act_61 : decode cL_act 61 = .ok (.iload 6, 2) := by decide +kernel
set_option maxRecDepth 20000 in
theorem dL_act_63 : decode cL_act 63 = .ok (.iload_n 2, 1) := by decide +kernel
set_option maxRecDepth 20000 in
theorem dL_act_64 : decode cL_act 64 = .ok (.aload_n 3, 1) := by decide +kernel
set_option maxRecDepth 20000 in
theorem dL_act_65 : decode cL_act 65 = .ok (.iconst 0, 1) := by decide +kernel
set_option maxRecDepth 20000 in
theorem dL_act_66 : decode cL_act 66 = .ok (.iaload, 1) := by decide +kernel
set_option maxRecDepth 20000 in
theorem dL_act_67 : decode cL_act 67 = .ok (.aload 4, 2) := by decide +kernel
set_option maxRecDepth 20000 in
theorem dL_act_69 : decode cL_act 69 = .ok (.aload 5, 2) := by decide +kernel
set_option maxRecDepth 20000 in
theorem dL_act_71 : decode cL_act 71 = .ok (.invokestatic 103, 3) := by decide +kernel
set_option maxRecDepth 20000 in
theorem dL_act_74 : decode cL_act 74 = .ok (.ireturn, 1) := by decide +kernel
set_option maxRecDepth 20000 in
theorem dL_act_75 : decode cL_act 75 = .ok (.iload 7, 2) := by decide +kernel
set_option maxRecDepth 20000 in
theorem dL_act_77 : decode cL_act 77 = .ok (.bipush 13, 2) := by decide +kernel
set_option maxRecDepth 20000 in
theorem dL_act_79 : decode cL_act 79 = .ok (.if_icmp .ge 84, 3) := by decide +kernel
set_option maxRecDepth 20000 in
theorem dL_act_82 : decode cL_act 82 = .ok (.aload_n 0, 1) := by decide +kernel
set_option maxRecDepth 20000 in
theorem dL_act_83 : decode cL_act 83 = .ok (.iload 6, 2) := by decide +kernel
set_option maxRecDepth 20000 in
theorem dL_act_85 : decode cL_act 85 = .ok (.iconst 1, 1) := by decide +kernel
set_option maxRecDepth 20000 in
theorem dL_act_86 : decode cL_act 86 = .ok (.invokevirtual 23, 3) := by decide +kernel
set_option maxRecDepth 20000 in
theorem dL_act_89 : decode cL_act 89 = .ok (.istore 8, 2) := by decide +kernel
set_option maxRecDepth 20000 in
theorem dL_act_91 : decode cL_act 91 = .ok (.aload_n 0, 1) := by decide +kernel
set_option maxRecDepth 20000 in
theorem dL_act_92 : decode cL_act 92 = .ok (.iload 6, 2) := by decide +kernel
set_option maxRecDepth 20000 in
theorem dL_act_94 : decode cL_act 94 = .ok (.iconst 0, 1) := by decide +kernel
set_option maxRecDepth 20000 in
theorem dL_act_95 : decode cL_act 95 = .ok (.invokevirtual 23, 3) := by decide +kernel
set_option maxRecDepth 20000 in
theorem dL_act_98 : decode cL_act 98 = .ok (.istore 9, 2) := by decide +kernel
set_option maxRecDepth 20000 in
theorem dL_act_100 : decode cL_act 100 = .ok (.aload_n 0, 1) := by decide +kernel
set_option maxRecDepth 20000 in
theorem dL_act_101 : decode cL_act 101 = .ok (.iload 6, 2) := by decide +kernel
set_option maxRecDepth 20000 in
theorem dL_act_103 : decode cL_act 103 = .ok (.iload_n 2, 1) := by decide +kernel
set_option maxRecDepth 20000 in
theorem dL_act_104 : decode cL_act 104 = .ok (.iconst 3, 1) := by decide +kernel
set_option maxRecDepth 20000 in
theorem dL_act_105 : decode cL_act 105 = .ok (.invokestatic 46, 3) := by decide +kernel
set_option maxRecDepth 20000 in
theorem dL_act_108 : decode cL_act 108 = .ok (.invokevirtual 107, 3) := by decide +kernel
set_option maxRecDepth 20000 in
theorem dL_act_111 : decode cL_act 111 = .ok (.iload 9, 2) := by decide +kernel
set_option maxRecDepth 20000 in
theorem dL_act_113 : decode cL_act 113 = .ok (.ifCond .ne 8, 3) := by decide +kernel
set_option maxRecDepth 20000 in
theorem dL_act_116 : decode cL_act 116 = .ok (.bipush (-4), 2) := by decide +kernel
set_option maxRecDepth 20000 in
theorem dL_act_118 : decode cL_act 118 = .ok (.goto 17, 3) := by decide +kernel
set_option maxRecDepth 20000 in
theorem dL_act_121 : decode cL_act 121 = .ok (.iload 8, 2) := by decide +kernel
set_option maxRecDepth 20000 in
theorem dL_act_123 : decode cL_act 123 = .ok (.bipush 12, 2) := by decide +kernel
set_option maxRecDepth 20000 in
theorem dL_act_125 : decode cL_act 125 = .ok (.if_icmp .ne 8, 3) := by decide +kernel
set_option maxRecDepth 20000 in
theorem dL_act_128 : decode cL_act 128 = .ok (.bipush (-3), 2) := by decide +kernel
set_option maxRecDepth 20000 in
theorem dL_act_130 : decode cL_act 130 = .ok (.goto 5, 3) := by decide +kernel
set_option maxRecDepth 20000 in
theorem dL_act_133 : decode cL_act 133 = .ok (.iload 8, 2) := by decide +kernel
set_option maxRecDepth 20000 in
theorem dL_act_135 : decode cL_act 135 = .ok (.if_icmp .ne 26, 3) := by decide +kernel
set_option maxRecDepth 20000 in
theorem dL_act_138 : decode cL_act 138 = .ok (.aload_n 0, 1) := by decide +kernel
set_option maxRecDepth 20000 in
theorem dL_act_139 : decode cL_act 139 = .ok (.aload 4, 2) := by decide +kernel
set_option maxRecDepth 20000 in
theorem dL_act_141 : decode cL_act 141 = .ok (.invokestatic 76, 3) := by decide +kernel
set_option maxRecDepth 20000 in
theorem dL_act_144 : decode cL_act 144 = .ok (.ifCond .eq 17, 3) := by decide +kernel
set_option maxRecDepth 20000 in
theorem dL_act_147 : decode cL_act 147 = .ok (.aload_n 0, 1) := by decide +kernel
set_option maxRecDepth 20000 in
theorem dL_act_148 : decode cL_act 148 = .ok (.aload 5, 2) := by decide +kernel
set_option maxRecDepth 20000 in
theorem dL_act_150 : decode cL_act 150 = .ok (.iconst 3, 1) := by decide +kernel
set_option maxRecDepth 20000 in
theorem dL_act_151 : decode cL_act 151 = .ok (.invokestatic 80, 3) := by decide +kernel
set_option maxRecDepth 20000 in
theorem dL_act_154 : decode cL_act 154 = .ok (.ifCond .ne 7, 3) := by decide +kernel
set_option maxRecDepth 20000 in
theorem dL_act_157 : decode cL_act 157 = .ok (.iconst 1, 1) := by decide +kernel
set_option maxRecDepth 20000 in
theorem dL_act_158 : decode cL_act 158 = .ok (.goto 4, 3) := by decide +kernel
set_option maxRecDepth 20000 in
theorem dL_act_161 : decode cL_act 161 = .ok (.iconst 0, 1) := by decide +kernel
set_option maxRecDepth 20000 in
theorem dL_act_162 : decode cL_act 162 = .ok (.ireturn, 1) := by decide +kernel
set_option maxRecDepth 20000 in
theorem dL_act_163 : decode cL_act 163 = .ok (.iload 7, 2) := by decide +kernel
set_option maxRecDepth 20000 in
theorem dL_act_165 : decode cL_act 165 = .ok (.bipush 13, 2) := by decide +kernel
set_option maxRecDepth 20000 in
theorem dL_act_167 : decode cL_act 167 = .ok (.if_icmp .ne 22, 3) := by decide +kernel
set_option maxRecDepth 20000 in
theorem dL_act_170 : decode cL_act 170 = .ok (.aload_n 0, 1) := by decide +kernel
set_option maxRecDepth 20000 in
theorem dL_act_171 : decode cL_act 171 = .ok (.iload 6, 2) := by decide +kernel
set_option maxRecDepth 20000 in
theorem dL_act_173 : decode cL_act 173 = .ok (.iload_n 2, 1) := by decide +kernel
set_option maxRecDepth 20000 in
theorem dL_act_174 : decode cL_act 174 = .ok (.iconst 3, 1) := by decide +kernel
set_option maxRecDepth 20000 in
theorem dL_act_175 : decode cL_act 175 = .ok (.invokestatic 46, 3) := by decide +kernel
set_option maxRecDepth 20000 in
theorem dL_act_178 : decode cL_act 178 = .ok (.aload_n 3, 1) := by decide +kernel
set_option maxRecDepth 20000 in
theorem dL_act_179 : decode cL_act 179 = .ok (.iconst 0, 1) := by decide +kernel
set_option maxRecDepth 20000 in
theorem dL_act_180 : decode cL_act 180 = .ok (.iaload, 1) := by decide +kernel
set_option maxRecDepth 20000 in
theorem dL_act_181 : decode cL_act 181 = .ok (.aload 4, 2) := by decide +kernel
set_option maxRecDepth 20000 in
theorem dL_act_183 : decode cL_act 183 = .ok (.aload 5, 2) := by decide +kernel
set_option maxRecDepth 20000 in
theorem dL_act_185 : decode cL_act 185 = .ok (.invokestatic 110, 3) := by decide +kernel
set_option maxRecDepth 20000 in
theorem dL_act_188 : decode cL_act 188 = .ok (.ireturn, 1) := by decide +kernel
set_option maxRecDepth 20000 in
theorem dL_act_189 : decode cL_act 189 = .ok (.iload 7, 2) := by decide +kernel
set_option maxRecDepth 20000 in
theorem dL_act_191 : decode cL_act 191 = .ok (.bipush 14, 2) := by decide +kernel
set_option maxRecDepth 20000 in
theorem dL_act_193 : decode cL_act 193 = .ok (.if_icmp .ne 101, 3) := by decide +kernel
set_option maxRecDepth 20000 in
theorem dL_act_196 : decode cL_act 196 = .ok (.aload_n 0, 1) := by decide +kernel
set_option maxRecDepth 20000 in
theorem dL_act_197 : decode cL_act 197 = .ok (.iload 6, 2) := by decide +kernel
set_option maxRecDepth 20000 in
theorem dL_act_199 : decode cL_act 199 = .ok (.iconst 1, 1) := by decide +kernel
set_option maxRecDepth 20000 in
theorem dL_act_200 : decode cL_act 200 = .ok (.invokevirtual 23, 3) := by decide +kernel
set_option maxRecDepth 20000 in
theorem dL_act_203 : decode cL_act 203 = .ok (.istore 8, 2) := by decide +kernel
set_option maxRecDepth 20000 in
theorem dL_act_205 : decode cL_act 205 = .ok (.aload_n 0, 1) := by decide +kernel
set_option maxRecDepth 20000 in
theorem dL_act_206 : decode cL_act 206 = .ok (.iload 6, 2) := by decide +kernel
set_option maxRecDepth 20000 in
theorem dL_act_208 : decode cL_act 208 = .ok (.iload_n 2, 1) := by decide +kernel
set_option maxRecDepth 20000 in
theorem dL_act_209 : decode cL_act 209 = .ok (.iconst 3, 1) := by decide +kernel
set_option maxRecDepth 20000 in
theorem dL_act_210 : decode cL_act 210 = .ok (.invokestatic 46, 3) := by decide +kernel
set_option maxRecDepth 20000 in
theorem dL_act_213 : decode cL_act 213 = .ok (.invokevirtual 33, 3) := by decide +kernel
set_option maxRecDepth 20000 in
theorem dL_act_216 : decode cL_act 216 = .ok (.istore 9, 2) := by decide +kernel
set_option maxRecDepth 20000 in
theorem dL_act_218 : decode cL_act 218 = .ok (.aload_n 0, 1) := by decide +kernel
set_option maxRecDepth 20000 in
theorem dL_act_219 : decode cL_act 219 = .ok (.iload 6, 2) := by decide +kernel
set_option maxRecDepth 20000 in
theorem dL_act_221 : decode cL_act 221 = .ok (.iload_n 2, 1) := by decide +kernel
set_option maxRecDepth 20000 in
theorem dL_act_222 : decode cL_act 222 = .ok (.iconst 3, 1) := by decide +kernel
set_option maxRecDepth 20000 in
theorem dL_act_223 : decode cL_act 223 = .ok (.invokestatic 46, 3) := by decide +kernel
set_option maxRecDepth 20000 in
theorem dL_act_226 : decode cL_act 226 = .ok (.invokevirtual 87, 3) := by decide +kernel
set_option maxRecDepth 20000 in
theorem dL_act_229 : decode cL_act 229 = .ok (.iload 9, 2) := by decide +kernel
set_option maxRecDepth 20000 in
theorem dL_act_231 : decode cL_act 231 = .ok (.ifCond .ge 8, 3) := by decide +kernel
set_option maxRecDepth 20000 in
theorem dL_act_234 : decode cL_act 234 = .ok (.bipush (-4), 2) := by decide +kernel
set_option maxRecDepth 20000 in
theorem dL_act_236 : decode cL_act 236 = .ok (.goto 8, 3) := by decide +kernel
set_option maxRecDepth 20000 in
theorem dL_act_239 : decode cL_act 239 = .ok (.iload 8, 2) := by decide +kernel
set_option maxRecDepth 20000 in
theorem dL_act_241 : decode cL_act 241 = .ok (.iload 9, 2) := by decide +kernel
set_option maxRecDepth 20000 in
theorem dL_act_243 : decode cL_act 243 = .ok (.isub, 1) := by decide +kernel
set_option maxRecDepth 20000 in
theorem dL_act_244 : decode cL_act 244 = .ok (.if_icmp .ne 48, 3) := by decide +kernel
set_option maxRecDepth 20000 in
theorem dL_act_247 : decode cL_act 247 = .ok (.aload_n 0, 1) := by decide +kernel
set_option maxRecDepth 20000 in
theorem dL_act_248 : decode cL_act 248 = .ok (.iload 6, 2) := by decide +kernel
set_option maxRecDepth 20000 in
theorem dL_act_250 : decode cL_act 250 = .ok (.iconst 1, 1) := by decide +kernel
set_option maxRecDepth 20000 in
theorem dL_act_251 : decode cL_act 251 = .ok (.invokevirtual 23, 3) := by decide +kernel
set_option maxRecDepth 20000 in
theorem dL_act_254 : decode cL_act 254 = .ok (.iload 9, 2) := by decide +kernel
set_option maxRecDepth 20000 in
theorem dL_act_256 : decode cL_act 256 = .ok (.ifCond .ge 8, 3) := by decide +kernel
set_option maxRecDepth 20000 in
theorem dL_act_259 : decode cL_act 259 = .ok (.iload 8, 2) := by decide +kernel
set_option maxRecDepth 20000 in
theorem dL_act_261 : decode cL_act 261 = .ok (.goto 5, 3) := by decide +kernel
set_option maxRecDepth 20000 in
theorem dL_act_264 : decode cL_act 264 = .ok (.iload 9, 2) := by decide +kernel
set_option maxRecDepth 20000 in
theorem dL_act_266 : decode cL_act 266 = .ok (.if_icmp .ne 26, 3) := by decide +kernel
set_option maxRecDepth 20000 in
theorem dL_act_269 : decode cL_act 269 = .ok (.aload_n 0, 1) := by decide +kernel
set_option maxRecDepth 20000 in
theorem dL_act_270 : decode cL_act 270 = .ok (.aload 4, 2) := by decide +kernel
set_option maxRecDepth 20000 in
theorem dL_act_272 : decode cL_act 272 = .ok (.invokestatic 76, 3) := by decide +kernel
set_option maxRecDepth 20000 in
theorem dL_act_275 : decode cL_act 275 = .ok (.ifCond .eq 17, 3) := by decide +kernel
set_option maxRecDepth 20000 in
theorem dL_act_278 : decode cL_act 278 = .ok (.aload_n 0, 1) := by decide +kernel
set_option maxRecDepth 20000 in
theorem dL_act_279 : decode cL_act 279 = .ok (.aload 5, 2) := by decide +kernel
set_option maxRecDepth 20000 in
theorem dL_act_281 : decode cL_act 281 = .ok (.iconst 3, 1) := by decide +kernel
set_option maxRecDepth 20000 in
theorem dL_act_282 : decode cL_act 282 = .ok (.invokestatic 80, 3) := by decide +kernel
set_option maxRecDepth 20000 in
theorem dL_act_285 : decode cL_act 285 = .ok (.ifCond .ne 7, 3) := by decide +kernel
set_option maxRecDepth 20000 in
theorem dL_act_288 : decode cL_act 288 = .ok (.iconst 1, 1) := by decide +kernel
set_option maxRecDepth 20000 in
theorem dL_act_289 : decode cL_act 289 = .ok (.goto 4, 3) := by decide +kernel
set_option maxRecDepth 20000 in
theorem dL_act_292 : decode cL_act 292 = .ok (.iconst 0, 1) := by decide +kernel
set_option maxRecDepth 20000 in
theorem dL_act_293 : decode cL_act 293 = .ok (.ireturn, 1) := by decide +kernel
set_option maxRecDepth 20000 in
theorem dL_act_294 : decode cL_act 294 = .ok (.iload 7, 2) := by decide +kernel
set_option maxRecDepth 20000 in
theorem dL_act_296 : decode cL_act 296 = .ok (.bipush 15, 2) := by decide +kernel
set_option maxRecDepth 20000 in
theorem dL_act_298 : decode cL_act 298 = .ok (.if_icmp .ne 52, 3) := by decide +kernel
set_option maxRecDepth 20000 in
theorem dL_act_301 : decode cL_act 301 = .ok (.aload_n 3, 1) := by decide +kernel
set_option maxRecDepth 20000 in
theorem dL_act_302 : decode cL_act 302 = .ok (.iconst 0, 1) := by decide +kernel
set_option maxRecDepth 20000 in
theorem dL_act_303 : decode cL_act 303 = .ok (.iaload, 1) := by decide +kernel
set_option maxRecDepth 20000 in
theorem dL_act_304 : decode cL_act 304 = .ok (.istore 8, 2) := by decide +kernel
set_option maxRecDepth 20000 in
theorem dL_act_306 : decode cL_act 306 = .ok (.aload_n 3, 1) := by decide +kernel
set_option maxRecDepth 20000 in
theorem dL_act_307 : decode cL_act 307 = .ok (.iconst 0, 1) := by decide +kernel
set_option maxRecDepth 20000 in
theorem dL_act_308 : decode cL_act 308 = .ok (.iload_n 2, 1) := by decide +kernel
set_option maxRecDepth 20000 in
theorem dL_act_309 : decode cL_act 309 = .ok (.iconst 2, 1) := by decide +kernel
set_option maxRecDepth 20000 in
theorem dL_act_310 : decode cL_act 310 = .ok (.invokestatic 46, 3) := by decide +kernel
set_option maxRecDepth 20000 in
theorem dL_act_313 : decode cL_act 313 = .ok (.iastore, 1) := by decide +kernel
set_option maxRecDepth 20000 in
theorem dL_act_314 : decode cL_act 314 = .ok (.aload_n 0, 1) := by decide +kernel
set_option maxRecDepth 20000 in
theorem dL_act_315 : decode cL_act 315 = .ok (.aload_n 3, 1) := by decide +kernel
set_option maxRecDepth 20000 in
theorem dL_act_316 : decode cL_act 316 = .ok (.iconst 0, 1) := by decide +kernel
set_option maxRecDepth 20000 in
theorem dL_act_317 : decode cL_act 317 = .ok (.iaload, 1) := by decide +kernel
set_option maxRecDepth 20000 in
theorem dL_act_318 : decode cL_act 318 = .ok (.iconst 1, 1) := by decide +kernel
set_option maxRecDepth 20000 in
theorem dL_act_319 : decode cL_act 319 = .ok (.if_icmp .ne 7, 3) := by decide +kernel
set_option maxRecDepth 20000 in
theorem dL_act_322 : decode cL_act 322 = .ok (.iconst 1, 1) := by decide +kernel
set_option maxRecDepth 20000 in
theorem dL_act_323 : decode cL_act 323 = .ok (.goto 4, 3) := by decide +kernel
set_option maxRecDepth 20000 in
theorem dL_act_326 : decode cL_act 326 = .ok (.iconst 0, 1) := by decide +kernel
set_option maxRecDepth 20000 in
theorem dL_act_327 : decode cL_act 327 = .ok (.invokevirtual 114, 3) := by decide +kernel
set_option maxRecDepth 20000 in
theorem dL_act_330 : decode cL_act 330 = .ok (.iload 8, 2) := by decide +kernel
set_option maxRecDepth 20000 in
theorem dL_act_332 : decode cL_act 332 = .ok (.if_icmp .ne 16, 3) := by decide +kernel
set_option maxRecDepth 20000 in
theorem dL_act_335 : decode cL_act 335 = .ok (.aload_n 0, 1) := by decide +kernel
set_option maxRecDepth 20000 in
theorem dL_act_336 : decode cL_act 336 = .ok (.aload 4, 2) := by decide +kernel
set_option maxRecDepth 20000 in
theorem dL_act_338 : decode cL_act 338 = .ok (.invokestatic 76, 3) := by decide +kernel
set_option maxRecDepth 20000 in
theorem dL_act_341 : decode cL_act 341 = .ok (.ifCond .eq 7, 3) := by decide +kernel
set_option maxRecDepth 20000 in
theorem dL_act_344 : decode cL_act 344 = .ok (.iconst 1, 1) := by decide +kernel
set_option maxRecDepth 20000 in
theorem dL_act_345 : decode cL_act 345 = .ok (.goto 4, 3) := by decide +kernel
set_option maxRecDepth 20000 in
theorem dL_act_348 : decode cL_act 348 = .ok (.iconst 0, 1) := by decide +kernel
set_option maxRecDepth 20000 in
theorem dL_act_349 : decode cL_act 349 = .ok (.ireturn, 1) := by decide +kernel
set_option maxRecDepth 20000 in
theorem dL_act_350 : decode cL_act 350 = .ok (.iload 7, 2) := by decide +kernel
set_option maxRecDepth 20000 in
theorem dL_act_352 : decode cL_act 352 = .ok (.bipush 16, 2) := by decide +kernel
set_option maxRecDepth 20000 in
theorem dL_act_354 : decode cL_act 354 = .ok (.if_icmp .ne 27, 3) := by decide +kernel
set_option maxRecDepth 20000 in
theorem dL_act_357 : decode cL_act 357 = .ok (.aload_n 0, 1) := by decide +kernel
set_option maxRecDepth 20000 in
theorem dL_act_358 : decode cL_act 358 = .ok (.iload 6, 2) := by decide +kernel
set_option maxRecDepth 20000 in
theorem dL_act_360 : decode cL_act 360 = .ok (.iload_n 2, 1) := by decide +kernel
set_option maxRecDepth 20000 in
theorem dL_act_361 : decode cL_act 361 = .ok (.iconst 2, 1) := by decide +kernel
set_option maxRecDepth 20000 in
theorem dL_act_362 : decode cL_act 362 = .ok (.invokestatic 46, 3) := by decide +kernel
set_option maxRecDepth 20000 in
theorem dL_act_365 : decode cL_act 365 = .ok (.ifCond .ne 7, 3) := by decide +kernel
set_option maxRecDepth 20000 in
theorem dL_act_368 : decode cL_act 368 = .ok (.iconst 1, 1) := by decide +kernel
set_option maxRecDepth 20000 in
theorem dL_act_369 : decode cL_act 369 = .ok (.goto 4, 3) := by decide +kernel
set_option maxRecDepth 20000 in
theorem dL_act_372 : decode cL_act 372 = .ok (.iconst 0, 1) := by decide +kernel
set_option maxRecDepth 20000 in
theorem dL_act_373 : decode cL_act 373 = .ok (.aload 4, 2) := by decide +kernel
set_option maxRecDepth 20000 in
theorem dL_act_375 : decode cL_act 375 = .ok (.aload 5, 2) := by decide +kernel
set_option maxRecDepth 20000 in
theorem dL_act_377 : decode cL_act 377 = .ok (.invokestatic 118, 3) := by decide +kernel
set_option maxRecDepth 20000 in
theorem dL_act_380 : decode cL_act 380 = .ok (.ireturn, 1) := by decide +kernel
set_option maxRecDepth 20000 in
theorem dL_act_381 : decode cL_act 381 = .ok (.aload_n 0, 1) := by decide +kernel
set_option maxRecDepth 20000 in
theorem dL_act_382 : decode cL_act 382 = .ok (.iconst 0, 1) := by decide +kernel
set_option maxRecDepth 20000 in
theorem dL_act_383 : decode cL_act 383 = .ok (.iconst 0, 1) := by decide +kernel
set_option maxRecDepth 20000 in
theorem dL_act_384 : decode cL_act 384 = .ok (.invokevirtual 23, 3) := by decide +kernel
set_option maxRecDepth 20000 in
theorem dL_act_387 : decode cL_act 387 = .ok (.aload_n 0, 1) := by decide +kernel
set_option maxRecDepth 20000 in
theorem dL_act_388 : decode cL_act 388 = .ok (.iconst 1, 1) := by decide +kernel
set_option maxRecDepth 20000 in
theorem dL_act_389 : decode cL_act 389 = .ok (.iconst 0, 1) := by decide +kernel
set_option maxRecDepth 20000 in
theorem dL_act_390 : decode cL_act 390 = .ok (.invokevirtual 23, 3) := by decide +kernel
set_option maxRecDepth 20000 in
theorem dL_act_393 : decode cL_act 393 = .ok (.iadd, 1) := by decide +kernel
set_option maxRecDepth 20000 in
theorem dL_act_394 : decode cL_act 394 = .ok (.aload_n 0, 1) := by decide +kernel
set_option maxRecDepth 20000 in
theorem dL_act_395 : decode cL_act 395 = .ok (.iconst 2, 1) := by decide +kernel
set_option maxRecDepth 20000 in
theorem dL_act_396 : decode cL_act 396 = .ok (.iconst 0, 1) := by decide +kernel
set_option maxRecDepth 20000 in
theorem dL_act_397 : decode cL_act 397 = .ok (.invokevirtual 23, 3) := by decide +kernel
set_option maxRecDepth 20000 in
theorem dL_act_400 : decode cL_act 400 = .ok (.iadd, 1) := by decide +kernel
set_option maxRecDepth 20000 in
theorem dL_act_401 : decode cL_act 401 = .ok (.istore 8, 2) := by decide +kernel
set_option maxRecDepth 20000 in
theorem dL_act_403 : decode cL_act 403 = .ok (.aload_n 0, 1) := by decide +kernel
set_option maxRecDepth 20000 in
theorem dL_act_404 : decode cL_act 404 = .ok (.iload 6, 2) := by decide +kernel
set_option maxRecDepth 20000 in
theorem dL_act_406 : decode cL_act 406 = .ok (.iconst 0, 1) := by decide +kernel
set_option maxRecDepth 20000 in
theorem dL_act_407 : decode cL_act 407 = .ok (.invokevirtual 23, 3) := by decide +kernel
set_option maxRecDepth 20000 in
theorem dL_act_410 : decode cL_act 410 = .ok (.iconst 1, 1) := by decide +kernel
set_option maxRecDepth 20000 in
theorem dL_act_411 : decode cL_act 411 = .ok (.if_icmp .ne 7, 3) := by decide +kernel
set_option maxRecDepth 20000 in
theorem dL_act_414 : decode cL_act 414 = .ok (.iconst 1, 1) := by decide +kernel
set_option maxRecDepth 20000 in
theorem dL_act_415 : decode cL_act 415 = .ok (.goto 4, 3) := by decide +kernel
set_option maxRecDepth 20000 in
theorem dL_act_418 : decode cL_act 418 = .ok (.iconst 0, 1) := by decide +kernel
set_option maxRecDepth 20000 in
theorem dL_act_419 : decode cL_act 419 = .ok (.istore 9, 2) := by decide +kernel
set_option maxRecDepth 20000 in
theorem dL_act_421 : decode cL_act 421 = .ok (.aload_n 0, 1) := by decide +kernel
set_option maxRecDepth 20000 in
theorem dL_act_422 : decode cL_act 422 = .ok (.iload 6, 2) := by decide +kernel
set_option maxRecDepth 20000 in
theorem dL_act_424 : decode cL_act 424 = .ok (.invokevirtual 122, 3) := by decide +kernel
set_option maxRecDepth 20000 in
theorem dL_act_427 : decode cL_act 427 = .ok (.iload 9, 2) := by decide +kernel
set_option maxRecDepth 20000 in
theorem dL_act_429 : decode cL_act 429 = .ok (.ifCond .eq 8, 3) := by decide +kernel
set_option maxRecDepth 20000 in
theorem dL_act_432 : decode cL_act 432 = .ok (.bipush (-4), 2) := by decide +kernel
set_option maxRecDepth 20000 in
theorem dL_act_434 : decode cL_act 434 = .ok (.goto 7, 3) := by decide +kernel
set_option maxRecDepth 20000 in
theorem dL_act_437 : decode cL_act 437 = .ok (.iload 8, 2) := by decide +kernel
set_option maxRecDepth 20000 in
theorem dL_act_439 : decode cL_act 439 = .ok (.iconst 1, 1) := by decide +kernel
set_option maxRecDepth 20000 in
theorem dL_act_440 : decode cL_act 440 = .ok (.iadd, 1) := by decide +kernel
set_option maxRecDepth 20000 in
theorem dL_act_441 : decode cL_act 441 = .ok (.if_icmp .ne 37, 3) := by decide +kernel
set_option maxRecDepth 20000 in
theorem dL_act_444 : decode cL_act 444 = .ok (.aload_n 0, 1) := by decide +kernel
set_option maxRecDepth 20000 in
theorem dL_act_445 : decode cL_act 445 = .ok (.iload 6, 2) := by decide +kernel
set_option maxRecDepth 20000 in
theorem dL_act_447 : decode cL_act 447 = .ok (.iconst 0, 1) := by decide +kernel
set_option maxRecDepth 20000 in
theorem dL_act_448 : decode cL_act 448 = .ok (.invokevirtual 23, 3) := by decide +kernel
set_option maxRecDepth 20000 in
theorem dL_act_451 : decode cL_act 451 = .ok (.iconst 1, 1) := by decide +kernel
set_option maxRecDepth 20000 in
theorem dL_act_452 : decode cL_act 452 = .ok (.if_icmp .ne 26, 3) := by decide +kernel
set_option maxRecDepth 20000 in
theorem dL_act_455 : decode cL_act 455 = .ok (.aload_n 0, 1) := by decide +kernel
set_option maxRecDepth 20000 in
theorem dL_act_456 : decode cL_act 456 = .ok (.aload 4, 2) := by decide +kernel
set_option maxRecDepth 20000 in
theorem dL_act_458 : decode cL_act 458 = .ok (.invokestatic 76, 3) := by decide +kernel
set_option maxRecDepth 20000 in
theorem dL_act_461 : decode cL_act 461 = .ok (.ifCond .eq 17, 3) := by decide +kernel
set_option maxRecDepth 20000 in
theorem dL_act_464 : decode cL_act 464 = .ok (.aload_n 0, 1) := by decide +kernel
set_option maxRecDepth 20000 in
theorem dL_act_465 : decode cL_act 465 = .ok (.aload 5, 2) := by decide +kernel
set_option maxRecDepth 20000 in
theorem dL_act_467 : decode cL_act 467 = .ok (.iconst 3, 1) := by decide +kernel
set_option maxRecDepth 20000 in
theorem dL_act_468 : decode cL_act 468 = .ok (.invokestatic 80, 3) := by decide +kernel
set_option maxRecDepth 20000 in
theorem dL_act_471 : decode cL_act 471 = .ok (.ifCond .ne 7, 3) := by decide +kernel
set_option maxRecDepth 20000 in
theorem dL_act_474 : decode cL_act 474 = .ok (.iconst 1, 1) := by decide +kernel
set_option maxRecDepth 20000 in
theorem dL_act_475 : decode cL_act 475 = .ok (.goto 4, 3) := by decide +kernel
set_option maxRecDepth 20000 in
theorem dL_act_478 : decode cL_act 478 = .ok (.iconst 0, 1) := by decide +kernel
set_option maxRecDepth 20000 in
theorem dL_act_479 : decode cL_act 479 = .ok (.ireturn, 1) := by decide +kernel
set_option maxRecDepth 20000 in
theorem dL_law_0 : decode cL_law 0 = .ok (.new 11, 3) := by decide +kernel
set_option maxRecDepth 20000 in
theorem dL_law_3 : decode cL_law 3 = .ok (.dup, 1) := by decide +kernel
set_option maxRecDepth 20000 in
theorem dL_law_4 : decode cL_law 4 = .ok (.invokespecial 125, 3) := by decide +kernel
set_option maxRecDepth 20000 in
theorem dL_law_7 : decode cL_law 7 = .ok (.astore_n 1, 1) := by decide +kernel
set_option maxRecDepth 20000 in
theorem dL_law_8 : decode cL_law 8 = .ok (.iconst 1, 1) := by decide +kernel
set_option maxRecDepth 20000 in
theorem dL_law_9 : decode cL_law 9 = .ok (.newarray .int, 2) := by decide +kernel
set_option maxRecDepth 20000 in
theorem dL_law_11 : decode cL_law 11 = .ok (.astore_n 2, 1) := by decide +kernel
set_option maxRecDepth 20000 in
theorem dL_law_12 : decode cL_law 12 = .ok (.aload_n 1, 1) := by decide +kernel
set_option maxRecDepth 20000 in
theorem dL_law_13 : decode cL_law 13 = .ok (.invokestatic 126, 3) := by decide +kernel
set_option maxRecDepth 20000 in
theorem dL_law_16 : decode cL_law 16 = .ok (.ifCond .ne 5, 3) := by decide +kernel
set_option maxRecDepth 20000 in
theorem dL_law_19 : decode cL_law 19 = .ok (.iconst 0, 1) := by decide +kernel
set_option maxRecDepth 20000 in
theorem dL_law_20 : decode cL_law 20 = .ok (.ireturn, 1) := by decide +kernel
set_option maxRecDepth 20000 in
theorem dL_law_21 : decode cL_law 21 = .ok (.iconst 0, 1) := by decide +kernel
set_option maxRecDepth 20000 in
theorem dL_law_22 : decode cL_law 22 = .ok (.istore_n 3, 1) := by decide +kernel
set_option maxRecDepth 20000 in
theorem dL_law_23 : decode cL_law 23 = .ok (.iload_n 3, 1) := by decide +kernel
set_option maxRecDepth 20000 in
theorem dL_law_24 : decode cL_law 24 = .ok (.bipush 50, 2) := by decide +kernel
set_option maxRecDepth 20000 in
theorem dL_law_26 : decode cL_law 26 = .ok (.if_icmp .ge 65, 3) := by decide +kernel
set_option maxRecDepth 20000 in
theorem dL_law_29 : decode cL_law 29 = .ok (.iload_n 3, 1) := by decide +kernel
set_option maxRecDepth 20000 in
theorem dL_law_30 : decode cL_law 30 = .ok (.ifCond .ne 8, 3) := by decide +kernel
set_option maxRecDepth 20000 in
theorem dL_law_33 : decode cL_law 33 = .ok (.bipush 17, 2) := by decide +kernel
set_option maxRecDepth 20000 in
theorem dL_law_35 : decode cL_law 35 = .ok (.goto 20, 3) := by decide +kernel
set_option maxRecDepth 20000 in
theorem dL_law_38 : decode cL_law 38 = .ok (.iload_n 3, 1) := by decide +kernel
set_option maxRecDepth 20000 in
theorem dL_law_39 : decode cL_law 39 = .ok (.iconst 1, 1) := by decide +kernel
set_option maxRecDepth 20000 in
theorem dL_law_40 : decode cL_law 40 = .ok (.if_icmp .ne 8, 3) := by decide +kernel
set_option maxRecDepth 20000 in
theorem dL_law_43 : decode cL_law 43 = .ok (.bipush 57, 2) := by decide +kernel
set_option maxRecDepth 20000 in
theorem dL_law_45 : decode cL_law 45 = .ok (.goto 10, 3) := by decide +kernel
set_option maxRecDepth 20000 in
theorem dL_law_48 : decode cL_law 48 = .ok (.aload_n 0, 1) := by decide +kernel
set_option maxRecDepth 20000 in
theorem dL_law_49 : decode cL_law 49 = .ok (.iconst 2, 1) := by decide +kernel
set_option maxRecDepth 20000 in
theorem dL_law_50 : decode cL_law 50 = .ok (.iload_n 3, 1) := by decide +kernel
set_option maxRecDepth 20000 in
theorem dL_law_51 : decode cL_law 51 = .ok (.imul, 1) := by decide +kernel
set_option maxRecDepth 20000 in
theorem dL_law_52 : decode cL_law 52 = .ok (.invokestatic 130, 3) := by decide +kernel
set_option maxRecDepth 20000 in
theorem dL_law_55 : decode cL_law 55 = .ok (.istore 4, 2) := by decide +kernel
set_option maxRecDepth 20000 in
theorem dL_law_57 : decode cL_law 57 = .ok (.aload_n 1, 1) := by decide +kernel
set_option maxRecDepth 20000 in
theorem dL_law_58 : decode cL_law 58 = .ok (.iload 4, 2) := by decide +kernel
set_option maxRecDepth 20000 in
theorem dL_law_60 : decode cL_law 60 = .ok (.aload_n 0, 1) := by decide +kernel
set_option maxRecDepth 20000 in
theorem dL_law_61 : decode cL_law 61 = .ok (.iconst 2, 1) := by decide +kernel
set_option maxRecDepth 20000 in
theorem dL_law_62 : decode cL_law 62 = .ok (.iload_n 3, 1) := by decide +kernel
set_option maxRecDepth 20000 in
theorem dL_law_63 : decode cL_law 63 = .ok (.imul, 1) := by decide +kernel
set_option maxRecDepth 20000 in
theorem dL_law_64 : decode cL_law 64 = .ok (.iconst 1, 1) := by decide +kernel
set_option maxRecDepth 20000 in
theorem dL_law_65 : decode cL_law 65 = .ok (.iadd, 1) := by decide +kernel
set_option maxRecDepth 20000 in
theorem dL_law_66 : decode cL_law 66 = .ok (.invokestatic 130, 3) := by decide +kernel
set_option maxRecDepth 20000 in
theorem dL_law_69 : decode cL_law 69 = .ok (.aload_n 2, 1) := by decide +kernel
set_option maxRecDepth 20000 in
theorem dL_law_70 : decode cL_law 70 = .ok (.invokestatic 134, 3) := by decide +kernel
set_option maxRecDepth 20000 in
theorem dL_law_73 : decode cL_law 73 = .ok (.ifCond .eq 10, 3) := by decide +kernel
set_option maxRecDepth 20000 in
theorem dL_law_76 : decode cL_law 76 = .ok (.aload_n 1, 1) := by decide +kernel
set_option maxRecDepth 20000 in
theorem dL_law_77 : decode cL_law 77 = .ok (.invokestatic 126, 3) := by decide +kernel
set_option maxRecDepth 20000 in
theorem dL_law_80 : decode cL_law 80 = .ok (.ifCond .ne 5, 3) := by decide +kernel
set_option maxRecDepth 20000 in
theorem dL_law_83 : decode cL_law 83 = .ok (.iconst 0, 1) := by decide +kernel
set_option maxRecDepth 20000 in
theorem dL_law_84 : decode cL_law 84 = .ok (.ireturn, 1) := by decide +kernel
set_option maxRecDepth 20000 in
theorem dL_law_85 : decode cL_law 85 = .ok (.iinc 3 1, 3) := by decide +kernel
set_option maxRecDepth 20000 in
theorem dL_law_88 : decode cL_law 88 = .ok (.goto (-65), 3) := by decide +kernel
set_option maxRecDepth 20000 in
theorem dL_law_91 : decode cL_law 91 = .ok (.iconst 1, 1) := by decide +kernel
set_option maxRecDepth 20000 in
theorem dL_law_92 : decode cL_law 92 = .ok (.ireturn, 1) := by decide +kernel
end
section
/-! The facade: one memory of ints for all objects of the system (their graph never changes), one judgement sw_W for a walk over it, one form sv_Ct for a method's contract. -/
/-- launch, the first object's address, the classes' numbers and slots, the classes of the arrays of int, char, Transaction, State -/
abbrev sv_G : Type := Launch × Nat × va_G × ClassId × ClassId × ClassId × ClassId × Nat × Nat × Nat × Nat
/-- how many of the law's own rows stand (c, b, m, due), and how many cells lie ahead of b, of m, of due that nobody speaks of -/
abbrev gn (G : sv_G) : Nat := G.2.2.2.2.2.2.2.1
abbrev gx (G : sv_G) : Nat := G.2.2.2.2.2.2.2.2.1
abbrev gy (G : sv_G) : Nat := G.2.2.2.2.2.2.2.2.2.1
abbrev gz (G : sv_G) : Nat := G.2.2.2.2.2.2.2.2.2.2
/-- which State (8: the store, 9: the law), kind of object, which transaction, place -/
abbrev sv_Mem : Type := Nat → Nat → Nat → Nat → Int32
def sv_sb (i : Nat) : Nat := if i < 2 then 1 + 19 * i else 2 + 19 * i
def sv_off (k i j : Nat) : Nat := match k with
  | 0 => 0
  | 1 => 39
  | 2 => 154
  | 3 => 155
  | 4 => 156
  | 5 => 157
  | 6 => 158
  | 7 => 159
  | 10 => sv_sb i
  | 11 => sv_sb i + 1
  | 12 => sv_sb i + 2
  | 13 => sv_sb i + 3
  | 14 => sv_sb i + 4 + 5 * j
  | 15 => sv_sb i + 5 + 5 * j
  | 16 => sv_sb i + 6 + 5 * j
  | 17 => sv_sb i + 7 + 5 * j
  | _ => sv_sb i + 8 + 5 * j
abbrev sv_V0 (k i j : Nat) : Prop := (k < 4 ∧ i = 8 ∧ j = 0) ∨ (4 ≤ k ∧ k < 8 ∧ i = 9 ∧ j = 0) ∨ (10 ≤ k ∧ k < 14 ∧ i < 8 ∧ j = 0) ∨ (14 ≤ k ∧ k < 19 ∧ i < 8 ∧ j < 3)
abbrev sv_V (G : sv_G) (k i j : Nat) : Prop := (k < 4 ∧ i = 8 ∧ j = 0) ∨ (4 ≤ k ∧ k < 8 ∧ i = 9 ∧ j = 0 ∧ k - 4 < gn G) ∨ (10 ≤ k ∧ k < 14 ∧ i < 8 ∧ j = 0) ∨ (14 ≤ k ∧ k < 19 ∧ i < 8 ∧ j < 3)
def sv_n (G : sv_G) : Nat := 156 + min (gn G) 4
def sv_decS (i r : Nat) : Nat × Nat × Nat := if r < 4 then (10 + r, i, 0) else (14 + (r - 4) % 5, i, (r - 4) / 5)
def sv_dec (o : Nat) : Nat × Nat × Nat := if o = 0 then (0, 8, 0) else if o < 39 then sv_decS ((o - 1) / 19) ((o - 1) % 19) else if o = 39 then (1, 8, 0) else if o < 154 then sv_decS (2 + (o - 40) / 19) ((o - 40) % 19) else if o < 156 then (o - 152, 8, 0) else (o - 152, 9, 0)
def sv_xo (G : sv_G) (k : Nat) : Nat := match k with
  | 5 => gx G
  | 6 => gx G + gy G
  | 7 => gx G + gy G + gz G
  | _ => 0
def sv_ad (G : sv_G) (k i j : Nat) : Nat := G.2.1 + sv_off k i j + sv_xo G k
abbrev sv_cI (G : sv_G) : ClassId := G.2.2.2.1
abbrev sv_cC (G : sv_G) : ClassId := G.2.2.2.2.1
abbrev sv_cT (G : sv_G) : ClassId := G.2.2.2.2.2.1
abbrev sv_cS (G : sv_G) : ClassId := G.2.2.2.2.2.2.1
def sv_ent (G : sv_G) (M : sv_Mem) (k i j : Nat) : va_E := match k with
  | 0 => .inr (3, [.ref (sv_ad G 10 0 0), .ref (sv_ad G 10 1 0), .int (M i 0 j 2), .ref (sv_ad G 1 8 0), .int (M i 0 j 4), .int (M i 0 j 5), .ref (sv_ad G 2 8 0)])
  | 1 => .inl (sv_cS G, 6, .inr (.inr (.inr (.inr (fun q => some (sv_ad G 10 (q + 2) 0))))))
  | 2 => .inr (0, [.ref (sv_ad G 3 8 0), .int (M i 2 j 1)])
  | 3 => .inl (sv_cC G, 80, .inl (M i 3 j))
  | 4 => .inl (sv_cI G, 1, .inl (M i 4 j))
  | 5 => .inl (sv_cI G, 32, .inl (M i 5 j))
  | 6 => .inl (sv_cI G, 48, .inl (M i 6 j))
  | 7 => .inl (sv_cI G, 16, .inl (M i 7 j))
  | 8 => .inl (sv_cI G, 1, .inl (M i 8 j))
  | 9 => .inl (sv_cI G, 1, .inl (M i 9 j))
  | 10 => .inr (1, [.int (M i 10 j 0), .ref (sv_ad G 11 i 0), .ref (sv_ad G 12 i 0), .ref (sv_ad G 13 i 0)])
  | 11 => .inl (sv_cI G, 16, .inl (M i 11 j))
  | 12 => .inl (sv_cT G, 3, .inr (.inr (.inr (.inr (fun q => some (sv_ad G 14 i q))))))
  | 13 => .inl (sv_cI G, 7, .inl (M i 13 j))
  | 14 => .inr (2, [.int (M i 14 j 0), .int (M i 14 j 1), .ref (sv_ad G 15 i j), .ref (sv_ad G 16 i j), .ref (sv_ad G 17 i j), .ref (sv_ad G 18 i j)])
  | 15 => .inl (sv_cI G, 14, .inl (M i 15 j))
  | 16 => .inl (sv_cI G, 12, .inl (M i 16 j))
  | 17 => .inl (sv_cI G, 14, .inl (M i 17 j))
  | _ => .inl (sv_cI G, 224, .inl (M i 18 j))
def sv_cell (G : sv_G) (M : sv_Mem) (o : Nat) : Nat × va_E := (sv_ad G (sv_dec o).1 (sv_dec o).2.1 (sv_dec o).2.2, sv_ent G M (sv_dec o).1 (sv_dec o).2.1 (sv_dec o).2.2)
def sv_cells (G : sv_G) (M : sv_Mem) : va_W := (List.range (sv_n G)).map (sv_cell G M)
theorem sv_off_fin : (List.range 19).all (fun k => (List.range 10).all (fun i => (List.range 3).all (fun j => decide (sv_V0 k i j → sv_off k i j < 160 ∧ sv_dec (sv_off k i j) = (k, i, j) ∧ (k < 4 ∨ 10 ≤ k → sv_off k i j < 156) ∧ (4 ≤ k ∧ k < 8 → sv_off k i j = 152 + k))))) = true := by decide +kernel
theorem sv_dec_all : (List.range 160).all (fun o => decide (sv_V0 (sv_dec o).1 (sv_dec o).2.1 (sv_dec o).2.2 ∧ sv_off (sv_dec o).1 (sv_dec o).2.1 (sv_dec o).2.2 = o ∧ (o < 156 → (sv_dec o).1 < 4 ∨ 10 ≤ (sv_dec o).1) ∧ (156 ≤ o → (sv_dec o).1 = o - 152))) = true := by decide +kernel
theorem sv_dec_fin (o : Nat) (h : o < 160) : sv_V0 (sv_dec o).1 (sv_dec o).2.1 (sv_dec o).2.2 ∧ sv_off (sv_dec o).1 (sv_dec o).2.1 (sv_dec o).2.2 = o ∧ (o < 156 → (sv_dec o).1 < 4 ∨ 10 ≤ (sv_dec o).1) ∧ (156 ≤ o → (sv_dec o).1 = o - 152) := of_decide_eq_true (List.all_eq_true.mp sv_dec_all o (List.mem_range.mpr h))
theorem sv_off_at {G : sv_G} {k i j : Nat} (h : sv_V G k i j) : sv_off k i j < sv_n G ∧ sv_dec (sv_off k i j) = (k, i, j) := by
  have h0 : sv_V0 k i j := by omega
  obtain ⟨a1, a2, a3, a4⟩ := of_decide_eq_true (List.all_eq_true.mp (List.all_eq_true.mp (List.all_eq_true.mp sv_off_fin k (List.mem_range.mpr (by omega))) i (List.mem_range.mpr (by omega))) j (List.mem_range.mpr (by omega))) h0
  refine ⟨?_, a2⟩
  unfold sv_n
  rcases h with h | h | h | h
  · have := a3 (by omega); omega
  · have := a4 (by omega); omega
  · have := a3 (by omega); omega
  · have := a3 (by omega); omega
theorem sv_n_le (G : sv_G) : sv_n G ≤ 160 := by unfold sv_n; omega
theorem sv_cells_get (G : sv_G) (M : sv_Mem) {o : Nat} (h : o < sv_n G) : (sv_cells G M)[o]? = some (sv_cell G M o) := by
  unfold sv_cells
  rw [List.getElem?_map, List.getElem?_range h]
  rfl
theorem sv_cells_at {G : sv_G} {M : sv_Mem} {k i j : Nat} (h : sv_V G k i j) : (sv_cells G M)[sv_off k i j]? = some (sv_ad G k i j, sv_ent G M k i j) := by
  obtain ⟨h1, h2⟩ := sv_off_at h
  rw [sv_cells_get G M h1]
  unfold sv_cell
  rw [h2]
/-- where the cell of a place lies -/
theorem sv_cell_ad (G : sv_G) (M : sv_Mem) {o : Nat} (h : o < 160) : (sv_cell G M o).1 = G.2.1 + o + (if o < 157 then 0 else if o = 157 then gx G else if o = 158 then gx G + gy G else gx G + gy G + gz G) := by
  obtain ⟨h1, h2, h3, h4⟩ := sv_dec_fin o h
  show sv_ad G (sv_dec o).1 (sv_dec o).2.1 (sv_dec o).2.2 = _
  unfold sv_ad
  rw [h2]
  congr 1
  by_cases h5 : o < 157
  · rw [if_pos h5]
    have hk : (sv_dec o).1 < 5 ∨ 8 ≤ (sv_dec o).1 := by
      by_cases h6 : o < 156
      · have := h3 h6; omega
      · have := h4 (by omega); omega
    generalize (sv_dec o).1 = k at hk
    unfold sv_xo
    split <;> first | omega | rfl
  · rw [if_neg h5]
    have hk := h4 (by omega)
    rw [hk]
    have : o = 157 ∨ o = 158 ∨ o = 159 := by omega
    rcases this with rfl | rfl | rfl <;> rfl
theorem sv_ent_congr {G : sv_G} {M M' : sv_Mem} {k i j : Nat} (h : M i k j = M' i k j) (hk : k < 19) : sv_ent G M k i j = sv_ent G M' k i j := by
  match k, hk with
  | 0, _ => simp [sv_ent, h]
  | 1, _ => simp [sv_ent]
  | 2, _ => simp [sv_ent, h]
  | 3, _ => simp [sv_ent, h]
  | 4, _ => simp [sv_ent, h]
  | 5, _ => simp [sv_ent, h]
  | 6, _ => simp [sv_ent, h]
  | 7, _ => simp [sv_ent, h]
  | 8, _ => simp [sv_ent, h]
  | 9, _ => simp [sv_ent, h]
  | 10, _ => simp [sv_ent, h]
  | 11, _ => simp [sv_ent, h]
  | 12, _ => simp [sv_ent]
  | 13, _ => simp [sv_ent, h]
  | 14, _ => simp [sv_ent, h]
  | 15, _ => simp [sv_ent, h]
  | 16, _ => simp [sv_ent, h]
  | 17, _ => simp [sv_ent, h]
  | 18, _ => simp [sv_ent, h]
  | k + 19, hk => exact absurd hk (by omega)
theorem sv_cells_len (G : sv_G) (M : sv_Mem) : (sv_cells G M).length = sv_n G := by simp [sv_cells]
/-- one object's ints change: the others' rows stay -/
theorem sv_cells_set {G : sv_G} {M M' : sv_Mem} {k i j : Nat} (h : sv_V G k i j) (hm : ∀ k' i' j', ¬ (k' = k ∧ i' = i ∧ j' = j) → M' i' k' j' = M i' k' j') : (sv_cells G M).set (sv_off k i j) (sv_ad G k i j, sv_ent G M' k i j) = sv_cells G M' := by
  obtain ⟨h1, h2⟩ := sv_off_at h
  apply List.ext_getElem?
  intro o
  by_cases ho : o < sv_n G
  · by_cases hq : o = sv_off k i j
    · subst hq
      rw [List.getElem?_set_self (by rw [sv_cells_len]; exact h1), sv_cells_at h]
    · rw [List.getElem?_set_ne (fun z => hq z.symm), sv_cells_get G M ho, sv_cells_get G M' ho]
      obtain ⟨g1, g2, -, -⟩ := sv_dec_fin o (Nat.lt_of_lt_of_le ho (sv_n_le G))
      unfold sv_cell
      rw [sv_ent_congr (M := M) (M' := M') (hm _ _ _ (fun z => hq ?_)).symm (by omega)]
      obtain ⟨z1, z2, z3⟩ := z
      rw [z1, z2, z3] at g2
      exact g2.symm
  · rw [List.getElem?_eq_none (by rw [List.length_set, sv_cells_len]; omega), List.getElem?_eq_none (by rw [sv_cells_len]; omega)]
theorem sv_cells_D {G : sv_G} {M : sv_Mem} {A : Nat → Prop} (hA : ∀ q, G.2.1 ≤ q → A q) : va_D A (sv_cells G M) := by
  have key : ∀ (o : Nat) (q : Nat × va_E), (sv_cells G M)[o]? = some q → o < 160 ∧ q.1 = G.2.1 + o + (if o < 157 then 0 else if o = 157 then gx G else if o = 158 then gx G + gy G else gx G + gy G + gz G) := by
    intro o q hq
    have ho : o < sv_n G := by have := (List.getElem?_eq_some_iff.mp hq).1; rw [sv_cells_len] at this; exact this
    have ho2 := Nat.lt_of_lt_of_le ho (sv_n_le G)
    rw [sv_cells_get G M ho] at hq
    cases hq
    exact ⟨ho2, sv_cell_ad G M ho2⟩
  refine ⟨fun a b p q hp hq hpq => ?_, fun a q hq => ?_⟩
  · obtain ⟨l1, h1⟩ := key a p hp
    obtain ⟨l2, h2⟩ := key b q hq
    rw [h1, h2] at hpq
    split at hpq <;> split at hpq <;> (repeat' split at hpq) <;> omega
  · rw [(key a q hq).2]
    exact hA _ (by omega)
/-- a memory with one int changed -/
def sv_up (M : sv_Mem) (i k j n : Nat) (v : Int32) : sv_Mem := va_up M i (va_up (M i) k (va_up (M i k) j (va_up (M i k j) n v)))
theorem sv_up_at (M : sv_Mem) (i k j n : Nat) (v : Int32) : sv_up M i k j n v i k j = va_up (M i k j) n v := by
  unfold sv_up
  rw [va_up_self, va_up_self, va_up_self]
theorem sv_up_ne (M : sv_Mem) (i k j n : Nat) (v : Int32) : ∀ k' i' j', ¬ (k' = k ∧ i' = i ∧ j' = j) → sv_up M i k j n v i' k' j' = M i' k' j' := by
  intro k' i' j' h
  unfold sv_up
  by_cases hi : i' = i
  · subst hi
    rw [va_up_self]
    by_cases hk : k' = k
    · subst hk
      rw [va_up_self]
      exact va_up_ne _ _ (fun z => h ⟨rfl, rfl, z⟩)
    · rw [va_up_ne _ _ hk]
  · rw [va_up_ne _ _ hi]
/-- the array at a role gets another row of ints -/
def sv_upA (M : sv_Mem) (i k j : Nat) (f : Nat → Int32) : sv_Mem := va_up M i (va_up (M i) k (va_up (M i k) j f))
theorem sv_upA_at (M : sv_Mem) (i k j : Nat) (f : Nat → Int32) : sv_upA M i k j f i k j = f := by
  unfold sv_upA
  rw [va_up_self, va_up_self, va_up_self]
theorem sv_upA_ne (M : sv_Mem) (i k j : Nat) (f : Nat → Int32) : ∀ k' i' j', ¬ (k' = k ∧ i' = i ∧ j' = j) → sv_upA M i k j f i' k' j' = M i' k' j' := by
  intro k' i' j' h
  unfold sv_upA
  by_cases hi : i' = i
  · subst hi
    rw [va_up_self]
    by_cases hk : k' = k
    · subst hk
      rw [va_up_self]
      exact va_up_ne _ _ (fun z => h ⟨rfl, rfl, z⟩)
    · rw [va_up_ne _ _ hk]
  · rw [va_up_ne _ _ hi]
theorem sv_upA_up (M : sv_Mem) (i k j n : Nat) (v : Int32) : sv_upA M i k j (va_up (M i k j) n v) = sv_up M i k j n v := rfl
abbrev sv_tys (G : sv_G) : List (ClassId × FieldType) := [(sv_cI G, .int), (sv_cC G, .char), (sv_cT G, .object "SavepointStore$Transaction"), (sv_cS G, .object "SavepointStore$State")]
/-- what a walk stands on: program, environment, room, start, method .., heap at the start, cells that may change, cells and slots made, the end -/
abbrev sv_K : Type := Program × Env × Room × State × MethodId × Array Value × List Frame × Method × Code × Heap × (Nat → Prop) × Nat × Nat × (State → Prop)
abbrev kp (K : sv_K) : Program := K.1
abbrev ke (K : sv_K) : Env := K.2.1
abbrev kR (K : sv_K) : Room := K.2.2.1
abbrev ks (K : sv_K) : State := K.2.2.2.1
abbrev km (K : sv_K) : MethodId := K.2.2.2.2.1
abbrev kargs (K : sv_K) : Array Value := K.2.2.2.2.2.1
abbrev kbelow (K : sv_K) : List Frame := K.2.2.2.2.2.2.1
abbrev kmeth (K : sv_K) : Method := K.2.2.2.2.2.2.2.1
abbrev kc (K : sv_K) : Code := K.2.2.2.2.2.2.2.2.1
abbrev kH (K : sv_K) : Heap := K.2.2.2.2.2.2.2.2.2.1
abbrev kA (K : sv_K) : Nat → Prop := K.2.2.2.2.2.2.2.2.2.2.1
abbrev kcells (K : sv_K) : Nat := K.2.2.2.2.2.2.2.2.2.2.2.1
abbrev kslots (K : sv_K) : Nat := K.2.2.2.2.2.2.2.2.2.2.2.2.1
abbrev kQ (K : sv_K) : State → Prop := K.2.2.2.2.2.2.2.2.2.2.2.2.2
/-- the locals: those that are known -/
def sv_L (ls : Array Slot) (nL : Nat) (lo : List (Option Value)) : Prop := ls.size = nL ∧ lv_wf ls ∧ lo.length = nL ∧ ∀ (i : Nat) (v : Value), lo[i]? = some (some v) → ls[i]? = some (.val v)
def sw_W (G : sv_G) (K : sv_K) (nL : Nat) (pc : Nat) (lo : List (Option Value)) (st : List Value) (M : sv_Mem) : Prop :=
  ∀ (H : Heap) (locs : List Loc) (ls : Array Slot), va_P G.2.2.1 vwCl (sv_cells G M) H → va_S (kA K) (kH K) H locs → sv_L ls nL lo →
    W (kp K) G.1 (ke K) (kR K) (ks K) (km K) (kargs K) (kbelow K) (kmeth K) (kc K) H locs (kcells K) (kslots K) (kQ K) (F0 (km K) pc ls st)
def sv_X (G : sv_G) (K : sv_K) (cc : ByteArray) (own : String) (nL d : Nat) : Prop :=
  (kp K).tables.exec = Jvm.exec ∧ (kc K).code = cc ∧ (kc K).maxLocals = nL ∧ (ks K).vm.findClass own = some (km K).cls ∧ (∀ w ∈ lw_g, w.before (kargs K) (ks K) = true) ∧ va_K G.2.2.1 vwCl (sv_tys G) (ks K) ∧ (∀ q, G.2.1 ≤ q → kA K q) ∧ d ≤ (kR K).frames ∧ 36 * d ≤ (kR K).locals ∧ kcells K ≤ (kR K).cells ∧ kslots K ≤ (kR K).slots ∧ sv_Nw (ks K)
/-- a method: name, code, locals, type -/
abbrev sv_M : Type := MethodName × ByteArray × Nat × Option FieldType
def sv_ws (m : sv_M) : List Cond := .code m.1 m.2.1 m.2.2.1 m.2.2.2 :: lw_g
def sv_room (d : Nat) : Room := { frames := d, cells := 0, slots := 0, locals := 36 * d }
def sv_Qc (G : sv_G) (ret : Option Value) (M' : sv_Mem) : Array Value → State → Outcome → State → Prop := fun _ st oc t => oc = .returned ret ∧ va_P G.2.2.1 vwCl (sv_cells G M') t.heap ∧ va_F (fun q => G.2.1 ≤ q) st t
def sv_Pc (G : sv_G) (args : List Value) (M : sv_Mem) : Array Value → State → Prop := va_Pc args (fun U => va_P G.2.2.1 vwCl (sv_cells G M) U.heap ∧ va_K G.2.2.1 vwCl (sv_tys G) U ∧ sv_Nw U)
/-- a method's contract: of these arguments over this memory it answers ret and leaves that memory; it makes nothing -/
def sv_Ct (G : sv_G) (m : sv_M) (d : Nat) (args : List Value) (M : sv_Mem) (ret : Option Value) (M' : sv_Mem) : Prop :=
  Met G.1 m.1 (sv_ws m) (sv_room d) (sv_Pc G args M) (sv_Qc G ret M') 0 0 (fun q => G.2.1 ≤ q)
/-- a walk that is a method's, with its answer and its memory at the end -/
def sv_Y (G : sv_G) (K : sv_K) (rt : Option FieldType) (ret : Option Value) (M' : sv_Mem) : Prop :=
  kQ K = MQ (kbelow K) (sv_Qc G ret M') (kargs K) (ks K) (kcells K) (kslots K) (fun q => G.2.1 ≤ q) ∧ (kmeth K).sig.returnType = rt ∧ (kmeth K).locks = false ∧ kH K = (ks K).heap ∧ kA K = (fun q => G.2.1 ≤ q)
end
section
/-- a Prop as Java's boolean -/
def bI (b : Prop) [Decidable b] : Int32 := if b then nI 1 else nI 0
theorem bI_eq0 {b : Prop} [Decidable b] : bI b = 0 ↔ ¬ b := by
  unfold bI
  split <;> rename_i h
  · exact ⟨fun e => absurd e (by decide), fun e => absurd h e⟩
  · exact ⟨fun _ => h, fun _ => rfl⟩
theorem bI_ne0 {b : Prop} [Decidable b] : ¬ bI b = 0 ↔ b := by rw [bI_eq0]; exact Decidable.not_not
theorem bI_t {b : Prop} [Decidable b] (h : b) : bI b = nI 1 := if_pos h
theorem bI_f {b : Prop} [Decidable b] (h : ¬ b) : bI b = nI 0 := if_neg h
theorem bI_congr {a b : Prop} [Decidable a] [Decidable b] (h : a ↔ b) : bI a = bI b := by unfold bI; simp [h]
def sv_ushr (x y : Int32) : Int32 := (x.toUInt32 >>> (y.toUInt32 &&& Int32.toUInt32 31)).toInt32
/-- of one slot, or not known -/
def sv_c1 : Option Value → Prop
  | some (.double _) => False
  | some (.long _) => False
  | _ => True
theorem sv_X_own {G : sv_G} {K : sv_K} {cc : ByteArray} {own : String} {nL d : Nat} (X : sv_X G K cc own nL d) : (ks K).vm.findClass own = some (km K).cls := X.2.2.2.1
theorem sv_X_word {G : sv_G} {K : sv_K} {cc : ByteArray} {own : String} {nL d : Nat} (X : sv_X G K cc own nL d) {w : Cond} (h : w ∈ lw_g) : w.before (kargs K) (ks K) = true := X.2.2.2.2.1 w h
theorem sv_X_K {G : sv_G} {K : sv_K} {cc : ByteArray} {own : String} {nL d : Nat} (X : sv_X G K cc own nL d) : va_K G.2.2.1 vwCl (sv_tys G) (ks K) := X.2.2.2.2.2.1
theorem sv_X_A {G : sv_G} {K : sv_K} {cc : ByteArray} {own : String} {nL d : Nat} (X : sv_X G K cc own nL d) : ∀ q, G.2.1 ≤ q → kA K q := X.2.2.2.2.2.2.1
theorem sv_X_R {G : sv_G} {K : sv_K} {cc : ByteArray} {own : String} {nL d : Nat} (X : sv_X G K cc own nL d) : d ≤ (kR K).frames ∧ 36 * d ≤ (kR K).locals ∧ kcells K ≤ (kR K).cells ∧ kslots K ≤ (kR K).slots := ⟨X.2.2.2.2.2.2.2.1, X.2.2.2.2.2.2.2.2.1, X.2.2.2.2.2.2.2.2.2.1, X.2.2.2.2.2.2.2.2.2.2.1⟩
theorem sv_X_nest {G : sv_G} {K : sv_K} {cc : ByteArray} {own : String} {nL d : Nat} (X : sv_X G K cc own nL d) {w : Cond} (h : w ∈ lw_n) : va_Nw w (ks K) := X.2.2.2.2.2.2.2.2.2.2.2 w h
/-- the known locals as the kit's list -/
def sv_lst (lo : List (Option Value)) : List (Nat × Value) := (List.range lo.length).filterMap (fun i => match lo[i]? with
  | some (some v) => some (i, v)
  | _ => none)
theorem sv_lst_mem {lo : List (Option Value)} {q : Nat × Value} : q ∈ sv_lst lo ↔ lo[q.1]? = some (some q.2) := by
  unfold sv_lst
  rw [List.mem_filterMap]
  constructor
  · rintro ⟨i, hi, h⟩
    split at h
    · rename_i v hv
      cases h
      exact hv
    · cases h
  · intro h
    refine ⟨q.1, List.mem_range.mpr (List.getElem?_eq_some_iff.mp h).1, ?_⟩
    rw [h]
theorem sv_L_has {ls : Array Slot} {nL : Nat} {lo : List (Option Value)} (h : sv_L ls nL lo) : lv_has ls nL (sv_lst lo) := ⟨h.1, h.2.1, fun q hq => h.2.2.2 q.1 q.2 (sv_lst_mem.mp hq)⟩
theorem sv_L_lt {ls : Array Slot} {nL : Nat} {lo : List (Option Value)} (h : sv_L ls nL lo) {i : Nat} (hi : i < lo.length) : i < nL := by rw [← h.2.2.1]; exact hi
theorem sv_L_place {ls : Array Slot} {nL : Nat} {lo : List (Option Value)} (h : sv_L ls nL lo) {i : Nat} {v : Value} (hi : lo[i]? = some (some v)) : ∃ q : Nat, (sv_lst lo)[q]? = some (i, v) := by
  have := sv_lst_mem (lo := lo) (q := (i, v)) |>.mpr hi
  exact List.getElem?_of_mem this
theorem sv_L_set {ls ls2 : Array Slot} {nL : Nat} {lo lo2 : List (Option Value)} {w : Value} (h : sv_L ls nL lo) {i : Nat}
    (h2 : lv_has ls2 nL ((i, w) :: (sv_lst lo).filter (fun q => !(q.1 == i) && !(q.1 + 1 == i && q.2.category == 2)))) (hi : i < lo.length) (he : lo.set i (some w) = lo2)
    (hc : ∀ (k : Nat) (v : Value), lo[k]? = some (some v) → v.category = 2 → k + 1 = i → False) : sv_L ls2 nL lo2 := by
  subst he
  refine ⟨h2.1, h2.2.1, by rw [List.length_set]; exact h.2.2.1, fun k v hk => ?_⟩
  by_cases hki : k = i
  · subst hki
    rw [List.getElem?_set_self hi] at hk
    cases hk
    exact h2.2.2 (k, w) List.mem_cons_self
  · rw [List.getElem?_set_ne (fun z => hki z.symm)] at hk
    refine h2.2.2 (k, v) (List.mem_cons_of_mem _ (List.mem_filter.mpr ⟨sv_lst_mem.mpr hk, ?_⟩))
    simp only [Bool.and_eq_true, Bool.not_eq_true', beq_eq_false_iff_ne, ne_eq, Bool.and_eq_false_iff]
    refine ⟨hki, ?_⟩
    by_cases hq : k + 1 = i
    · exact Or.inr (fun z => hc k v hk z hq)
    · exact Or.inl hq
theorem sv_L_drop {ls : Array Slot} {nL : Nat} {lo lo2 : List (Option Value)} (h : sv_L ls nL lo) (i : Nat) (he : lo.set i none = lo2) : sv_L ls nL lo2 := by
  subst he
  refine ⟨h.1, h.2.1, by rw [List.length_set]; exact h.2.2.1, fun k v hk => ?_⟩
  by_cases hki : k = i
  · subst hki
    by_cases hl : k < lo.length
    · rw [List.getElem?_set_self hl] at hk
      cases hk
    · rw [List.getElem?_eq_none (by rw [List.length_set]; omega)] at hk
      cases hk
  · rw [List.getElem?_set_ne (fun z => hki z.symm)] at hk
    exact h.2.2.2 k v hk
theorem sv_c1_no {lo : List (Option Value)} {k0 : Nat} {w : Option Value} (hw : lo[k0]? = some w) (h : sv_c1 w) : ∀ (k : Nat) (v : Value), lo[k]? = some (some v) → v.category = 2 → k + 1 = k0 + 1 → False := by
  intro k v hv hc hk
  have e : k = k0 := by omega
  subst e
  rw [hw] at hv
  cases hv
  cases v <;> first | exact h | (simp [Value.category] at hc)

section SWP
variable {G : sv_G} {K : sv_K} {cc : ByteArray} {own : String} {nL d : Nat} {M : sv_Mem} {pc : Nat} {lo : List (Option Value)} {rest : List Value}
theorem sw_iadd (X : sv_X G K cc own nL d) {x y : Int32} (hd : decode cc pc = .ok (.iadd, 1)) (k : sw_W G K nL (pc + 1) lo (.int (x + y) :: rest) M) : sw_W G K nL pc lo (.int y :: .int x :: rest) M := fun H locs ls hP hS hL => lv_iadd X.1 X.2.1 hd (k H locs ls hP hS hL)
theorem sw_isub (X : sv_X G K cc own nL d) {x y : Int32} (hd : decode cc pc = .ok (.isub, 1)) (k : sw_W G K nL (pc + 1) lo (.int (x - y) :: rest) M) : sw_W G K nL pc lo (.int y :: .int x :: rest) M := fun H locs ls hP hS hL => lv_isub X.1 X.2.1 hd (k H locs ls hP hS hL)
theorem sw_imul (X : sv_X G K cc own nL d) {x y : Int32} (hd : decode cc pc = .ok (.imul, 1)) (k : sw_W G K nL (pc + 1) lo (.int (x * y) :: rest) M) : sw_W G K nL pc lo (.int y :: .int x :: rest) M := fun H locs ls hP hS hL => lv_imul X.1 X.2.1 hd (k H locs ls hP hS hL)
theorem sw_iand (X : sv_X G K cc own nL d) {x y : Int32} (hd : decode cc pc = .ok (.iand, 1)) (k : sw_W G K nL (pc + 1) lo (.int (x &&& y) :: rest) M) : sw_W G K nL pc lo (.int y :: .int x :: rest) M := fun H locs ls hP hS hL => lv_iand X.1 X.2.1 hd (k H locs ls hP hS hL)
theorem sw_ior (X : sv_X G K cc own nL d) {x y : Int32} (hd : decode cc pc = .ok (.ior, 1)) (k : sw_W G K nL (pc + 1) lo (.int (x ||| y) :: rest) M) : sw_W G K nL pc lo (.int y :: .int x :: rest) M := fun H locs ls hP hS hL => lv_ior X.1 X.2.1 hd (k H locs ls hP hS hL)
theorem sw_ixor (X : sv_X G K cc own nL d) {x y : Int32} (hd : decode cc pc = .ok (.ixor, 1)) (k : sw_W G K nL (pc + 1) lo (.int (x ^^^ y) :: rest) M) : sw_W G K nL pc lo (.int y :: .int x :: rest) M := fun H locs ls hP hS hL => lv_ixor X.1 X.2.1 hd (k H locs ls hP hS hL)
theorem sw_ishl (X : sv_X G K cc own nL d) {x y : Int32} (hd : decode cc pc = .ok (.ishl, 1)) (k : sw_W G K nL (pc + 1) lo (.int (x <<< (y &&& 31)) :: rest) M) : sw_W G K nL pc lo (.int y :: .int x :: rest) M := fun H locs ls hP hS hL => lv_ishl X.1 X.2.1 hd (k H locs ls hP hS hL)
theorem sw_ishr (X : sv_X G K cc own nL d) {x y : Int32} (hd : decode cc pc = .ok (.ishr, 1)) (k : sw_W G K nL (pc + 1) lo (.int (x >>> (y &&& 31)) :: rest) M) : sw_W G K nL pc lo (.int y :: .int x :: rest) M := fun H locs ls hP hS hL => lv_ishr X.1 X.2.1 hd (k H locs ls hP hS hL)
theorem sw_iushr (X : sv_X G K cc own nL d) {x y : Int32} (hd : decode cc pc = .ok (.iushr, 1)) (k : sw_W G K nL (pc + 1) lo (.int (sv_ushr x y) :: rest) M) : sw_W G K nL pc lo (.int y :: .int x :: rest) M := fun H locs ls hP hS hL => lv_iushr X.1 X.2.1 hd rfl (k H locs ls hP hS hL)
theorem sw_irem (X : sv_X G K cc own nL d) {x y : Int32} (hne : ¬ y = 0) (hd : decode cc pc = .ok (.irem, 1)) (k : sw_W G K nL (pc + 1) lo (.int (x - x / y * y) :: rest) M) : sw_W G K nL pc lo (.int y :: .int x :: rest) M := fun H locs ls hP hS hL => lv_irem X.1 X.2.1 hd hne (k H locs ls hP hS hL)
theorem sw_ineg (X : sv_X G K cc own nL d) {x : Int32} (hd : decode cc pc = .ok (.ineg, 1)) (k : sw_W G K nL (pc + 1) lo (.int (-x) :: rest) M) : sw_W G K nL pc lo (.int x :: rest) M := fun H locs ls hP hS hL => lv_ineg X.1 X.2.1 hd (k H locs ls hP hS hL)
theorem sw_i2c (X : sv_X G K cc own nL d) {x v : Int32} (hd : decode cc pc = .ok (.i2c, 1)) (hv : (x.toUInt32 % 65536).toInt32 = v) (k : sw_W G K nL (pc + 1) lo (.int v :: rest) M) : sw_W G K nL pc lo (.int x :: rest) M := fun H locs ls hP hS hL => lv_i2c X.1 X.2.1 hd hv (k H locs ls hP hS hL)
theorem sw_i2d (X : sv_X G K cc own nL d) {x : Int32} (hd : decode cc pc = .ok (.i2d, 1)) (k : sw_W G K nL (pc + 1) lo (.double (FP.i2d x) :: rest) M) : sw_W G K nL pc lo (.int x :: rest) M := fun H locs ls hP hS hL => lv_i2d X.1 X.2.1 hd (k H locs ls hP hS hL)
theorem sw_ddiv (X : sv_X G K cc own nL d) {x y : UInt64} (hne : vf_n64 (FP.ddiv x y)) (hd : decode cc pc = .ok (.ddiv, 1)) (k : sw_W G K nL (pc + 1) lo (.double (FP.ddiv x y) :: rest) M) : sw_W G K nL pc lo (.double y :: .double x :: rest) M := fun H locs ls hP hS hL => lv_ddiv X.1 X.2.1 hd hne (k H locs ls hP hS hL)
theorem sw_dcmp (X : sv_X G K cc own nL d) {x y : UInt64} {op : CmpOp} (hd : decode cc pc = .ok (.dcmp op, 1)) (k : sw_W G K nL (pc + 1) lo (.int (Op.cmpValue (FP.dcmp x y) op) :: rest) M) : sw_W G K nL pc lo (.double y :: .double x :: rest) M := fun H locs ls hP hS hL => lv_dcmp X.1 X.2.1 hd (k H locs ls hP hS hL)
theorem sw_dconst0 (X : sv_X G K cc own nL d) (hd : decode cc pc = .ok (.dconst 0, 1)) (k : sw_W G K nL (pc + 1) lo (.double FP.dconst0 :: rest) M) : sw_W G K nL pc lo rest M := fun H locs ls hP hS hL => lv_dconst0 X.1 X.2.1 hd (k H locs ls hP hS hL)
theorem sw_iconst (X : sv_X G K cc own nL d) {n : Int} (v : Int32) (hd : decode cc pc = .ok (.iconst n, 1)) (hv : Int32.ofInt n = v) (k : sw_W G K nL (pc + 1) lo (.int v :: rest) M) : sw_W G K nL pc lo rest M := fun H locs ls hP hS hL => lv_iconst X.1 X.2.1 hd hv (k H locs ls hP hS hL)
theorem sw_bipush (X : sv_X G K cc own nL d) {n : Int} (v : Int32) (hd : decode cc pc = .ok (.bipush n, 2)) (hv : (Int8.ofInt n).toInt32 = v) (k : sw_W G K nL (pc + 2) lo (.int v :: rest) M) : sw_W G K nL pc lo rest M := fun H locs ls hP hS hL => lv_bipush X.1 X.2.1 hd hv (k H locs ls hP hS hL)
theorem sw_sipush (X : sv_X G K cc own nL d) {n : Int} (v : Int32) (hd : decode cc pc = .ok (.sipush n, 3)) (hv : (Int16.ofInt n).toInt32 = v) (k : sw_W G K nL (pc + 3) lo (.int v :: rest) M) : sw_W G K nL pc lo rest M := fun H locs ls hP hS hL => lv_sipush X.1 X.2.1 hd hv (k H locs ls hP hS hL)
theorem sw_ldc (X : sv_X G K cc own nL d) {index : Nat} {v : Int32} (hw : Cond.constant own index v ∈ lw_g) (hd : decode cc pc = .ok (.ldc index, 2)) (k : sw_W G K nL (pc + 2) lo (.int v :: rest) M) : sw_W G K nL pc lo rest M := fun H locs ls hP hS hL => lv_ldc X.1 X.2.1 (sv_X_own X) (sv_X_word X hw) hd (k H locs ls hP hS hL)
theorem sw_ldcw (X : sv_X G K cc own nL d) {index : Nat} {v : Int32} (hw : Cond.constant own index v ∈ lw_g) (hd : decode cc pc = .ok (.ldc_w index, 3)) (k : sw_W G K nL (pc + 3) lo (.int v :: rest) M) : sw_W G K nL pc lo rest M := fun H locs ls hP hS hL => lv_ldcw X.1 X.2.1 (sv_X_own X) (sv_X_word X hw) hd (k H locs ls hP hS hL)
theorem sw_top {v v2 : Value} (h : v = v2) (k : sw_W G K nL pc lo (v2 :: rest) M) : sw_W G K nL pc lo (v :: rest) M := h ▸ k
theorem sw_tope {v v2 : Int32} (h : v = v2) (k : sw_W G K nL pc lo (.int v2 :: rest) M) : sw_W G K nL pc lo (.int v :: rest) M := h ▸ k
theorem sw_mem {M2 : sv_Mem} (h : M = M2) (k : sw_W G K nL pc lo rest M2) : sw_W G K nL pc lo rest M := h ▸ k
theorem sw_name {x : Int32} (k : ∀ y : Int32, y = x → sw_W G K nL pc lo (.int y :: rest) M) : sw_W G K nL pc lo (.int x :: rest) M := k x rfl
theorem sw_dup (X : sv_X G K cc own nL d) {va : Value} (hd : decode cc pc = .ok (.dup, 1)) (hva : va.category = 1) (k : sw_W G K nL (pc + 1) lo (va :: va :: rest) M) : sw_W G K nL pc lo (va :: rest) M := fun H locs ls hP hS hL => lv_dup X.1 X.2.1 hd hva (k H locs ls hP hS hL)
theorem sw_pop (X : sv_X G K cc own nL d) {va : Value} (hd : decode cc pc = .ok (.pop, 1)) (hva : va.category = 1) (k : sw_W G K nL (pc + 1) lo rest M) : sw_W G K nL pc lo (va :: rest) M := fun H locs ls hP hS hL => lv_pop X.1 X.2.1 hd hva (k H locs ls hP hS hL)
theorem sw_dup2 (X : sv_X G K cc own nL d) {va vb : Value} (hd : decode cc pc = .ok (.dup2, 1)) (hva : va.category = 1) (hvb : vb.category = 1) (k : sw_W G K nL (pc + 1) lo (va :: vb :: va :: vb :: rest) M) : sw_W G K nL pc lo (va :: vb :: rest) M := fun H locs ls hP hS hL => lv_dup2_11 X.1 X.2.1 hd hva hvb (k H locs ls hP hS hL)
theorem sw_dup_x1 (X : sv_X G K cc own nL d) {va vb : Value} (hd : decode cc pc = .ok (.dup_x1, 1)) (hva : va.category = 1) (hvb : vb.category = 1) (k : sw_W G K nL (pc + 1) lo (va :: vb :: va :: rest) M) : sw_W G K nL pc lo (va :: vb :: rest) M := fun H locs ls hP hS hL => lv_dup_x1 X.1 X.2.1 hd hva hvb (k H locs ls hP hS hL)
theorem sw_if_eq (X : sv_X G K cc own nL d) {x : Int32} {off : Int} (tgt : Nat) (hd : decode cc pc = .ok (.ifCond .eq off, 3)) (ht : (pc : Int) + off = (tgt : Int)) (kt : x = 0 → sw_W G K nL tgt lo rest M) (kf : ¬ (x = 0) → sw_W G K nL (pc + 3) lo rest M) : sw_W G K nL pc lo (.int x :: rest) M := fun H locs ls hP hS hL => lv_if_eq X.1 X.2.1 hd ht (fun h => kt h H locs ls hP hS hL) (fun h => kf h H locs ls hP hS hL)
theorem sw_if_ne (X : sv_X G K cc own nL d) {x : Int32} {off : Int} (tgt : Nat) (hd : decode cc pc = .ok (.ifCond .ne off, 3)) (ht : (pc : Int) + off = (tgt : Int)) (kt : ¬ x = 0 → sw_W G K nL tgt lo rest M) (kf : x = 0 → sw_W G K nL (pc + 3) lo rest M) : sw_W G K nL pc lo (.int x :: rest) M := fun H locs ls hP hS hL => lv_if_ne X.1 X.2.1 hd ht (fun h => kt h H locs ls hP hS hL) (fun h => kf h H locs ls hP hS hL)
theorem sw_if_lt (X : sv_X G K cc own nL d) {x : Int32} {off : Int} (tgt : Nat) (hd : decode cc pc = .ok (.ifCond .lt off, 3)) (ht : (pc : Int) + off = (tgt : Int)) (kt : x < 0 → sw_W G K nL tgt lo rest M) (kf : ¬ (x < 0) → sw_W G K nL (pc + 3) lo rest M) : sw_W G K nL pc lo (.int x :: rest) M := fun H locs ls hP hS hL => lv_if_lt X.1 X.2.1 hd ht (fun h => kt h H locs ls hP hS hL) (fun h => kf h H locs ls hP hS hL)
theorem sw_if_ge (X : sv_X G K cc own nL d) {x : Int32} {off : Int} (tgt : Nat) (hd : decode cc pc = .ok (.ifCond .ge off, 3)) (ht : (pc : Int) + off = (tgt : Int)) (kt : 0 ≤ x → sw_W G K nL tgt lo rest M) (kf : ¬ (0 ≤ x) → sw_W G K nL (pc + 3) lo rest M) : sw_W G K nL pc lo (.int x :: rest) M := fun H locs ls hP hS hL => lv_if_ge X.1 X.2.1 hd ht (fun h => kt h H locs ls hP hS hL) (fun h => kf h H locs ls hP hS hL)
theorem sw_if_gt (X : sv_X G K cc own nL d) {x : Int32} {off : Int} (tgt : Nat) (hd : decode cc pc = .ok (.ifCond .gt off, 3)) (ht : (pc : Int) + off = (tgt : Int)) (kt : 0 < x → sw_W G K nL tgt lo rest M) (kf : ¬ (0 < x) → sw_W G K nL (pc + 3) lo rest M) : sw_W G K nL pc lo (.int x :: rest) M := fun H locs ls hP hS hL => lv_if_gt X.1 X.2.1 hd ht (fun h => kt h H locs ls hP hS hL) (fun h => kf h H locs ls hP hS hL)
theorem sw_if_le (X : sv_X G K cc own nL d) {x : Int32} {off : Int} (tgt : Nat) (hd : decode cc pc = .ok (.ifCond .le off, 3)) (ht : (pc : Int) + off = (tgt : Int)) (kt : x ≤ 0 → sw_W G K nL tgt lo rest M) (kf : ¬ (x ≤ 0) → sw_W G K nL (pc + 3) lo rest M) : sw_W G K nL pc lo (.int x :: rest) M := fun H locs ls hP hS hL => lv_if_le X.1 X.2.1 hd ht (fun h => kt h H locs ls hP hS hL) (fun h => kf h H locs ls hP hS hL)
theorem sw_icmp_eq (X : sv_X G K cc own nL d) {x y : Int32} {off : Int} (tgt : Nat) (hd : decode cc pc = .ok (.if_icmp .eq off, 3)) (ht : (pc : Int) + off = (tgt : Int)) (kt : x = y → sw_W G K nL tgt lo rest M) (kf : ¬ (x = y) → sw_W G K nL (pc + 3) lo rest M) : sw_W G K nL pc lo (.int y :: .int x :: rest) M := fun H locs ls hP hS hL => lv_icmp_eq X.1 X.2.1 hd ht (fun h => kt h H locs ls hP hS hL) (fun h => kf h H locs ls hP hS hL)
theorem sw_icmp_ne (X : sv_X G K cc own nL d) {x y : Int32} {off : Int} (tgt : Nat) (hd : decode cc pc = .ok (.if_icmp .ne off, 3)) (ht : (pc : Int) + off = (tgt : Int)) (kt : ¬ x = y → sw_W G K nL tgt lo rest M) (kf : x = y → sw_W G K nL (pc + 3) lo rest M) : sw_W G K nL pc lo (.int y :: .int x :: rest) M := fun H locs ls hP hS hL => lv_icmp_ne X.1 X.2.1 hd ht (fun h => kt h H locs ls hP hS hL) (fun h => kf h H locs ls hP hS hL)
theorem sw_icmp_lt (X : sv_X G K cc own nL d) {x y : Int32} {off : Int} (tgt : Nat) (hd : decode cc pc = .ok (.if_icmp .lt off, 3)) (ht : (pc : Int) + off = (tgt : Int)) (kt : x < y → sw_W G K nL tgt lo rest M) (kf : ¬ (x < y) → sw_W G K nL (pc + 3) lo rest M) : sw_W G K nL pc lo (.int y :: .int x :: rest) M := fun H locs ls hP hS hL => lv_icmp_lt X.1 X.2.1 hd ht (fun h => kt h H locs ls hP hS hL) (fun h => kf h H locs ls hP hS hL)
theorem sw_icmp_ge (X : sv_X G K cc own nL d) {x y : Int32} {off : Int} (tgt : Nat) (hd : decode cc pc = .ok (.if_icmp .ge off, 3)) (ht : (pc : Int) + off = (tgt : Int)) (kt : y ≤ x → sw_W G K nL tgt lo rest M) (kf : ¬ (y ≤ x) → sw_W G K nL (pc + 3) lo rest M) : sw_W G K nL pc lo (.int y :: .int x :: rest) M := fun H locs ls hP hS hL => lv_icmp_ge X.1 X.2.1 hd ht (fun h => kt h H locs ls hP hS hL) (fun h => kf h H locs ls hP hS hL)
theorem sw_icmp_gt (X : sv_X G K cc own nL d) {x y : Int32} {off : Int} (tgt : Nat) (hd : decode cc pc = .ok (.if_icmp .gt off, 3)) (ht : (pc : Int) + off = (tgt : Int)) (kt : y < x → sw_W G K nL tgt lo rest M) (kf : ¬ (y < x) → sw_W G K nL (pc + 3) lo rest M) : sw_W G K nL pc lo (.int y :: .int x :: rest) M := fun H locs ls hP hS hL => lv_icmp_gt X.1 X.2.1 hd ht (fun h => kt h H locs ls hP hS hL) (fun h => kf h H locs ls hP hS hL)
theorem sw_icmp_le (X : sv_X G K cc own nL d) {x y : Int32} {off : Int} (tgt : Nat) (hd : decode cc pc = .ok (.if_icmp .le off, 3)) (ht : (pc : Int) + off = (tgt : Int)) (kt : x ≤ y → sw_W G K nL tgt lo rest M) (kf : ¬ (x ≤ y) → sw_W G K nL (pc + 3) lo rest M) : sw_W G K nL pc lo (.int y :: .int x :: rest) M := fun H locs ls hP hS hL => lv_icmp_le X.1 X.2.1 hd ht (fun h => kt h H locs ls hP hS hL) (fun h => kf h H locs ls hP hS hL)
theorem sw_ifB_eq (X : sv_X G K cc own nL d) {b : Prop} [Decidable b] {off : Int} (tgt : Nat) (hd : decode cc pc = .ok (.ifCond .eq off, 3)) (ht : (pc : Int) + off = (tgt : Int)) (kt : ¬ b → sw_W G K nL tgt lo rest M) (kf : b → sw_W G K nL (pc + 3) lo rest M) : sw_W G K nL pc lo (.int (bI b) :: rest) M := sw_if_eq X tgt hd ht (fun h => kt (bI_eq0.mp h)) (fun h => kf (bI_ne0.mp h))
theorem sw_ifB_ne (X : sv_X G K cc own nL d) {b : Prop} [Decidable b] {off : Int} (tgt : Nat) (hd : decode cc pc = .ok (.ifCond .ne off, 3)) (ht : (pc : Int) + off = (tgt : Int)) (kt : b → sw_W G K nL tgt lo rest M) (kf : ¬ b → sw_W G K nL (pc + 3) lo rest M) : sw_W G K nL pc lo (.int (bI b) :: rest) M := sw_if_ne X tgt hd ht (fun h => kt (bI_ne0.mp h)) (fun h => kf (bI_eq0.mp h))
theorem sw_goto (X : sv_X G K cc own nL d) {off : Int} (tgt : Nat) (hd : decode cc pc = .ok (.goto off, 3)) (ht : (pc : Int) + off = (tgt : Int)) (k : sw_W G K nL tgt lo rest M) : sw_W G K nL pc lo rest M := fun H locs ls hP hS hL => lv_goto X.1 X.2.1 hd ht (k H locs ls hP hS hL)
theorem sw_tabOut (X : sv_X G K cc own nL d) {dflt a b : Int} {offs : Array Int} {len : Nat} {x : Int32} (tgt : Nat) (hd : decode cc pc = .ok (.tableswitch dflt a b offs, len)) (h : x.toInt < a ∨ b < x.toInt) (ht : (pc : Int) + dflt = (tgt : Int)) (k : sw_W G K nL tgt lo rest M) : sw_W G K nL pc lo (.int x :: rest) M := fun H locs ls hP hS hL => lv_tableOut X.1 X.2.1 hd h ht (k H locs ls hP hS hL)
theorem sw_tabIn (X : sv_X G K cc own nL d) {dflt a b : Int} {offs : Array Int} {len : Nat} {x : Int32} {off : Int} (tgt : Nat) (hd : decode cc pc = .ok (.tableswitch dflt a b offs, len)) (h1 : ¬ x.toInt < a) (h2 : ¬ b < x.toInt) (ho : offs[(x.toInt - a).toNat]? = some off) (ht : (pc : Int) + off = (tgt : Int)) (k : sw_W G K nL tgt lo rest M) : sw_W G K nL pc lo (.int x :: rest) M := fun H locs ls hP hS hL => lv_tableIn X.1 X.2.1 hd h1 h2 ho ht (k H locs ls hP hS hL)
theorem sw_lookup (X : sv_X G K cc own nL d) {dflt : Int} {ps : Array (Int × Int)} {len : Nat} {x : Int32} {off : Int} (tgt : Nat) (hd : decode cc pc = .ok (.lookupswitch dflt ps, len)) (hp : (ps.toList.zip (ps.toList.drop 1)).all (fun (a, next) => a.1 < next.1) = true) (ho : Op.lookupswitch.offset ps.toList dflt x.toInt = off) (ht : (pc : Int) + off = (tgt : Int)) (k : sw_W G K nL tgt lo rest M) : sw_W G K nL pc lo (.int x :: rest) M := fun H locs ls hP hS hL => lv_lookup X.1 X.2.1 hd hp ho ht (k H locs ls hP hS hL)
theorem sw_iload_0 (X : sv_X G K cc own nL d) {t : List (Option Value)} {x : Int32} (hd : decode cc pc = .ok (.iload_n 0, 1)) (k : sw_W G K nL (pc + 1) (some (.int x) :: t) (.int x :: rest) M) : sw_W G K nL pc (some (.int x) :: t) rest M := fun H locs ls hP hS hL => lv_iload_n X.1 X.2.1 hd rfl (hL.2.2.2 0 _ rfl) (k H locs ls hP hS hL)
theorem sw_aload_0 (X : sv_X G K cc own nL d) {t : List (Option Value)} {x : Nat} (hd : decode cc pc = .ok (.aload_n 0, 1)) (k : sw_W G K nL (pc + 1) (some (.ref x) :: t) (.ref x :: rest) M) : sw_W G K nL pc (some (.ref x) :: t) rest M := fun H locs ls hP hS hL => lv_aload_n X.1 X.2.1 hd rfl (hL.2.2.2 0 _ rfl) (k H locs ls hP hS hL)
theorem sw_istore_0 (X : sv_X G K cc own nL d) {w : Option Value} {t : List (Option Value)} {x : Int32} (hd : decode cc pc = .ok (.istore_n 0, 1)) (k : sw_W G K nL (pc + 1) (some (.int x) :: t) rest M) : sw_W G K nL pc (w :: t) (.int x :: rest) M := fun H locs ls hP hS hL => lv_istore_n (i := 0) X.1 X.2.1 hd rfl (sv_L_has hL) (sv_L_lt hL (i := 0) (by simp)) rfl (fun ls2 h2 => k H locs ls2 hP hS (sv_L_set (w := .int x) hL h2 (i := 0) (by simp) rfl (fun i v hv hc hi => by omega)))
theorem sw_astore_0 (X : sv_X G K cc own nL d) {w : Option Value} {t : List (Option Value)} {x : Nat} (hd : decode cc pc = .ok (.astore_n 0, 1)) (k : sw_W G K nL (pc + 1) (some (.ref x) :: t) rest M) : sw_W G K nL pc (w :: t) (.ref x :: rest) M := fun H locs ls hP hS hL => lv_astore_n (i := 0) X.1 X.2.1 hd rfl (sv_L_has hL) (sv_L_lt hL (i := 0) (by simp)) rfl (fun ls2 h2 => k H locs ls2 hP hS (sv_L_set (w := .ref x) hL h2 (i := 0) (by simp) rfl (fun i v hv hc hi => by omega)))
theorem sw_iinc_0 (X : sv_X G K cc own nL d) {t : List (Option Value)} {n : Int} {x : Int32} (v : Int32) (hd : decode cc pc = .ok (.iinc 0 n, 3)) (hv : x + Int32.ofInt n = v) (k : sw_W G K nL (pc + 3) (some (.int v) :: t) rest M) : sw_W G K nL pc (some (.int x) :: t) rest M := fun H locs ls hP hS hL => by
  obtain ⟨q, hq⟩ := sv_L_place hL (i := 0) (v := .int x) rfl
  exact lv_iinc X.1 X.2.1 hd (sv_L_has hL) hq hv (sv_L_lt hL (i := 0) (by simp)) rfl (fun ls2 h2 => k H locs ls2 hP hS (sv_L_set (w := .int v) hL h2 (i := 0) (by simp) rfl (fun i v hv hc hi => by omega)))
theorem sw_drop_0 {w : Option Value} {t : List (Option Value)} (k : sw_W G K nL pc (none :: t) rest M) : sw_W G K nL pc (w :: t) rest M := fun H locs ls hP hS hL => k H locs ls hP hS (sv_L_drop hL 0 rfl)
theorem sw_iload_1 (X : sv_X G K cc own nL d) {v0 : Option Value} {t : List (Option Value)} {x : Int32} (hd : decode cc pc = .ok (.iload_n 1, 1)) (k : sw_W G K nL (pc + 1) (v0 :: some (.int x) :: t) (.int x :: rest) M) : sw_W G K nL pc (v0 :: some (.int x) :: t) rest M := fun H locs ls hP hS hL => lv_iload_n X.1 X.2.1 hd rfl (hL.2.2.2 1 _ rfl) (k H locs ls hP hS hL)
theorem sw_aload_1 (X : sv_X G K cc own nL d) {v0 : Option Value} {t : List (Option Value)} {x : Nat} (hd : decode cc pc = .ok (.aload_n 1, 1)) (k : sw_W G K nL (pc + 1) (v0 :: some (.ref x) :: t) (.ref x :: rest) M) : sw_W G K nL pc (v0 :: some (.ref x) :: t) rest M := fun H locs ls hP hS hL => lv_aload_n X.1 X.2.1 hd rfl (hL.2.2.2 1 _ rfl) (k H locs ls hP hS hL)
theorem sw_istore_1 (X : sv_X G K cc own nL d) {v0 : Option Value} {w : Option Value} {t : List (Option Value)} {x : Int32} (hd : decode cc pc = .ok (.istore_n 1, 1)) (h1 : sv_c1 v0) (k : sw_W G K nL (pc + 1) (v0 :: some (.int x) :: t) rest M) : sw_W G K nL pc (v0 :: w :: t) (.int x :: rest) M := fun H locs ls hP hS hL => lv_istore_n (i := 1) X.1 X.2.1 hd rfl (sv_L_has hL) (sv_L_lt hL (i := 1) (by simp)) rfl (fun ls2 h2 => k H locs ls2 hP hS (sv_L_set (w := .int x) hL h2 (i := 1) (by simp) rfl (sv_c1_no (k0 := 0) rfl h1)))
theorem sw_astore_1 (X : sv_X G K cc own nL d) {v0 : Option Value} {w : Option Value} {t : List (Option Value)} {x : Nat} (hd : decode cc pc = .ok (.astore_n 1, 1)) (h1 : sv_c1 v0) (k : sw_W G K nL (pc + 1) (v0 :: some (.ref x) :: t) rest M) : sw_W G K nL pc (v0 :: w :: t) (.ref x :: rest) M := fun H locs ls hP hS hL => lv_astore_n (i := 1) X.1 X.2.1 hd rfl (sv_L_has hL) (sv_L_lt hL (i := 1) (by simp)) rfl (fun ls2 h2 => k H locs ls2 hP hS (sv_L_set (w := .ref x) hL h2 (i := 1) (by simp) rfl (sv_c1_no (k0 := 0) rfl h1)))
theorem sw_iinc_1 (X : sv_X G K cc own nL d) {v0 : Option Value} {t : List (Option Value)} {n : Int} {x : Int32} (v : Int32) (hd : decode cc pc = .ok (.iinc 1 n, 3)) (hv : x + Int32.ofInt n = v) (h1 : sv_c1 v0) (k : sw_W G K nL (pc + 3) (v0 :: some (.int v) :: t) rest M) : sw_W G K nL pc (v0 :: some (.int x) :: t) rest M := fun H locs ls hP hS hL => by
  obtain ⟨q, hq⟩ := sv_L_place hL (i := 1) (v := .int x) rfl
  exact lv_iinc X.1 X.2.1 hd (sv_L_has hL) hq hv (sv_L_lt hL (i := 1) (by simp)) rfl (fun ls2 h2 => k H locs ls2 hP hS (sv_L_set (w := .int v) hL h2 (i := 1) (by simp) rfl (sv_c1_no (k0 := 0) rfl h1)))
theorem sw_drop_1 {v0 : Option Value} {w : Option Value} {t : List (Option Value)} (k : sw_W G K nL pc (v0 :: none :: t) rest M) : sw_W G K nL pc (v0 :: w :: t) rest M := fun H locs ls hP hS hL => k H locs ls hP hS (sv_L_drop hL 1 rfl)
theorem sw_iload_2 (X : sv_X G K cc own nL d) {v0 v1 : Option Value} {t : List (Option Value)} {x : Int32} (hd : decode cc pc = .ok (.iload_n 2, 1)) (k : sw_W G K nL (pc + 1) (v0 :: v1 :: some (.int x) :: t) (.int x :: rest) M) : sw_W G K nL pc (v0 :: v1 :: some (.int x) :: t) rest M := fun H locs ls hP hS hL => lv_iload_n X.1 X.2.1 hd rfl (hL.2.2.2 2 _ rfl) (k H locs ls hP hS hL)
theorem sw_aload_2 (X : sv_X G K cc own nL d) {v0 v1 : Option Value} {t : List (Option Value)} {x : Nat} (hd : decode cc pc = .ok (.aload_n 2, 1)) (k : sw_W G K nL (pc + 1) (v0 :: v1 :: some (.ref x) :: t) (.ref x :: rest) M) : sw_W G K nL pc (v0 :: v1 :: some (.ref x) :: t) rest M := fun H locs ls hP hS hL => lv_aload_n X.1 X.2.1 hd rfl (hL.2.2.2 2 _ rfl) (k H locs ls hP hS hL)
theorem sw_istore_2 (X : sv_X G K cc own nL d) {v0 v1 : Option Value} {w : Option Value} {t : List (Option Value)} {x : Int32} (hd : decode cc pc = .ok (.istore_n 2, 1)) (h1 : sv_c1 v1) (k : sw_W G K nL (pc + 1) (v0 :: v1 :: some (.int x) :: t) rest M) : sw_W G K nL pc (v0 :: v1 :: w :: t) (.int x :: rest) M := fun H locs ls hP hS hL => lv_istore_n (i := 2) X.1 X.2.1 hd rfl (sv_L_has hL) (sv_L_lt hL (i := 2) (by simp)) rfl (fun ls2 h2 => k H locs ls2 hP hS (sv_L_set (w := .int x) hL h2 (i := 2) (by simp) rfl (sv_c1_no (k0 := 1) rfl h1)))
theorem sw_astore_2 (X : sv_X G K cc own nL d) {v0 v1 : Option Value} {w : Option Value} {t : List (Option Value)} {x : Nat} (hd : decode cc pc = .ok (.astore_n 2, 1)) (h1 : sv_c1 v1) (k : sw_W G K nL (pc + 1) (v0 :: v1 :: some (.ref x) :: t) rest M) : sw_W G K nL pc (v0 :: v1 :: w :: t) (.ref x :: rest) M := fun H locs ls hP hS hL => lv_astore_n (i := 2) X.1 X.2.1 hd rfl (sv_L_has hL) (sv_L_lt hL (i := 2) (by simp)) rfl (fun ls2 h2 => k H locs ls2 hP hS (sv_L_set (w := .ref x) hL h2 (i := 2) (by simp) rfl (sv_c1_no (k0 := 1) rfl h1)))
theorem sw_iinc_2 (X : sv_X G K cc own nL d) {v0 v1 : Option Value} {t : List (Option Value)} {n : Int} {x : Int32} (v : Int32) (hd : decode cc pc = .ok (.iinc 2 n, 3)) (hv : x + Int32.ofInt n = v) (h1 : sv_c1 v1) (k : sw_W G K nL (pc + 3) (v0 :: v1 :: some (.int v) :: t) rest M) : sw_W G K nL pc (v0 :: v1 :: some (.int x) :: t) rest M := fun H locs ls hP hS hL => by
  obtain ⟨q, hq⟩ := sv_L_place hL (i := 2) (v := .int x) rfl
  exact lv_iinc X.1 X.2.1 hd (sv_L_has hL) hq hv (sv_L_lt hL (i := 2) (by simp)) rfl (fun ls2 h2 => k H locs ls2 hP hS (sv_L_set (w := .int v) hL h2 (i := 2) (by simp) rfl (sv_c1_no (k0 := 1) rfl h1)))
theorem sw_drop_2 {v0 v1 : Option Value} {w : Option Value} {t : List (Option Value)} (k : sw_W G K nL pc (v0 :: v1 :: none :: t) rest M) : sw_W G K nL pc (v0 :: v1 :: w :: t) rest M := fun H locs ls hP hS hL => k H locs ls hP hS (sv_L_drop hL 2 rfl)
theorem sw_iload_3 (X : sv_X G K cc own nL d) {v0 v1 v2 : Option Value} {t : List (Option Value)} {x : Int32} (hd : decode cc pc = .ok (.iload_n 3, 1)) (k : sw_W G K nL (pc + 1) (v0 :: v1 :: v2 :: some (.int x) :: t) (.int x :: rest) M) : sw_W G K nL pc (v0 :: v1 :: v2 :: some (.int x) :: t) rest M := fun H locs ls hP hS hL => lv_iload_n X.1 X.2.1 hd rfl (hL.2.2.2 3 _ rfl) (k H locs ls hP hS hL)
theorem sw_aload_3 (X : sv_X G K cc own nL d) {v0 v1 v2 : Option Value} {t : List (Option Value)} {x : Nat} (hd : decode cc pc = .ok (.aload_n 3, 1)) (k : sw_W G K nL (pc + 1) (v0 :: v1 :: v2 :: some (.ref x) :: t) (.ref x :: rest) M) : sw_W G K nL pc (v0 :: v1 :: v2 :: some (.ref x) :: t) rest M := fun H locs ls hP hS hL => lv_aload_n X.1 X.2.1 hd rfl (hL.2.2.2 3 _ rfl) (k H locs ls hP hS hL)
theorem sw_istore_3 (X : sv_X G K cc own nL d) {v0 v1 v2 : Option Value} {w : Option Value} {t : List (Option Value)} {x : Int32} (hd : decode cc pc = .ok (.istore_n 3, 1)) (h1 : sv_c1 v2) (k : sw_W G K nL (pc + 1) (v0 :: v1 :: v2 :: some (.int x) :: t) rest M) : sw_W G K nL pc (v0 :: v1 :: v2 :: w :: t) (.int x :: rest) M := fun H locs ls hP hS hL => lv_istore_n (i := 3) X.1 X.2.1 hd rfl (sv_L_has hL) (sv_L_lt hL (i := 3) (by simp)) rfl (fun ls2 h2 => k H locs ls2 hP hS (sv_L_set (w := .int x) hL h2 (i := 3) (by simp) rfl (sv_c1_no (k0 := 2) rfl h1)))
theorem sw_astore_3 (X : sv_X G K cc own nL d) {v0 v1 v2 : Option Value} {w : Option Value} {t : List (Option Value)} {x : Nat} (hd : decode cc pc = .ok (.astore_n 3, 1)) (h1 : sv_c1 v2) (k : sw_W G K nL (pc + 1) (v0 :: v1 :: v2 :: some (.ref x) :: t) rest M) : sw_W G K nL pc (v0 :: v1 :: v2 :: w :: t) (.ref x :: rest) M := fun H locs ls hP hS hL => lv_astore_n (i := 3) X.1 X.2.1 hd rfl (sv_L_has hL) (sv_L_lt hL (i := 3) (by simp)) rfl (fun ls2 h2 => k H locs ls2 hP hS (sv_L_set (w := .ref x) hL h2 (i := 3) (by simp) rfl (sv_c1_no (k0 := 2) rfl h1)))
theorem sw_iinc_3 (X : sv_X G K cc own nL d) {v0 v1 v2 : Option Value} {t : List (Option Value)} {n : Int} {x : Int32} (v : Int32) (hd : decode cc pc = .ok (.iinc 3 n, 3)) (hv : x + Int32.ofInt n = v) (h1 : sv_c1 v2) (k : sw_W G K nL (pc + 3) (v0 :: v1 :: v2 :: some (.int v) :: t) rest M) : sw_W G K nL pc (v0 :: v1 :: v2 :: some (.int x) :: t) rest M := fun H locs ls hP hS hL => by
  obtain ⟨q, hq⟩ := sv_L_place hL (i := 3) (v := .int x) rfl
  exact lv_iinc X.1 X.2.1 hd (sv_L_has hL) hq hv (sv_L_lt hL (i := 3) (by simp)) rfl (fun ls2 h2 => k H locs ls2 hP hS (sv_L_set (w := .int v) hL h2 (i := 3) (by simp) rfl (sv_c1_no (k0 := 2) rfl h1)))
theorem sw_drop_3 {v0 v1 v2 : Option Value} {w : Option Value} {t : List (Option Value)} (k : sw_W G K nL pc (v0 :: v1 :: v2 :: none :: t) rest M) : sw_W G K nL pc (v0 :: v1 :: v2 :: w :: t) rest M := fun H locs ls hP hS hL => k H locs ls hP hS (sv_L_drop hL 3 rfl)
theorem sw_iload_4 (X : sv_X G K cc own nL d) {v0 v1 v2 v3 : Option Value} {t : List (Option Value)} {x : Int32} (hd : decode cc pc = .ok (.iload 4, 2)) (k : sw_W G K nL (pc + 2) (v0 :: v1 :: v2 :: v3 :: some (.int x) :: t) (.int x :: rest) M) : sw_W G K nL pc (v0 :: v1 :: v2 :: v3 :: some (.int x) :: t) rest M := fun H locs ls hP hS hL => lv_iload X.1 X.2.1 hd (hL.2.2.2 4 _ rfl) (k H locs ls hP hS hL)
theorem sw_aload_4 (X : sv_X G K cc own nL d) {v0 v1 v2 v3 : Option Value} {t : List (Option Value)} {x : Nat} (hd : decode cc pc = .ok (.aload 4, 2)) (k : sw_W G K nL (pc + 2) (v0 :: v1 :: v2 :: v3 :: some (.ref x) :: t) (.ref x :: rest) M) : sw_W G K nL pc (v0 :: v1 :: v2 :: v3 :: some (.ref x) :: t) rest M := fun H locs ls hP hS hL => lv_aload X.1 X.2.1 hd (hL.2.2.2 4 _ rfl) (k H locs ls hP hS hL)
theorem sw_istore_4 (X : sv_X G K cc own nL d) {v0 v1 v2 v3 : Option Value} {w : Option Value} {t : List (Option Value)} {x : Int32} (hd : decode cc pc = .ok (.istore 4, 2)) (h1 : sv_c1 v3) (k : sw_W G K nL (pc + 2) (v0 :: v1 :: v2 :: v3 :: some (.int x) :: t) rest M) : sw_W G K nL pc (v0 :: v1 :: v2 :: v3 :: w :: t) (.int x :: rest) M := fun H locs ls hP hS hL => lv_istore X.1 X.2.1 hd (sv_L_has hL) (sv_L_lt hL (i := 4) (by simp)) rfl (fun ls2 h2 => k H locs ls2 hP hS (sv_L_set (w := .int x) hL h2 (i := 4) (by simp) rfl (sv_c1_no (k0 := 3) rfl h1)))
theorem sw_astore_4 (X : sv_X G K cc own nL d) {v0 v1 v2 v3 : Option Value} {w : Option Value} {t : List (Option Value)} {x : Nat} (hd : decode cc pc = .ok (.astore 4, 2)) (h1 : sv_c1 v3) (k : sw_W G K nL (pc + 2) (v0 :: v1 :: v2 :: v3 :: some (.ref x) :: t) rest M) : sw_W G K nL pc (v0 :: v1 :: v2 :: v3 :: w :: t) (.ref x :: rest) M := fun H locs ls hP hS hL => lv_astore X.1 X.2.1 hd (sv_L_has hL) (sv_L_lt hL (i := 4) (by simp)) rfl (fun ls2 h2 => k H locs ls2 hP hS (sv_L_set (w := .ref x) hL h2 (i := 4) (by simp) rfl (sv_c1_no (k0 := 3) rfl h1)))
theorem sw_iinc_4 (X : sv_X G K cc own nL d) {v0 v1 v2 v3 : Option Value} {t : List (Option Value)} {n : Int} {x : Int32} (v : Int32) (hd : decode cc pc = .ok (.iinc 4 n, 3)) (hv : x + Int32.ofInt n = v) (h1 : sv_c1 v3) (k : sw_W G K nL (pc + 3) (v0 :: v1 :: v2 :: v3 :: some (.int v) :: t) rest M) : sw_W G K nL pc (v0 :: v1 :: v2 :: v3 :: some (.int x) :: t) rest M := fun H locs ls hP hS hL => by
  obtain ⟨q, hq⟩ := sv_L_place hL (i := 4) (v := .int x) rfl
  exact lv_iinc X.1 X.2.1 hd (sv_L_has hL) hq hv (sv_L_lt hL (i := 4) (by simp)) rfl (fun ls2 h2 => k H locs ls2 hP hS (sv_L_set (w := .int v) hL h2 (i := 4) (by simp) rfl (sv_c1_no (k0 := 3) rfl h1)))
theorem sw_drop_4 {v0 v1 v2 v3 : Option Value} {w : Option Value} {t : List (Option Value)} (k : sw_W G K nL pc (v0 :: v1 :: v2 :: v3 :: none :: t) rest M) : sw_W G K nL pc (v0 :: v1 :: v2 :: v3 :: w :: t) rest M := fun H locs ls hP hS hL => k H locs ls hP hS (sv_L_drop hL 4 rfl)
theorem sw_iload_5 (X : sv_X G K cc own nL d) {v0 v1 v2 v3 v4 : Option Value} {t : List (Option Value)} {x : Int32} (hd : decode cc pc = .ok (.iload 5, 2)) (k : sw_W G K nL (pc + 2) (v0 :: v1 :: v2 :: v3 :: v4 :: some (.int x) :: t) (.int x :: rest) M) : sw_W G K nL pc (v0 :: v1 :: v2 :: v3 :: v4 :: some (.int x) :: t) rest M := fun H locs ls hP hS hL => lv_iload X.1 X.2.1 hd (hL.2.2.2 5 _ rfl) (k H locs ls hP hS hL)
theorem sw_aload_5 (X : sv_X G K cc own nL d) {v0 v1 v2 v3 v4 : Option Value} {t : List (Option Value)} {x : Nat} (hd : decode cc pc = .ok (.aload 5, 2)) (k : sw_W G K nL (pc + 2) (v0 :: v1 :: v2 :: v3 :: v4 :: some (.ref x) :: t) (.ref x :: rest) M) : sw_W G K nL pc (v0 :: v1 :: v2 :: v3 :: v4 :: some (.ref x) :: t) rest M := fun H locs ls hP hS hL => lv_aload X.1 X.2.1 hd (hL.2.2.2 5 _ rfl) (k H locs ls hP hS hL)
theorem sw_istore_5 (X : sv_X G K cc own nL d) {v0 v1 v2 v3 v4 : Option Value} {w : Option Value} {t : List (Option Value)} {x : Int32} (hd : decode cc pc = .ok (.istore 5, 2)) (h1 : sv_c1 v4) (k : sw_W G K nL (pc + 2) (v0 :: v1 :: v2 :: v3 :: v4 :: some (.int x) :: t) rest M) : sw_W G K nL pc (v0 :: v1 :: v2 :: v3 :: v4 :: w :: t) (.int x :: rest) M := fun H locs ls hP hS hL => lv_istore X.1 X.2.1 hd (sv_L_has hL) (sv_L_lt hL (i := 5) (by simp)) rfl (fun ls2 h2 => k H locs ls2 hP hS (sv_L_set (w := .int x) hL h2 (i := 5) (by simp) rfl (sv_c1_no (k0 := 4) rfl h1)))
theorem sw_astore_5 (X : sv_X G K cc own nL d) {v0 v1 v2 v3 v4 : Option Value} {w : Option Value} {t : List (Option Value)} {x : Nat} (hd : decode cc pc = .ok (.astore 5, 2)) (h1 : sv_c1 v4) (k : sw_W G K nL (pc + 2) (v0 :: v1 :: v2 :: v3 :: v4 :: some (.ref x) :: t) rest M) : sw_W G K nL pc (v0 :: v1 :: v2 :: v3 :: v4 :: w :: t) (.ref x :: rest) M := fun H locs ls hP hS hL => lv_astore X.1 X.2.1 hd (sv_L_has hL) (sv_L_lt hL (i := 5) (by simp)) rfl (fun ls2 h2 => k H locs ls2 hP hS (sv_L_set (w := .ref x) hL h2 (i := 5) (by simp) rfl (sv_c1_no (k0 := 4) rfl h1)))
theorem sw_iinc_5 (X : sv_X G K cc own nL d) {v0 v1 v2 v3 v4 : Option Value} {t : List (Option Value)} {n : Int} {x : Int32} (v : Int32) (hd : decode cc pc = .ok (.iinc 5 n, 3)) (hv : x + Int32.ofInt n = v) (h1 : sv_c1 v4) (k : sw_W G K nL (pc + 3) (v0 :: v1 :: v2 :: v3 :: v4 :: some (.int v) :: t) rest M) : sw_W G K nL pc (v0 :: v1 :: v2 :: v3 :: v4 :: some (.int x) :: t) rest M := fun H locs ls hP hS hL => by
  obtain ⟨q, hq⟩ := sv_L_place hL (i := 5) (v := .int x) rfl
  exact lv_iinc X.1 X.2.1 hd (sv_L_has hL) hq hv (sv_L_lt hL (i := 5) (by simp)) rfl (fun ls2 h2 => k H locs ls2 hP hS (sv_L_set (w := .int v) hL h2 (i := 5) (by simp) rfl (sv_c1_no (k0 := 4) rfl h1)))
theorem sw_drop_5 {v0 v1 v2 v3 v4 : Option Value} {w : Option Value} {t : List (Option Value)} (k : sw_W G K nL pc (v0 :: v1 :: v2 :: v3 :: v4 :: none :: t) rest M) : sw_W G K nL pc (v0 :: v1 :: v2 :: v3 :: v4 :: w :: t) rest M := fun H locs ls hP hS hL => k H locs ls hP hS (sv_L_drop hL 5 rfl)
theorem sw_iload_6 (X : sv_X G K cc own nL d) {v0 v1 v2 v3 v4 v5 : Option Value} {t : List (Option Value)} {x : Int32} (hd : decode cc pc = .ok (.iload 6, 2)) (k : sw_W G K nL (pc + 2) (v0 :: v1 :: v2 :: v3 :: v4 :: v5 :: some (.int x) :: t) (.int x :: rest) M) : sw_W G K nL pc (v0 :: v1 :: v2 :: v3 :: v4 :: v5 :: some (.int x) :: t) rest M := fun H locs ls hP hS hL => lv_iload X.1 X.2.1 hd (hL.2.2.2 6 _ rfl) (k H locs ls hP hS hL)
theorem sw_aload_6 (X : sv_X G K cc own nL d) {v0 v1 v2 v3 v4 v5 : Option Value} {t : List (Option Value)} {x : Nat} (hd : decode cc pc = .ok (.aload 6, 2)) (k : sw_W G K nL (pc + 2) (v0 :: v1 :: v2 :: v3 :: v4 :: v5 :: some (.ref x) :: t) (.ref x :: rest) M) : sw_W G K nL pc (v0 :: v1 :: v2 :: v3 :: v4 :: v5 :: some (.ref x) :: t) rest M := fun H locs ls hP hS hL => lv_aload X.1 X.2.1 hd (hL.2.2.2 6 _ rfl) (k H locs ls hP hS hL)
theorem sw_istore_6 (X : sv_X G K cc own nL d) {v0 v1 v2 v3 v4 v5 : Option Value} {w : Option Value} {t : List (Option Value)} {x : Int32} (hd : decode cc pc = .ok (.istore 6, 2)) (h1 : sv_c1 v5) (k : sw_W G K nL (pc + 2) (v0 :: v1 :: v2 :: v3 :: v4 :: v5 :: some (.int x) :: t) rest M) : sw_W G K nL pc (v0 :: v1 :: v2 :: v3 :: v4 :: v5 :: w :: t) (.int x :: rest) M := fun H locs ls hP hS hL => lv_istore X.1 X.2.1 hd (sv_L_has hL) (sv_L_lt hL (i := 6) (by simp)) rfl (fun ls2 h2 => k H locs ls2 hP hS (sv_L_set (w := .int x) hL h2 (i := 6) (by simp) rfl (sv_c1_no (k0 := 5) rfl h1)))
theorem sw_astore_6 (X : sv_X G K cc own nL d) {v0 v1 v2 v3 v4 v5 : Option Value} {w : Option Value} {t : List (Option Value)} {x : Nat} (hd : decode cc pc = .ok (.astore 6, 2)) (h1 : sv_c1 v5) (k : sw_W G K nL (pc + 2) (v0 :: v1 :: v2 :: v3 :: v4 :: v5 :: some (.ref x) :: t) rest M) : sw_W G K nL pc (v0 :: v1 :: v2 :: v3 :: v4 :: v5 :: w :: t) (.ref x :: rest) M := fun H locs ls hP hS hL => lv_astore X.1 X.2.1 hd (sv_L_has hL) (sv_L_lt hL (i := 6) (by simp)) rfl (fun ls2 h2 => k H locs ls2 hP hS (sv_L_set (w := .ref x) hL h2 (i := 6) (by simp) rfl (sv_c1_no (k0 := 5) rfl h1)))
theorem sw_iinc_6 (X : sv_X G K cc own nL d) {v0 v1 v2 v3 v4 v5 : Option Value} {t : List (Option Value)} {n : Int} {x : Int32} (v : Int32) (hd : decode cc pc = .ok (.iinc 6 n, 3)) (hv : x + Int32.ofInt n = v) (h1 : sv_c1 v5) (k : sw_W G K nL (pc + 3) (v0 :: v1 :: v2 :: v3 :: v4 :: v5 :: some (.int v) :: t) rest M) : sw_W G K nL pc (v0 :: v1 :: v2 :: v3 :: v4 :: v5 :: some (.int x) :: t) rest M := fun H locs ls hP hS hL => by
  obtain ⟨q, hq⟩ := sv_L_place hL (i := 6) (v := .int x) rfl
  exact lv_iinc X.1 X.2.1 hd (sv_L_has hL) hq hv (sv_L_lt hL (i := 6) (by simp)) rfl (fun ls2 h2 => k H locs ls2 hP hS (sv_L_set (w := .int v) hL h2 (i := 6) (by simp) rfl (sv_c1_no (k0 := 5) rfl h1)))
theorem sw_drop_6 {v0 v1 v2 v3 v4 v5 : Option Value} {w : Option Value} {t : List (Option Value)} (k : sw_W G K nL pc (v0 :: v1 :: v2 :: v3 :: v4 :: v5 :: none :: t) rest M) : sw_W G K nL pc (v0 :: v1 :: v2 :: v3 :: v4 :: v5 :: w :: t) rest M := fun H locs ls hP hS hL => k H locs ls hP hS (sv_L_drop hL 6 rfl)
theorem sw_iload_7 (X : sv_X G K cc own nL d) {v0 v1 v2 v3 v4 v5 v6 : Option Value} {t : List (Option Value)} {x : Int32} (hd : decode cc pc = .ok (.iload 7, 2)) (k : sw_W G K nL (pc + 2) (v0 :: v1 :: v2 :: v3 :: v4 :: v5 :: v6 :: some (.int x) :: t) (.int x :: rest) M) : sw_W G K nL pc (v0 :: v1 :: v2 :: v3 :: v4 :: v5 :: v6 :: some (.int x) :: t) rest M := fun H locs ls hP hS hL => lv_iload X.1 X.2.1 hd (hL.2.2.2 7 _ rfl) (k H locs ls hP hS hL)
theorem sw_aload_7 (X : sv_X G K cc own nL d) {v0 v1 v2 v3 v4 v5 v6 : Option Value} {t : List (Option Value)} {x : Nat} (hd : decode cc pc = .ok (.aload 7, 2)) (k : sw_W G K nL (pc + 2) (v0 :: v1 :: v2 :: v3 :: v4 :: v5 :: v6 :: some (.ref x) :: t) (.ref x :: rest) M) : sw_W G K nL pc (v0 :: v1 :: v2 :: v3 :: v4 :: v5 :: v6 :: some (.ref x) :: t) rest M := fun H locs ls hP hS hL => lv_aload X.1 X.2.1 hd (hL.2.2.2 7 _ rfl) (k H locs ls hP hS hL)
theorem sw_istore_7 (X : sv_X G K cc own nL d) {v0 v1 v2 v3 v4 v5 v6 : Option Value} {w : Option Value} {t : List (Option Value)} {x : Int32} (hd : decode cc pc = .ok (.istore 7, 2)) (h1 : sv_c1 v6) (k : sw_W G K nL (pc + 2) (v0 :: v1 :: v2 :: v3 :: v4 :: v5 :: v6 :: some (.int x) :: t) rest M) : sw_W G K nL pc (v0 :: v1 :: v2 :: v3 :: v4 :: v5 :: v6 :: w :: t) (.int x :: rest) M := fun H locs ls hP hS hL => lv_istore X.1 X.2.1 hd (sv_L_has hL) (sv_L_lt hL (i := 7) (by simp)) rfl (fun ls2 h2 => k H locs ls2 hP hS (sv_L_set (w := .int x) hL h2 (i := 7) (by simp) rfl (sv_c1_no (k0 := 6) rfl h1)))
theorem sw_astore_7 (X : sv_X G K cc own nL d) {v0 v1 v2 v3 v4 v5 v6 : Option Value} {w : Option Value} {t : List (Option Value)} {x : Nat} (hd : decode cc pc = .ok (.astore 7, 2)) (h1 : sv_c1 v6) (k : sw_W G K nL (pc + 2) (v0 :: v1 :: v2 :: v3 :: v4 :: v5 :: v6 :: some (.ref x) :: t) rest M) : sw_W G K nL pc (v0 :: v1 :: v2 :: v3 :: v4 :: v5 :: v6 :: w :: t) (.ref x :: rest) M := fun H locs ls hP hS hL => lv_astore X.1 X.2.1 hd (sv_L_has hL) (sv_L_lt hL (i := 7) (by simp)) rfl (fun ls2 h2 => k H locs ls2 hP hS (sv_L_set (w := .ref x) hL h2 (i := 7) (by simp) rfl (sv_c1_no (k0 := 6) rfl h1)))
theorem sw_iinc_7 (X : sv_X G K cc own nL d) {v0 v1 v2 v3 v4 v5 v6 : Option Value} {t : List (Option Value)} {n : Int} {x : Int32} (v : Int32) (hd : decode cc pc = .ok (.iinc 7 n, 3)) (hv : x + Int32.ofInt n = v) (h1 : sv_c1 v6) (k : sw_W G K nL (pc + 3) (v0 :: v1 :: v2 :: v3 :: v4 :: v5 :: v6 :: some (.int v) :: t) rest M) : sw_W G K nL pc (v0 :: v1 :: v2 :: v3 :: v4 :: v5 :: v6 :: some (.int x) :: t) rest M := fun H locs ls hP hS hL => by
  obtain ⟨q, hq⟩ := sv_L_place hL (i := 7) (v := .int x) rfl
  exact lv_iinc X.1 X.2.1 hd (sv_L_has hL) hq hv (sv_L_lt hL (i := 7) (by simp)) rfl (fun ls2 h2 => k H locs ls2 hP hS (sv_L_set (w := .int v) hL h2 (i := 7) (by simp) rfl (sv_c1_no (k0 := 6) rfl h1)))
theorem sw_drop_7 {v0 v1 v2 v3 v4 v5 v6 : Option Value} {w : Option Value} {t : List (Option Value)} (k : sw_W G K nL pc (v0 :: v1 :: v2 :: v3 :: v4 :: v5 :: v6 :: none :: t) rest M) : sw_W G K nL pc (v0 :: v1 :: v2 :: v3 :: v4 :: v5 :: v6 :: w :: t) rest M := fun H locs ls hP hS hL => k H locs ls hP hS (sv_L_drop hL 7 rfl)
theorem sw_iload_8 (X : sv_X G K cc own nL d) {v0 v1 v2 v3 v4 v5 v6 v7 : Option Value} {t : List (Option Value)} {x : Int32} (hd : decode cc pc = .ok (.iload 8, 2)) (k : sw_W G K nL (pc + 2) (v0 :: v1 :: v2 :: v3 :: v4 :: v5 :: v6 :: v7 :: some (.int x) :: t) (.int x :: rest) M) : sw_W G K nL pc (v0 :: v1 :: v2 :: v3 :: v4 :: v5 :: v6 :: v7 :: some (.int x) :: t) rest M := fun H locs ls hP hS hL => lv_iload X.1 X.2.1 hd (hL.2.2.2 8 _ rfl) (k H locs ls hP hS hL)
theorem sw_aload_8 (X : sv_X G K cc own nL d) {v0 v1 v2 v3 v4 v5 v6 v7 : Option Value} {t : List (Option Value)} {x : Nat} (hd : decode cc pc = .ok (.aload 8, 2)) (k : sw_W G K nL (pc + 2) (v0 :: v1 :: v2 :: v3 :: v4 :: v5 :: v6 :: v7 :: some (.ref x) :: t) (.ref x :: rest) M) : sw_W G K nL pc (v0 :: v1 :: v2 :: v3 :: v4 :: v5 :: v6 :: v7 :: some (.ref x) :: t) rest M := fun H locs ls hP hS hL => lv_aload X.1 X.2.1 hd (hL.2.2.2 8 _ rfl) (k H locs ls hP hS hL)
theorem sw_istore_8 (X : sv_X G K cc own nL d) {v0 v1 v2 v3 v4 v5 v6 v7 : Option Value} {w : Option Value} {t : List (Option Value)} {x : Int32} (hd : decode cc pc = .ok (.istore 8, 2)) (h1 : sv_c1 v7) (k : sw_W G K nL (pc + 2) (v0 :: v1 :: v2 :: v3 :: v4 :: v5 :: v6 :: v7 :: some (.int x) :: t) rest M) : sw_W G K nL pc (v0 :: v1 :: v2 :: v3 :: v4 :: v5 :: v6 :: v7 :: w :: t) (.int x :: rest) M := fun H locs ls hP hS hL => lv_istore X.1 X.2.1 hd (sv_L_has hL) (sv_L_lt hL (i := 8) (by simp)) rfl (fun ls2 h2 => k H locs ls2 hP hS (sv_L_set (w := .int x) hL h2 (i := 8) (by simp) rfl (sv_c1_no (k0 := 7) rfl h1)))
theorem sw_astore_8 (X : sv_X G K cc own nL d) {v0 v1 v2 v3 v4 v5 v6 v7 : Option Value} {w : Option Value} {t : List (Option Value)} {x : Nat} (hd : decode cc pc = .ok (.astore 8, 2)) (h1 : sv_c1 v7) (k : sw_W G K nL (pc + 2) (v0 :: v1 :: v2 :: v3 :: v4 :: v5 :: v6 :: v7 :: some (.ref x) :: t) rest M) : sw_W G K nL pc (v0 :: v1 :: v2 :: v3 :: v4 :: v5 :: v6 :: v7 :: w :: t) (.ref x :: rest) M := fun H locs ls hP hS hL => lv_astore X.1 X.2.1 hd (sv_L_has hL) (sv_L_lt hL (i := 8) (by simp)) rfl (fun ls2 h2 => k H locs ls2 hP hS (sv_L_set (w := .ref x) hL h2 (i := 8) (by simp) rfl (sv_c1_no (k0 := 7) rfl h1)))
theorem sw_iinc_8 (X : sv_X G K cc own nL d) {v0 v1 v2 v3 v4 v5 v6 v7 : Option Value} {t : List (Option Value)} {n : Int} {x : Int32} (v : Int32) (hd : decode cc pc = .ok (.iinc 8 n, 3)) (hv : x + Int32.ofInt n = v) (h1 : sv_c1 v7) (k : sw_W G K nL (pc + 3) (v0 :: v1 :: v2 :: v3 :: v4 :: v5 :: v6 :: v7 :: some (.int v) :: t) rest M) : sw_W G K nL pc (v0 :: v1 :: v2 :: v3 :: v4 :: v5 :: v6 :: v7 :: some (.int x) :: t) rest M := fun H locs ls hP hS hL => by
  obtain ⟨q, hq⟩ := sv_L_place hL (i := 8) (v := .int x) rfl
  exact lv_iinc X.1 X.2.1 hd (sv_L_has hL) hq hv (sv_L_lt hL (i := 8) (by simp)) rfl (fun ls2 h2 => k H locs ls2 hP hS (sv_L_set (w := .int v) hL h2 (i := 8) (by simp) rfl (sv_c1_no (k0 := 7) rfl h1)))
theorem sw_drop_8 {v0 v1 v2 v3 v4 v5 v6 v7 : Option Value} {w : Option Value} {t : List (Option Value)} (k : sw_W G K nL pc (v0 :: v1 :: v2 :: v3 :: v4 :: v5 :: v6 :: v7 :: none :: t) rest M) : sw_W G K nL pc (v0 :: v1 :: v2 :: v3 :: v4 :: v5 :: v6 :: v7 :: w :: t) rest M := fun H locs ls hP hS hL => k H locs ls hP hS (sv_L_drop hL 8 rfl)
theorem sw_iload_9 (X : sv_X G K cc own nL d) {v0 v1 v2 v3 v4 v5 v6 v7 v8 : Option Value} {t : List (Option Value)} {x : Int32} (hd : decode cc pc = .ok (.iload 9, 2)) (k : sw_W G K nL (pc + 2) (v0 :: v1 :: v2 :: v3 :: v4 :: v5 :: v6 :: v7 :: v8 :: some (.int x) :: t) (.int x :: rest) M) : sw_W G K nL pc (v0 :: v1 :: v2 :: v3 :: v4 :: v5 :: v6 :: v7 :: v8 :: some (.int x) :: t) rest M := fun H locs ls hP hS hL => lv_iload X.1 X.2.1 hd (hL.2.2.2 9 _ rfl) (k H locs ls hP hS hL)
theorem sw_aload_9 (X : sv_X G K cc own nL d) {v0 v1 v2 v3 v4 v5 v6 v7 v8 : Option Value} {t : List (Option Value)} {x : Nat} (hd : decode cc pc = .ok (.aload 9, 2)) (k : sw_W G K nL (pc + 2) (v0 :: v1 :: v2 :: v3 :: v4 :: v5 :: v6 :: v7 :: v8 :: some (.ref x) :: t) (.ref x :: rest) M) : sw_W G K nL pc (v0 :: v1 :: v2 :: v3 :: v4 :: v5 :: v6 :: v7 :: v8 :: some (.ref x) :: t) rest M := fun H locs ls hP hS hL => lv_aload X.1 X.2.1 hd (hL.2.2.2 9 _ rfl) (k H locs ls hP hS hL)
theorem sw_istore_9 (X : sv_X G K cc own nL d) {v0 v1 v2 v3 v4 v5 v6 v7 v8 : Option Value} {w : Option Value} {t : List (Option Value)} {x : Int32} (hd : decode cc pc = .ok (.istore 9, 2)) (h1 : sv_c1 v8) (k : sw_W G K nL (pc + 2) (v0 :: v1 :: v2 :: v3 :: v4 :: v5 :: v6 :: v7 :: v8 :: some (.int x) :: t) rest M) : sw_W G K nL pc (v0 :: v1 :: v2 :: v3 :: v4 :: v5 :: v6 :: v7 :: v8 :: w :: t) (.int x :: rest) M := fun H locs ls hP hS hL => lv_istore X.1 X.2.1 hd (sv_L_has hL) (sv_L_lt hL (i := 9) (by simp)) rfl (fun ls2 h2 => k H locs ls2 hP hS (sv_L_set (w := .int x) hL h2 (i := 9) (by simp) rfl (sv_c1_no (k0 := 8) rfl h1)))
theorem sw_astore_9 (X : sv_X G K cc own nL d) {v0 v1 v2 v3 v4 v5 v6 v7 v8 : Option Value} {w : Option Value} {t : List (Option Value)} {x : Nat} (hd : decode cc pc = .ok (.astore 9, 2)) (h1 : sv_c1 v8) (k : sw_W G K nL (pc + 2) (v0 :: v1 :: v2 :: v3 :: v4 :: v5 :: v6 :: v7 :: v8 :: some (.ref x) :: t) rest M) : sw_W G K nL pc (v0 :: v1 :: v2 :: v3 :: v4 :: v5 :: v6 :: v7 :: v8 :: w :: t) (.ref x :: rest) M := fun H locs ls hP hS hL => lv_astore X.1 X.2.1 hd (sv_L_has hL) (sv_L_lt hL (i := 9) (by simp)) rfl (fun ls2 h2 => k H locs ls2 hP hS (sv_L_set (w := .ref x) hL h2 (i := 9) (by simp) rfl (sv_c1_no (k0 := 8) rfl h1)))
theorem sw_iinc_9 (X : sv_X G K cc own nL d) {v0 v1 v2 v3 v4 v5 v6 v7 v8 : Option Value} {t : List (Option Value)} {n : Int} {x : Int32} (v : Int32) (hd : decode cc pc = .ok (.iinc 9 n, 3)) (hv : x + Int32.ofInt n = v) (h1 : sv_c1 v8) (k : sw_W G K nL (pc + 3) (v0 :: v1 :: v2 :: v3 :: v4 :: v5 :: v6 :: v7 :: v8 :: some (.int v) :: t) rest M) : sw_W G K nL pc (v0 :: v1 :: v2 :: v3 :: v4 :: v5 :: v6 :: v7 :: v8 :: some (.int x) :: t) rest M := fun H locs ls hP hS hL => by
  obtain ⟨q, hq⟩ := sv_L_place hL (i := 9) (v := .int x) rfl
  exact lv_iinc X.1 X.2.1 hd (sv_L_has hL) hq hv (sv_L_lt hL (i := 9) (by simp)) rfl (fun ls2 h2 => k H locs ls2 hP hS (sv_L_set (w := .int v) hL h2 (i := 9) (by simp) rfl (sv_c1_no (k0 := 8) rfl h1)))
theorem sw_drop_9 {v0 v1 v2 v3 v4 v5 v6 v7 v8 : Option Value} {w : Option Value} {t : List (Option Value)} (k : sw_W G K nL pc (v0 :: v1 :: v2 :: v3 :: v4 :: v5 :: v6 :: v7 :: v8 :: none :: t) rest M) : sw_W G K nL pc (v0 :: v1 :: v2 :: v3 :: v4 :: v5 :: v6 :: v7 :: v8 :: w :: t) rest M := fun H locs ls hP hS hL => k H locs ls hP hS (sv_L_drop hL 9 rfl)
theorem sw_iload_10 (X : sv_X G K cc own nL d) {v0 v1 v2 v3 v4 v5 v6 v7 v8 v9 : Option Value} {t : List (Option Value)} {x : Int32} (hd : decode cc pc = .ok (.iload 10, 2)) (k : sw_W G K nL (pc + 2) (v0 :: v1 :: v2 :: v3 :: v4 :: v5 :: v6 :: v7 :: v8 :: v9 :: some (.int x) :: t) (.int x :: rest) M) : sw_W G K nL pc (v0 :: v1 :: v2 :: v3 :: v4 :: v5 :: v6 :: v7 :: v8 :: v9 :: some (.int x) :: t) rest M := fun H locs ls hP hS hL => lv_iload X.1 X.2.1 hd (hL.2.2.2 10 _ rfl) (k H locs ls hP hS hL)
theorem sw_aload_10 (X : sv_X G K cc own nL d) {v0 v1 v2 v3 v4 v5 v6 v7 v8 v9 : Option Value} {t : List (Option Value)} {x : Nat} (hd : decode cc pc = .ok (.aload 10, 2)) (k : sw_W G K nL (pc + 2) (v0 :: v1 :: v2 :: v3 :: v4 :: v5 :: v6 :: v7 :: v8 :: v9 :: some (.ref x) :: t) (.ref x :: rest) M) : sw_W G K nL pc (v0 :: v1 :: v2 :: v3 :: v4 :: v5 :: v6 :: v7 :: v8 :: v9 :: some (.ref x) :: t) rest M := fun H locs ls hP hS hL => lv_aload X.1 X.2.1 hd (hL.2.2.2 10 _ rfl) (k H locs ls hP hS hL)
theorem sw_istore_10 (X : sv_X G K cc own nL d) {v0 v1 v2 v3 v4 v5 v6 v7 v8 v9 : Option Value} {w : Option Value} {t : List (Option Value)} {x : Int32} (hd : decode cc pc = .ok (.istore 10, 2)) (h1 : sv_c1 v9) (k : sw_W G K nL (pc + 2) (v0 :: v1 :: v2 :: v3 :: v4 :: v5 :: v6 :: v7 :: v8 :: v9 :: some (.int x) :: t) rest M) : sw_W G K nL pc (v0 :: v1 :: v2 :: v3 :: v4 :: v5 :: v6 :: v7 :: v8 :: v9 :: w :: t) (.int x :: rest) M := fun H locs ls hP hS hL => lv_istore X.1 X.2.1 hd (sv_L_has hL) (sv_L_lt hL (i := 10) (by simp)) rfl (fun ls2 h2 => k H locs ls2 hP hS (sv_L_set (w := .int x) hL h2 (i := 10) (by simp) rfl (sv_c1_no (k0 := 9) rfl h1)))
theorem sw_astore_10 (X : sv_X G K cc own nL d) {v0 v1 v2 v3 v4 v5 v6 v7 v8 v9 : Option Value} {w : Option Value} {t : List (Option Value)} {x : Nat} (hd : decode cc pc = .ok (.astore 10, 2)) (h1 : sv_c1 v9) (k : sw_W G K nL (pc + 2) (v0 :: v1 :: v2 :: v3 :: v4 :: v5 :: v6 :: v7 :: v8 :: v9 :: some (.ref x) :: t) rest M) : sw_W G K nL pc (v0 :: v1 :: v2 :: v3 :: v4 :: v5 :: v6 :: v7 :: v8 :: v9 :: w :: t) (.ref x :: rest) M := fun H locs ls hP hS hL => lv_astore X.1 X.2.1 hd (sv_L_has hL) (sv_L_lt hL (i := 10) (by simp)) rfl (fun ls2 h2 => k H locs ls2 hP hS (sv_L_set (w := .ref x) hL h2 (i := 10) (by simp) rfl (sv_c1_no (k0 := 9) rfl h1)))
theorem sw_iinc_10 (X : sv_X G K cc own nL d) {v0 v1 v2 v3 v4 v5 v6 v7 v8 v9 : Option Value} {t : List (Option Value)} {n : Int} {x : Int32} (v : Int32) (hd : decode cc pc = .ok (.iinc 10 n, 3)) (hv : x + Int32.ofInt n = v) (h1 : sv_c1 v9) (k : sw_W G K nL (pc + 3) (v0 :: v1 :: v2 :: v3 :: v4 :: v5 :: v6 :: v7 :: v8 :: v9 :: some (.int v) :: t) rest M) : sw_W G K nL pc (v0 :: v1 :: v2 :: v3 :: v4 :: v5 :: v6 :: v7 :: v8 :: v9 :: some (.int x) :: t) rest M := fun H locs ls hP hS hL => by
  obtain ⟨q, hq⟩ := sv_L_place hL (i := 10) (v := .int x) rfl
  exact lv_iinc X.1 X.2.1 hd (sv_L_has hL) hq hv (sv_L_lt hL (i := 10) (by simp)) rfl (fun ls2 h2 => k H locs ls2 hP hS (sv_L_set (w := .int v) hL h2 (i := 10) (by simp) rfl (sv_c1_no (k0 := 9) rfl h1)))
theorem sw_drop_10 {v0 v1 v2 v3 v4 v5 v6 v7 v8 v9 : Option Value} {w : Option Value} {t : List (Option Value)} (k : sw_W G K nL pc (v0 :: v1 :: v2 :: v3 :: v4 :: v5 :: v6 :: v7 :: v8 :: v9 :: none :: t) rest M) : sw_W G K nL pc (v0 :: v1 :: v2 :: v3 :: v4 :: v5 :: v6 :: v7 :: v8 :: v9 :: w :: t) rest M := fun H locs ls hP hS hL => k H locs ls hP hS (sv_L_drop hL 10 rfl)
theorem sw_iload_11 (X : sv_X G K cc own nL d) {v0 v1 v2 v3 v4 v5 v6 v7 v8 v9 v10 : Option Value} {t : List (Option Value)} {x : Int32} (hd : decode cc pc = .ok (.iload 11, 2)) (k : sw_W G K nL (pc + 2) (v0 :: v1 :: v2 :: v3 :: v4 :: v5 :: v6 :: v7 :: v8 :: v9 :: v10 :: some (.int x) :: t) (.int x :: rest) M) : sw_W G K nL pc (v0 :: v1 :: v2 :: v3 :: v4 :: v5 :: v6 :: v7 :: v8 :: v9 :: v10 :: some (.int x) :: t) rest M := fun H locs ls hP hS hL => lv_iload X.1 X.2.1 hd (hL.2.2.2 11 _ rfl) (k H locs ls hP hS hL)
theorem sw_aload_11 (X : sv_X G K cc own nL d) {v0 v1 v2 v3 v4 v5 v6 v7 v8 v9 v10 : Option Value} {t : List (Option Value)} {x : Nat} (hd : decode cc pc = .ok (.aload 11, 2)) (k : sw_W G K nL (pc + 2) (v0 :: v1 :: v2 :: v3 :: v4 :: v5 :: v6 :: v7 :: v8 :: v9 :: v10 :: some (.ref x) :: t) (.ref x :: rest) M) : sw_W G K nL pc (v0 :: v1 :: v2 :: v3 :: v4 :: v5 :: v6 :: v7 :: v8 :: v9 :: v10 :: some (.ref x) :: t) rest M := fun H locs ls hP hS hL => lv_aload X.1 X.2.1 hd (hL.2.2.2 11 _ rfl) (k H locs ls hP hS hL)
theorem sw_istore_11 (X : sv_X G K cc own nL d) {v0 v1 v2 v3 v4 v5 v6 v7 v8 v9 v10 : Option Value} {w : Option Value} {t : List (Option Value)} {x : Int32} (hd : decode cc pc = .ok (.istore 11, 2)) (h1 : sv_c1 v10) (k : sw_W G K nL (pc + 2) (v0 :: v1 :: v2 :: v3 :: v4 :: v5 :: v6 :: v7 :: v8 :: v9 :: v10 :: some (.int x) :: t) rest M) : sw_W G K nL pc (v0 :: v1 :: v2 :: v3 :: v4 :: v5 :: v6 :: v7 :: v8 :: v9 :: v10 :: w :: t) (.int x :: rest) M := fun H locs ls hP hS hL => lv_istore X.1 X.2.1 hd (sv_L_has hL) (sv_L_lt hL (i := 11) (by simp)) rfl (fun ls2 h2 => k H locs ls2 hP hS (sv_L_set (w := .int x) hL h2 (i := 11) (by simp) rfl (sv_c1_no (k0 := 10) rfl h1)))
theorem sw_astore_11 (X : sv_X G K cc own nL d) {v0 v1 v2 v3 v4 v5 v6 v7 v8 v9 v10 : Option Value} {w : Option Value} {t : List (Option Value)} {x : Nat} (hd : decode cc pc = .ok (.astore 11, 2)) (h1 : sv_c1 v10) (k : sw_W G K nL (pc + 2) (v0 :: v1 :: v2 :: v3 :: v4 :: v5 :: v6 :: v7 :: v8 :: v9 :: v10 :: some (.ref x) :: t) rest M) : sw_W G K nL pc (v0 :: v1 :: v2 :: v3 :: v4 :: v5 :: v6 :: v7 :: v8 :: v9 :: v10 :: w :: t) (.ref x :: rest) M := fun H locs ls hP hS hL => lv_astore X.1 X.2.1 hd (sv_L_has hL) (sv_L_lt hL (i := 11) (by simp)) rfl (fun ls2 h2 => k H locs ls2 hP hS (sv_L_set (w := .ref x) hL h2 (i := 11) (by simp) rfl (sv_c1_no (k0 := 10) rfl h1)))
theorem sw_iinc_11 (X : sv_X G K cc own nL d) {v0 v1 v2 v3 v4 v5 v6 v7 v8 v9 v10 : Option Value} {t : List (Option Value)} {n : Int} {x : Int32} (v : Int32) (hd : decode cc pc = .ok (.iinc 11 n, 3)) (hv : x + Int32.ofInt n = v) (h1 : sv_c1 v10) (k : sw_W G K nL (pc + 3) (v0 :: v1 :: v2 :: v3 :: v4 :: v5 :: v6 :: v7 :: v8 :: v9 :: v10 :: some (.int v) :: t) rest M) : sw_W G K nL pc (v0 :: v1 :: v2 :: v3 :: v4 :: v5 :: v6 :: v7 :: v8 :: v9 :: v10 :: some (.int x) :: t) rest M := fun H locs ls hP hS hL => by
  obtain ⟨q, hq⟩ := sv_L_place hL (i := 11) (v := .int x) rfl
  exact lv_iinc X.1 X.2.1 hd (sv_L_has hL) hq hv (sv_L_lt hL (i := 11) (by simp)) rfl (fun ls2 h2 => k H locs ls2 hP hS (sv_L_set (w := .int v) hL h2 (i := 11) (by simp) rfl (sv_c1_no (k0 := 10) rfl h1)))
theorem sw_drop_11 {v0 v1 v2 v3 v4 v5 v6 v7 v8 v9 v10 : Option Value} {w : Option Value} {t : List (Option Value)} (k : sw_W G K nL pc (v0 :: v1 :: v2 :: v3 :: v4 :: v5 :: v6 :: v7 :: v8 :: v9 :: v10 :: none :: t) rest M) : sw_W G K nL pc (v0 :: v1 :: v2 :: v3 :: v4 :: v5 :: v6 :: v7 :: v8 :: v9 :: v10 :: w :: t) rest M := fun H locs ls hP hS hL => k H locs ls hP hS (sv_L_drop hL 11 rfl)
theorem sw_iload_12 (X : sv_X G K cc own nL d) {v0 v1 v2 v3 v4 v5 v6 v7 v8 v9 v10 v11 : Option Value} {t : List (Option Value)} {x : Int32} (hd : decode cc pc = .ok (.iload 12, 2)) (k : sw_W G K nL (pc + 2) (v0 :: v1 :: v2 :: v3 :: v4 :: v5 :: v6 :: v7 :: v8 :: v9 :: v10 :: v11 :: some (.int x) :: t) (.int x :: rest) M) : sw_W G K nL pc (v0 :: v1 :: v2 :: v3 :: v4 :: v5 :: v6 :: v7 :: v8 :: v9 :: v10 :: v11 :: some (.int x) :: t) rest M := fun H locs ls hP hS hL => lv_iload X.1 X.2.1 hd (hL.2.2.2 12 _ rfl) (k H locs ls hP hS hL)
theorem sw_aload_12 (X : sv_X G K cc own nL d) {v0 v1 v2 v3 v4 v5 v6 v7 v8 v9 v10 v11 : Option Value} {t : List (Option Value)} {x : Nat} (hd : decode cc pc = .ok (.aload 12, 2)) (k : sw_W G K nL (pc + 2) (v0 :: v1 :: v2 :: v3 :: v4 :: v5 :: v6 :: v7 :: v8 :: v9 :: v10 :: v11 :: some (.ref x) :: t) (.ref x :: rest) M) : sw_W G K nL pc (v0 :: v1 :: v2 :: v3 :: v4 :: v5 :: v6 :: v7 :: v8 :: v9 :: v10 :: v11 :: some (.ref x) :: t) rest M := fun H locs ls hP hS hL => lv_aload X.1 X.2.1 hd (hL.2.2.2 12 _ rfl) (k H locs ls hP hS hL)
theorem sw_istore_12 (X : sv_X G K cc own nL d) {v0 v1 v2 v3 v4 v5 v6 v7 v8 v9 v10 v11 : Option Value} {w : Option Value} {t : List (Option Value)} {x : Int32} (hd : decode cc pc = .ok (.istore 12, 2)) (h1 : sv_c1 v11) (k : sw_W G K nL (pc + 2) (v0 :: v1 :: v2 :: v3 :: v4 :: v5 :: v6 :: v7 :: v8 :: v9 :: v10 :: v11 :: some (.int x) :: t) rest M) : sw_W G K nL pc (v0 :: v1 :: v2 :: v3 :: v4 :: v5 :: v6 :: v7 :: v8 :: v9 :: v10 :: v11 :: w :: t) (.int x :: rest) M := fun H locs ls hP hS hL => lv_istore X.1 X.2.1 hd (sv_L_has hL) (sv_L_lt hL (i := 12) (by simp)) rfl (fun ls2 h2 => k H locs ls2 hP hS (sv_L_set (w := .int x) hL h2 (i := 12) (by simp) rfl (sv_c1_no (k0 := 11) rfl h1)))
theorem sw_astore_12 (X : sv_X G K cc own nL d) {v0 v1 v2 v3 v4 v5 v6 v7 v8 v9 v10 v11 : Option Value} {w : Option Value} {t : List (Option Value)} {x : Nat} (hd : decode cc pc = .ok (.astore 12, 2)) (h1 : sv_c1 v11) (k : sw_W G K nL (pc + 2) (v0 :: v1 :: v2 :: v3 :: v4 :: v5 :: v6 :: v7 :: v8 :: v9 :: v10 :: v11 :: some (.ref x) :: t) rest M) : sw_W G K nL pc (v0 :: v1 :: v2 :: v3 :: v4 :: v5 :: v6 :: v7 :: v8 :: v9 :: v10 :: v11 :: w :: t) (.ref x :: rest) M := fun H locs ls hP hS hL => lv_astore X.1 X.2.1 hd (sv_L_has hL) (sv_L_lt hL (i := 12) (by simp)) rfl (fun ls2 h2 => k H locs ls2 hP hS (sv_L_set (w := .ref x) hL h2 (i := 12) (by simp) rfl (sv_c1_no (k0 := 11) rfl h1)))
theorem sw_iinc_12 (X : sv_X G K cc own nL d) {v0 v1 v2 v3 v4 v5 v6 v7 v8 v9 v10 v11 : Option Value} {t : List (Option Value)} {n : Int} {x : Int32} (v : Int32) (hd : decode cc pc = .ok (.iinc 12 n, 3)) (hv : x + Int32.ofInt n = v) (h1 : sv_c1 v11) (k : sw_W G K nL (pc + 3) (v0 :: v1 :: v2 :: v3 :: v4 :: v5 :: v6 :: v7 :: v8 :: v9 :: v10 :: v11 :: some (.int v) :: t) rest M) : sw_W G K nL pc (v0 :: v1 :: v2 :: v3 :: v4 :: v5 :: v6 :: v7 :: v8 :: v9 :: v10 :: v11 :: some (.int x) :: t) rest M := fun H locs ls hP hS hL => by
  obtain ⟨q, hq⟩ := sv_L_place hL (i := 12) (v := .int x) rfl
  exact lv_iinc X.1 X.2.1 hd (sv_L_has hL) hq hv (sv_L_lt hL (i := 12) (by simp)) rfl (fun ls2 h2 => k H locs ls2 hP hS (sv_L_set (w := .int v) hL h2 (i := 12) (by simp) rfl (sv_c1_no (k0 := 11) rfl h1)))
theorem sw_drop_12 {v0 v1 v2 v3 v4 v5 v6 v7 v8 v9 v10 v11 : Option Value} {w : Option Value} {t : List (Option Value)} (k : sw_W G K nL pc (v0 :: v1 :: v2 :: v3 :: v4 :: v5 :: v6 :: v7 :: v8 :: v9 :: v10 :: v11 :: none :: t) rest M) : sw_W G K nL pc (v0 :: v1 :: v2 :: v3 :: v4 :: v5 :: v6 :: v7 :: v8 :: v9 :: v10 :: v11 :: w :: t) rest M := fun H locs ls hP hS hL => k H locs ls hP hS (sv_L_drop hL 12 rfl)
end SWP
end
section
section SWM
variable {G : sv_G} {K : sv_K} {cc : ByteArray} {own : String} {nL d : Nat} {M : sv_Mem} {pc : Nat} {lo : List (Option Value)} {rest : List Value} {k i j : Nat}
theorem sw_get (X : sv_X G K cc own nL d) (hv : sv_V G k i j) {ref C : String} {T : u_T} {N ci index : Nat} {fs : List Value} (he : sv_ent G M k i j = .inr (ci, fs)) (hc : vwCl[ci]? = some (C, T, N)) (hin : ∀ w ∈ u_ws C T N, w ∈ lw_g) (q : Nat) (hq : q < N) (hlink : Cond.fieldLink own index ref (T q).2.1 (T q).2.2.1 ∈ lw_g) (hr : ref = (T q).1) {v : Value} (hf : fs[q]? = some v)
    (hd : decode cc pc = .ok (.getfield index, 3)) (kk : sw_W G K nL (pc + 3) lo (v :: rest) M) : sw_W G K nL pc lo (.ref (sv_ad G k i j) :: rest) M := by
  intro H locs ls hP hS hL
  exact va_get X.1 X.2.1 X.2.2.2.2.1 hin (sv_X_own X) (sv_X_K X) hP (sv_off k i j) ((sv_cells_at hv).trans (by rw [he])) hc q hq (sv_X_word X hlink) (fun x hx => hr ▸ hx) hf hd (kk H locs ls hP hS hL)
theorem sw_getN (X : sv_X G K cc own nL d) (hv : sv_V G k i j) {ref C host : String} {T : u_T} {N ci index : Nat} {fs : List Value} (he : sv_ent G M k i j = .inr (ci, fs)) (hc : vwCl[ci]? = some (C, T, N)) (hin : ∀ w ∈ u_ws C T N, w ∈ lw_g) (q : Nat) (hq : q < N) (hlink : Cond.fieldLinkNest own index ref (T q).2.1 (T q).2.2.1 host ∈ lw_n) (hr : ref = (T q).1) {v : Value} (hf : fs[q]? = some v)
    (hd : decode cc pc = .ok (.getfield index, 3)) (kk : sw_W G K nL (pc + 3) lo (v :: rest) M) : sw_W G K nL pc lo (.ref (sv_ad G k i j) :: rest) M := by
  intro H locs ls hP hS hL
  exact va_getN X.1 X.2.1 X.2.2.2.2.1 hin (sv_X_own X) (sv_X_K X) hP (sv_off k i j) ((sv_cells_at hv).trans (by rw [he])) hc q hq (va_Nw.use rfl (sv_X_nest X hlink)) (fun x hx => hr ▸ hx) hf hd (kk H locs ls hP hS hL)
theorem sw_put (X : sv_X G K cc own nL d) (hv : sv_V G k i j) {ref C : String} {T : u_T} {N ci index : Nat} {fs : List Value} (he : sv_ent G M k i j = .inr (ci, fs)) (hc : vwCl[ci]? = some (C, T, N)) (hin : ∀ w ∈ u_ws C T N, w ∈ lw_g) (ty0 : Nat → FieldType) (hty : ∀ k, k < N → parseFieldDescriptor (T k).2.2.1 = some (ty0 k)) (hnm : ∀ a, a < N → ∀ b, b < N → a ≠ b → (T a).2.1 ≠ (T b).2.1)
    (q : Nat) (hq : q < N) (hlink : Cond.fieldLink own index ref (T q).2.1 (T q).2.2.1 ∈ lw_g) (hr : ref = (T q).1) (hfin : (T q).2.2.2 = false) {ty : FieldType} {x : Int32} (hdsc : parseFieldDescriptor (T q).2.2.1 = some ty) (hn : narrow ty (.int x) = .int x) (hfit : fits ty (.int x) = true) (hlen : q < fs.length) (he2 : sv_ent G (sv_up M i k j q x) k i j = .inr (ci, fs.set q (.int x)))
    (hd : decode cc pc = .ok (.putfield index, 3)) (kk : sw_W G K nL (pc + 3) lo rest (sv_up M i k j q x)) : sw_W G K nL pc lo (.int x :: .ref (sv_ad G k i j) :: rest) M := by
  intro H locs ls hP hS hL
  refine va_put X.1 X.2.1 X.2.2.2.2.1 hin ty0 hty hnm (sv_X_own X) (sv_X_K X) hP (sv_cells_D (sv_X_A X)) hS (sv_off k i j) ((sv_cells_at hv).trans (by rw [he])) hc q hq (sv_X_word X hlink) (fun x hx => hr ▸ hx) hfin hdsc hn hfit hlen hd (fun H1 locs1 hP1 _ hS1 => ?_)
  rw [← he2, sv_cells_set hv (sv_up_ne M i k j q x)] at hP1
  exact kk H1 locs1 ls hP1 hS1 hL
theorem sw_putN (X : sv_X G K cc own nL d) (hv : sv_V G k i j) {ref C host : String} {T : u_T} {N ci index : Nat} {fs : List Value} (he : sv_ent G M k i j = .inr (ci, fs)) (hc : vwCl[ci]? = some (C, T, N)) (hin : ∀ w ∈ u_ws C T N, w ∈ lw_g) (ty0 : Nat → FieldType) (hty : ∀ k, k < N → parseFieldDescriptor (T k).2.2.1 = some (ty0 k)) (hnm : ∀ a, a < N → ∀ b, b < N → a ≠ b → (T a).2.1 ≠ (T b).2.1)
    (q : Nat) (hq : q < N) (hlink : Cond.fieldLinkNest own index ref (T q).2.1 (T q).2.2.1 host ∈ lw_n) (hr : ref = (T q).1) (hfin : (T q).2.2.2 = false) {ty : FieldType} {x : Int32} (hdsc : parseFieldDescriptor (T q).2.2.1 = some ty) (hn : narrow ty (.int x) = .int x) (hfit : fits ty (.int x) = true) (hlen : q < fs.length) (he2 : sv_ent G (sv_up M i k j q x) k i j = .inr (ci, fs.set q (.int x)))
    (hd : decode cc pc = .ok (.putfield index, 3)) (kk : sw_W G K nL (pc + 3) lo rest (sv_up M i k j q x)) : sw_W G K nL pc lo (.int x :: .ref (sv_ad G k i j) :: rest) M := by
  intro H locs ls hP hS hL
  refine va_putN X.1 X.2.1 X.2.2.2.2.1 hin ty0 hty hnm (sv_X_own X) (sv_X_K X) hP (sv_cells_D (sv_X_A X)) hS (sv_off k i j) ((sv_cells_at hv).trans (by rw [he])) hc q hq (va_Nw.use rfl (sv_X_nest X hlink)) (fun x hx => hr ▸ hx) hfin hdsc hn hfit hlen hd (fun H1 locs1 hP1 _ hS1 => ?_)
  rw [← he2, sv_cells_set hv (sv_up_ne M i k j q x)] at hP1
  exact kk H1 locs1 ls hP1 hS1 hL
theorem sv_in {x : Int32} {n N : Nat} (hx : x = nI n) (hn : n < N) (hN : N ≤ 5000) : vp_in x N ∧ x.toNatClampNeg = n := by
  subst hx
  exact ⟨vp_in_nI hn (by omega), nI_clamp (by omega)⟩
theorem sw_iald (X : sv_X G K cc own nL d) (hv : sv_V G k i j) {N : Nat} (he : sv_ent G M k i j = .inl (sv_cI G, N, .inl (M i k j))) {x : Int32} {n : Nat} (hx : x = nI n) (hn : n < N) (hN : N ≤ 5000) (hd : decode cc pc = .ok (.iaload, 1))
    (kk : sw_W G K nL (pc + 1) lo (.int (M i k j n) :: rest) M) : sw_W G K nL pc lo (.int x :: .ref (sv_ad G k i j) :: rest) M := by
  intro H locs ls hP hS hL
  obtain ⟨h1, h2⟩ := sv_in hx hn hN
  refine va_iald X.1 X.2.1 (sv_X_K X) hP (sv_off k i j) 0 ((sv_cells_at hv).trans (by rw [he])) rfl h1 hd ?_
  rw [h2]
  exact kk H locs ls hP hS hL
theorem sw_cald (X : sv_X G K cc own nL d) (hv : sv_V G k i j) {N : Nat} (he : sv_ent G M k i j = .inl (sv_cC G, N, .inl (M i k j))) {x : Int32} {n : Nat} (hx : x = nI n) (hn : n < N) (hN : N ≤ 5000) (hd : decode cc pc = .ok (.caload, 1))
    (kk : sw_W G K nL (pc + 1) lo (.int (M i k j n) :: rest) M) : sw_W G K nL pc lo (.int x :: .ref (sv_ad G k i j) :: rest) M := by
  intro H locs ls hP hS hL
  obtain ⟨h1, h2⟩ := sv_in hx hn hN
  refine va_cald X.1 X.2.1 (sv_X_K X) hP (sv_off k i j) 1 ((sv_cells_at hv).trans (by rw [he])) rfl h1 hd ?_
  rw [h2]
  exact kk H locs ls hP hS hL
theorem sw_iast (X : sv_X G K cc own nL d) (hv : sv_V G k i j) {N : Nat} (he : ∀ M : sv_Mem, sv_ent G M k i j = .inl (sv_cI G, N, .inl (M i k j))) {x v : Int32} {n : Nat} (hx : x = nI n) (hn : n < N) (hN : N ≤ 5000) (hd : decode cc pc = .ok (.iastore, 1))
    (kk : sw_W G K nL (pc + 1) lo rest (sv_up M i k j n v)) : sw_W G K nL pc lo (.int v :: .int x :: .ref (sv_ad G k i j) :: rest) M := by
  intro H locs ls hP hS hL
  obtain ⟨h1, h2⟩ := sv_in hx hn hN
  refine va_iast X.1 X.2.1 (sv_X_K X) hP (sv_cells_D (sv_X_A X)) hS (sv_off k i j) 0 ((sv_cells_at hv).trans (by rw [he])) rfl h1 hd (fun H1 locs1 hP1 _ hS1 => ?_)
  rw [h2, show upd (M i k j) n v = sv_up M i k j n v i k j from (sv_up_at M i k j n v).symm, ← he, sv_cells_set hv (sv_up_ne M i k j n v)] at hP1
  exact kk H1 locs1 ls hP1 hS1 hL
theorem sw_cast (X : sv_X G K cc own nL d) (hv : sv_V G k i j) {N : Nat} (he : ∀ M : sv_Mem, sv_ent G M k i j = .inl (sv_cC G, N, .inl (M i k j))) {x v : Int32} {n : Nat} (hx : x = nI n) (hn : n < N) (hN : N ≤ 5000) (hvn : vp_nar .char v = v) (hd : decode cc pc = .ok (.castore, 1))
    (kk : sw_W G K nL (pc + 1) lo rest (sv_up M i k j n v)) : sw_W G K nL pc lo (.int v :: .int x :: .ref (sv_ad G k i j) :: rest) M := by
  intro H locs ls hP hS hL
  obtain ⟨h1, h2⟩ := sv_in hx hn hN
  refine va_cast X.1 X.2.1 (sv_X_K X) hP (sv_cells_D (sv_X_A X)) hS (sv_off k i j) 1 ((sv_cells_at hv).trans (by rw [he])) rfl h1 hd (fun H1 locs1 hP1 _ hS1 => ?_)
  rw [h2, hvn, show upd (M i k j) n v = sv_up M i k j n v i k j from (sv_up_at M i k j n v).symm, ← he, sv_cells_set hv (sv_up_ne M i k j n v)] at hP1
  exact kk H1 locs1 ls hP1 hS1 hL
/-- transactions[n] of a State -/
theorem sw_aaldT (X : sv_X G K cc own nL d) (hi : i < 8) {x : Int32} {n : Nat} (hx : x = nI n) (hn : n < 3) (hd : decode cc pc = .ok (.aaload, 1))
    (kk : sw_W G K nL (pc + 1) lo (.ref (sv_ad G 14 i n) :: rest) M) : sw_W G K nL pc lo (.int x :: .ref (sv_ad G 12 i 0) :: rest) M := by
  intro H locs ls hP hS hL
  obtain ⟨h1, h2⟩ := sv_in hx hn (by omega)
  refine va_aldq X.1 X.2.1 (sv_X_K X) hP (sv_off 12 i 0) 2 (C := "SavepointStore$Transaction") (cA := sv_cT G) (n := 3) (f := fun q => some (sv_ad G 14 i q)) (sv_cells_at (by omega)) rfl h1 hd ?_
  rw [h2]
  exact kk H locs ls hP hS hL
/-- history[n] of the store -/
theorem sw_aaldS (X : sv_X G K cc own nL d) {x : Int32} {n : Nat} (hx : x = nI n) (hn : n < 6) (hd : decode cc pc = .ok (.aaload, 1))
    (kk : sw_W G K nL (pc + 1) lo (.ref (sv_ad G 10 (n + 2) 0) :: rest) M) : sw_W G K nL pc lo (.int x :: .ref (sv_ad G 1 8 0) :: rest) M := by
  intro H locs ls hP hS hL
  obtain ⟨h1, h2⟩ := sv_in hx hn (by omega)
  refine va_aldq X.1 X.2.1 (sv_X_K X) hP (sv_off 1 8 0) 3 (C := "SavepointStore$State") (cA := sv_cS G) (n := 6) (f := fun q => some (sv_ad G 10 (q + 2) 0)) (sv_cells_at (by omega)) rfl h1 hd ?_
  rw [h2]
  exact kk H locs ls hP hS hL
/-- System.arraycopy between two rows of ints -/
theorem sw_copy (X : sv_X G K cc own nL d) {index : Nat} {i2 j2 : Nat} (hv : sv_V G k i j) (hv2 : sv_V G k i2 j2) {N : Nat} (he : ∀ (M : sv_Mem) (i j : Nat), sv_ent G M k i j = .inl (sv_cI G, N, .inl (M i k j))) {x : Int32} {n : Nat} (hx : x = nI n) (hn : n ≤ N) (hN : N ≤ 5000)
    (hlink : Cond.methodLink own index arraycopyName ∈ lw_g) (hnat : Cond.native arraycopyName ∈ lw_g) (hst : Cond.static arraycopyName ∈ lw_g) (hini : Cond.initialized "java/lang/System" ∈ lw_g) (hd1 : 1 ≤ d) (hrest : (rest.map fun v => v.category).sum ≤ 8) (hd : decode cc pc = .ok (.invokestatic index, 3))
    (kk : sw_W G K nL (pc + 3) lo rest (sv_upA M i2 k j2 (va_cpy (M i k j) (M i2 k j2) 0 0 n))) : sw_W G K nL pc lo (.int x :: .int (nI 0) :: .ref (sv_ad G k i2 j2) :: .int (nI 0) :: .ref (sv_ad G k i j) :: rest) M := by
  intro H locs ls hP hS hL
  obtain ⟨r1, r2, r3, r4⟩ := sv_X_R X
  have hxn : x.toNatClampNeg = n := by rw [hx]; exact nI_clamp (by omega)
  have h0 : (nI 0).toNatClampNeg = 0 := nI_clamp (by decide)
  refine va_copyi X.1 X.2.1 (X.2.2.1.trans hL.1.symm) (sv_X_own X) (sv_X_word X hlink) (sv_X_word X hnat) (sv_X_word X hst) (sv_X_word X hini) (sv_X_K X) hP (sv_cells_D (sv_X_A X)) hS (sv_off k i j) (sv_off k i2 j2) 0 0 (ty := .int)
    ((sv_cells_at hv).trans (by rw [he])) ((sv_cells_at hv2).trans (by rw [he])) rfl rfl rfl (by decide) (by decide) (by rw [hx]; exact nI_pos (by omega)) (by rw [h0, hxn]; omega) (by rw [h0, hxn]; omega) (fun _ _ => rfl) (by omega) ?_ hd (fun H1 locs1 hP1 _ hS1 => ?_)
  · have : nativeFrameWords "java/lang/System" "arraycopy" 5 + 11 ≤ 28 := by decide +kernel
    omega
  · rw [h0, hxn, show va_cpy (M i k j) (M i2 k j2) 0 0 n = sv_upA M i2 k j2 (va_cpy (M i k j) (M i2 k j2) 0 0 n) i2 k j2 from (sv_upA_at M i2 k j2 _).symm, ← he, sv_cells_set hv2 (sv_upA_ne M i2 k j2 _)] at hP1
    exact kk H1 locs1 ls hP1 hS1 hL
theorem sw_mmax (X : sv_X G K cc own nL d) {index : Nat} {x y : Int32} (hlink : Cond.methodLink own index Lib.Math.max.name ∈ lw_g) (hst : Cond.static Lib.Math.max.name ∈ lw_g) (hini : Cond.initialized "java/lang/Math" ∈ lw_g) (hcode : Cond.code Lib.Math.max.name Lib.Math.max.code 2 (some .int) ∈ lw_g) (hd1 : 1 ≤ d) (hrest : (rest.map fun v => v.category).sum ≤ 8) (hd : decode cc pc = .ok (.invokestatic index, 3))
    (kk : sw_W G K nL (pc + 3) lo (.int (if x < y then y else x) :: rest) M) : sw_W G K nL pc lo (.int y :: .int x :: rest) M := by
  intro H locs ls hP hS hL
  obtain ⟨r1, r2, r3, r4⟩ := sv_X_R X
  exact va_mmax X.1 X.2.1 (X.2.2.1.trans hL.1.symm) (sv_X_own X) (sv_X_word X hlink) (sv_X_word X hst) (sv_X_word X hini) (sv_X_word X hcode) (by omega) (by omega) r3 r4 hd (kk H locs ls hP hS hL)
theorem sw_mmin (X : sv_X G K cc own nL d) {index : Nat} {x y : Int32} (hlink : Cond.methodLink own index Lib.Math.min.name ∈ lw_g) (hst : Cond.static Lib.Math.min.name ∈ lw_g) (hini : Cond.initialized "java/lang/Math" ∈ lw_g) (hcode : Cond.code Lib.Math.min.name Lib.Math.min.code 2 (some .int) ∈ lw_g) (hd1 : 1 ≤ d) (hrest : (rest.map fun v => v.category).sum ≤ 8) (hd : decode cc pc = .ok (.invokestatic index, 3))
    (kk : sw_W G K nL (pc + 3) lo (.int (if y < x then y else x) :: rest) M) : sw_W G K nL pc lo (.int y :: .int x :: rest) M := by
  intro H locs ls hP hS hL
  obtain ⟨r1, r2, r3, r4⟩ := sv_X_R X
  exact va_mmin X.1 X.2.1 (X.2.2.1.trans hL.1.symm) (sv_X_own X) (sv_X_word X hlink) (sv_X_word X hst) (sv_X_word X hini) (sv_X_word X hcode) (by omega) (by omega) r3 r4 hd (kk H locs ls hP hS hL)
end SWM
section SWC
variable {G : sv_G} {K : sv_K} {cc : ByteArray} {own : String} {nL d : Nat} {M M1 : sv_Mem} {pc : Nat} {lo : List (Option Value)} {rest : List Value} {k i j : Nat}
/-- the words of a method that any caller needs -/
def sv_MW (m : sv_M) : Prop := Cond.code m.1 m.2.1 m.2.2.1 m.2.2.2 ∈ lw_g ∧ Cond.initialized m.1.cls ∈ lw_g ∧ m.2.2.1 ≤ 17 ∧ (m.1.cls ≠ "java/lang/invoke/MethodHandle" ∧ m.1.cls ≠ "java/lang/invoke/VarHandle")
theorem sv_good {m : sv_M} (h : sv_MW m) : GoodIn lw_g (sv_ws m) := by
  intro w hw
  rcases List.mem_cons.mp hw with rfl | hw
  · exact ⟨h.1, good_of_word (List.mem_filter.mp h.1).2⟩
  · exact ⟨hw, good_of_word (List.mem_filter.mp hw).2⟩
theorem sv_blind {G : sv_G} {args : List Value} {M : sv_Mem} : FrameBlind (sv_Pc G args M) := fun a U g mk q => ⟨q.1, q.2.1, va_K.moved (u := U) (U := U.calling g mk a) (Vm.Alike.refl U.vm) q.2.2.1, fun w hw => va_Nw.same (u := U) (U := U.calling g mk a) (by have h2 := (List.mem_filter.mp hw).2; cases w <;> first | rfl | (simp [lw_nest] at h2)) rfl (q.2.2.2 w hw)⟩
theorem sw_run (X : sv_X G K cc own nL d) {st : List Value} {ret : Option Value} {a : Array Value} (hr : ∀ H locs ls, va_P G.2.2.1 vwCl (sv_cells G M) H → sv_L ls nL lo → va_Run (kp K) G.1 (ke K) (kR K) (ks K) (km K) (kargs K) (kbelow K) (kmeth K) (kc K) H locs (kcells K) (kslots K) 0 0 (F0 (km K) pc ls st) rest (sv_Qc G ret M1 a) (fun q => G.2.1 ≤ q))
    (kk : sw_W G K nL (pc + 3) lo (ret.toList ++ rest) M1) : sw_W G K nL pc lo st M := by
  intro H locs ls hP hS hL T hT XX
  obtain ⟨v, st₀, t, T', L, h0, X', hLf, e1, e2, ⟨hv, hp, hz, hk⟩, stp⟩ := hr H locs ls hP hL T hT XX
  cases hv
  rw [h0] at hz hk
  obtain ⟨t2, a1, b1⟩ := kk T'.heap (locs ++ L) ls (by rw [e1]; exact hp) ⟨Nat.le_trans hS.1 (by rw [e1]; exact hz), fun q h1 h2 => by rw [e1, hk q (Nat.lt_of_lt_of_le h1 hS.1) (fun z => h2 (sv_X_A X q z))]; exact hS.2.1 q h1 h2, fun q hq => by
      rcases List.mem_append.mp hq with h | h
      · exact hS.2.2 q h
      · exact sv_X_A X _ (hLf q h)⟩ hL T' rfl X'
  exact ⟨t2, stp t2 a1, b1⟩
theorem sv_pre (X : sv_X G K cc own nL d) {H : Heap} {as : List Value} (hP : va_P G.2.2.1 vwCl (sv_cells G M) H) : ∀ U : State, U.heap = H → (ks K).WarmedH U.vm → sv_Pc G as M as.toArray U := fun U hU hW => ⟨rfl, by rw [hU]; exact hP, va_K.moved hW.alike (sv_X_K X), sv_Nw_warm hW X.2.2.2.2.2.2.2.2.2.2.2⟩
variable {m : sv_M} {d2 n index : Nat} {As : List Value} {ret : Option Value} {ci : Nat} {r : vw_C} {fs : List Value}
theorem sv_cnt (h : (parseMethodDescriptor m.1.desc).map (fun q => q.parameters.length) = some n) : ∀ sig, parseMethodDescriptor m.1.desc = some sig → n = sig.parameters.length := by
  intro sig h2
  rw [h2] at h
  exact (Option.some.inj h).symm
theorem sv_fit (X : sv_X G K cc own nL d) (h : sv_MW m) (hdd : d2 + 1 ≤ d) : (sv_room d2).frames + 1 ≤ (kR K).frames ∧ 8 + (m.2.2.1 + 11) + (sv_room d2).locals ≤ (kR K).locals := by
  obtain ⟨r1, r2, r3, r4⟩ := sv_X_R X
  obtain ⟨-, -, h3, -⟩ := h
  unfold sv_room
  constructor
  · show d2 + 1 ≤ _
    omega
  · show 8 + (m.2.2.1 + 11) + 36 * d2 ≤ _
    omega
theorem sv_B (X : sv_X G K cc own nL d) (hm : sv_MW m) (hn : (parseMethodDescriptor m.1.desc).map (fun q => q.parameters.length) = some n) (hl : Cond.methodLink own index m.1 ∈ lw_g) (hdd : d2 + 1 ≤ d) : CallB (kR K) (ks K) (kargs K) own index m.1 m.2.1 m.2.2.1 m.2.2.2 (sv_ws m) (sv_room d2) 0 0 n :=
  callB_of (ws' := lw_g) n X.2.2.2.2.1 (sv_good hm) rfl rfl rfl (sv_X_word X hm.2.1) (sv_X_word X hl) ⟨hm.2.2.2.1, hm.2.2.2.2, hn⟩ (sv_fit X hm hdd)
theorem sv_N (X : sv_X G K cc own nL d) {host : String} (hm : sv_MW m) (hn : (parseMethodDescriptor m.1.desc).map (fun q => q.parameters.length) = some n) (hl : Cond.methodLinkNest own index m.1 host ∈ lw_n) (hdd : d2 + 1 ≤ d) : va_CN (kR K) (ks K) (kargs K) own index m.1 host m.2.1 m.2.2.1 m.2.2.2 (sv_ws m) (sv_room d2) 0 0 n :=
  ⟨⟨rfl, rfl, (sv_fit X hm hdd).1, (sv_fit X hm hdd).2, pay_in X.2.2.2.2.1 (sv_good hm), List.mem_cons_self⟩, sv_X_word X hm.1, sv_X_word X hm.2.1, hm.2.2.2, sv_cnt hn, va_Nw.use rfl (sv_X_nest X hl)⟩
/-- invokevirtual of a method of the receiver's own class -/
theorem sw_callV (X : sv_X G K cc own nL d) (hm : sv_MW m) (hv : sv_V G k i j) (he : sv_ent G M k i j = .inr (ci, fs)) (hc : vwCl[ci]? = some r) (hrc : r.1 = m.1.cls) (hn : (parseMethodDescriptor m.1.desc).map (fun q => q.parameters.length) = some n) (hAs : As.length = n) (hl : Cond.methodLink own index m.1 ∈ lw_g) (hin : Cond.instanceMethod m.1 ∈ lw_g) (hse : Cond.selects m.1.cls m.1 m.1 ∈ lw_g) (hdd : d2 + 1 ≤ d)
    (hd : decode cc pc = .ok (.invokevirtual index, 3)) (hw : (rest.map fun v => v.category).sum ≤ 8) {st : List Value} (hst : st = As.reverse ++ .ref (sv_ad G k i j) :: rest) (hM : sv_Ct G m d2 (.ref (sv_ad G k i j) :: As) M ret M1) (kk : sw_W G K nL (pc + 3) lo (ret.toList ++ rest) M1) : sw_W G K nL pc lo st M := by
  refine sw_run X (fun H locs ls hP hL => va_runV (As := As) (rest := rest) (C := m.1.cls) ⟨X.1, X.2.1, X.2.2.1, sv_X_own X, X.2.2.2.2.1⟩ hM ⟨sv_B X hm hn hl hdd, sv_X_word X hin, sv_X_word X hse⟩ ⟨sv_blind, ?_, sv_pre X hP⟩ rfl hAs hL.1 hst (lv_room hw) hd ⟨(sv_X_R X).2.2.1, (sv_X_R X).2.2.2⟩) kk
  rw [← hrc]
  exact va_recv (sv_X_K X) hP (q0 := sv_off k i j) hc ((sv_cells_at hv).trans (by rw [he]))
theorem sw_callVN (X : sv_X G K cc own nL d) {host : String} (hm : sv_MW m) (hv : sv_V G k i j) (he : sv_ent G M k i j = .inr (ci, fs)) (hc : vwCl[ci]? = some r) (hrc : r.1 = m.1.cls) (hn : (parseMethodDescriptor m.1.desc).map (fun q => q.parameters.length) = some n) (hAs : As.length = n) (hl : Cond.methodLinkNest own index m.1 host ∈ lw_n) (hin : Cond.instanceMethod m.1 ∈ lw_g) (hse : Cond.selects m.1.cls m.1 m.1 ∈ lw_g) (hdd : d2 + 1 ≤ d)
    (hd : decode cc pc = .ok (.invokevirtual index, 3)) (hw : (rest.map fun v => v.category).sum ≤ 8) {st : List Value} (hst : st = As.reverse ++ .ref (sv_ad G k i j) :: rest) (hM : sv_Ct G m d2 (.ref (sv_ad G k i j) :: As) M ret M1) (kk : sw_W G K nL (pc + 3) lo (ret.toList ++ rest) M1) : sw_W G K nL pc lo st M := by
  refine sw_run X (fun H locs ls hP hL => va_runVN (As := As) (rest := rest) (C := m.1.cls) ⟨X.1, X.2.1, X.2.2.1, sv_X_own X, X.2.2.2.2.1⟩ hM ⟨sv_N X hm hn hl hdd, sv_X_word X hin, sv_X_word X hse⟩ ⟨sv_blind, ?_, sv_pre X hP⟩ rfl hAs hL.1 hst (lv_room hw) hd ⟨(sv_X_R X).2.2.1, (sv_X_R X).2.2.2⟩) kk
  rw [← hrc]
  exact va_recv (sv_X_K X) hP (q0 := sv_off k i j) hc ((sv_cells_at hv).trans (by rw [he]))
theorem sw_callS (X : sv_X G K cc own nL d) (hm : sv_MW m) (hn : (parseMethodDescriptor m.1.desc).map (fun q => q.parameters.length) = some n) (hAs : As.length = n) (hl : Cond.methodLink own index m.1 ∈ lw_g) (hs : Cond.static m.1 ∈ lw_g) (hdd : d2 + 1 ≤ d)
    (hd : decode cc pc = .ok (.invokestatic index, 3)) (hw : (rest.map fun v => v.category).sum ≤ 8) {st : List Value} (hst : st = As.reverse ++ rest) (hM : sv_Ct G m d2 As M ret M1) (kk : sw_W G K nL (pc + 3) lo (ret.toList ++ rest) M1) : sw_W G K nL pc lo st M :=
  sw_run X (fun H locs ls hP hL => va_runS (As := As) (rest := rest) ⟨X.1, X.2.1, X.2.2.1, sv_X_own X, X.2.2.2.2.1⟩ hM ⟨sv_B X hm hn hl hdd, sv_X_word X hs⟩ ⟨sv_blind, sv_pre X hP⟩ rfl hAs hL.1 hst (lv_room hw) hd ⟨(sv_X_R X).2.2.1, (sv_X_R X).2.2.2⟩) kk
theorem sw_callSN (X : sv_X G K cc own nL d) {host : String} (hm : sv_MW m) (hn : (parseMethodDescriptor m.1.desc).map (fun q => q.parameters.length) = some n) (hAs : As.length = n) (hl : Cond.methodLinkNest own index m.1 host ∈ lw_n) (hs : Cond.static m.1 ∈ lw_g) (hdd : d2 + 1 ≤ d)
    (hd : decode cc pc = .ok (.invokestatic index, 3)) (hw : (rest.map fun v => v.category).sum ≤ 8) {st : List Value} (hst : st = As.reverse ++ rest) (hM : sv_Ct G m d2 As M ret M1) (kk : sw_W G K nL (pc + 3) lo (ret.toList ++ rest) M1) : sw_W G K nL pc lo st M :=
  sw_run X (fun H locs ls hP hL => va_runSN (As := As) (rest := rest) ⟨X.1, X.2.1, X.2.2.1, sv_X_own X, X.2.2.2.2.1⟩ hM ⟨sv_N X hm hn hl hdd, sv_X_word X hs, trivial⟩ ⟨sv_blind, sv_pre X hP⟩ rfl hAs hL.1 hst (lv_room hw) hd ⟨(sv_X_R X).2.2.1, (sv_X_R X).2.2.2⟩) kk
end SWC
section SWR
variable {G : sv_G} {K : sv_K} {cc : ByteArray} {own : String} {nL d : Nat} {M M1 : sv_Mem} {pc : Nat} {lo : List (Option Value)} {ret : Option Value}
theorem sv_post {rt : Option FieldType} (Y : sv_Y G K rt ret M1) {H : Heap} {locs : List Loc} (hM : M1 = M) (hP : va_P G.2.2.1 vwCl (sv_cells G M) H) (hS : va_S (kA K) (kH K) H locs) {v : Option Value} (hr : ret = v) : ∀ t : State, t.heap = H → (ks K).WarmedH t.vm → sv_Qc G ret M1 (kargs K) (ks K) (.returned v) t := by
  intro t ht hW
  obtain ⟨-, -, -, hH, hA⟩ := Y
  rw [hH, hA] at hS
  subst hM
  exact ⟨by rw [hr], by rw [ht]; exact hP, va_S.F hS ht⟩
theorem sv_free {rt : Option FieldType} (Y : sv_Y G K rt ret M1) {H : Heap} {locs : List Loc} (hS : va_S (kA K) (kH K) H locs) : ∀ q ∈ locs, G.2.1 ≤ q.base := by
  obtain ⟨-, -, -, hH, hA⟩ := Y
  rw [hA] at hS
  exact hS.2.2
theorem sw_iret (X : sv_X G K cc own nL d) (Y : sv_Y G K (some .int) ret M1) {v : Int32} (hd : decode cc pc = .ok (.ireturn, 1)) (hr : ret = some (.int v)) (hM : M1 = M) : sw_W G K nL pc lo [.int v] M := by
  intro H locs ls hP hS hL
  rw [Y.1]
  exact W.iret X.1 X.2.1 Y.2.1 (sv_post Y hM hP hS hr) (sv_free Y hS) hd Y.2.2.1
theorem sw_zret (X : sv_X G K cc own nL d) {ty : FieldType} (Y : sv_Y G K (some ty) ret M1) {v : Int32} (hd : decode cc pc = .ok (.ireturn, 1)) (hn : narrow ty (.int v) = .int v) (hr : ret = some (.int v)) (hM : M1 = M) : sw_W G K nL pc lo [.int v] M := by
  intro H locs ls hP hS hL
  rw [Y.1]
  exact W.zret X.1 X.2.1 Y.2.1 hn (sv_post Y hM hP hS hr) (sv_free Y hS) hd Y.2.2.1
theorem sw_vret (X : sv_X G K cc own nL d) (Y : sv_Y G K none ret M1) (hd : decode cc pc = .ok (.return_, 1)) (hr : ret = none) (hM : M1 = M) : sw_W G K nL pc lo [] M := by
  intro H locs ls hP hS hL
  rw [Y.1]
  exact W.vret X.1 X.2.1 Y.2.1 (sv_post Y hM hP hS hr) (sv_free Y hS) hd Y.2.2.1
theorem sw_dret (X : sv_X G K cc own nL d) (Y : sv_Y G K (some .double) ret M1) {v : UInt64} (hd : decode cc pc = .ok (.dreturn, 1)) (hr : ret = some (.double v)) (hM : M1 = M) : sw_W G K nL pc lo [.double v] M := by
  intro H locs ls hP hS hL
  rw [Y.1]
  exact W.dret X.1 X.2.1 Y.2.1 (sv_post Y hM hP hS hr) (sv_free Y hS) hd Y.2.2.1
/-- all arguments of one slot -/
def sv_cat1 (vs : List Value) : Bool := vs.all (fun v => match v with
  | .double _ => false
  | .long _ => false
  | _ => true)
theorem sv_sl1 : ∀ {vs : List Value}, sv_cat1 vs = true → lg_sl vs = vs.map Slot.val
  | [], _ => rfl
  | v :: vs, h => by
    have h2 : sv_cat1 vs = true := by
      unfold sv_cat1 at h ⊢
      rw [List.all_cons] at h
      exact (Bool.and_eq_true_iff.mp h).2
    have h1 : ¬ v.category = 2 := by
      intro hc
      unfold sv_cat1 at h
      rw [List.all_cons] at h
      have := (Bool.and_eq_true_iff.mp h).1
      cases v <;> simp [Value.category] at hc this
    have e : lg_sl (v :: vs) = (if v.category = 2 then [.val v, .second] else [.val v]) ++ lg_sl vs := rfl
    rw [e, if_neg h1, sv_sl1 h2]
    rfl
theorem sv_entry {vs : List Value} {nL : Nat} {lo : List (Option Value)} (h1 : sv_cat1 vs = true) (hn : vs.length ≤ nL) (hlo : vs.map some ++ List.replicate (nL - vs.length) none = lo) : sv_L ((lg_sl vs ++ List.replicate (nL - (lg_sl vs).length) Slot.unset).toArray) nL lo := by
  have e := sv_sl1 h1
  have el : (lg_sl vs).length = vs.length := by rw [e, List.length_map]
  obtain ⟨a, b, -⟩ := lv_entry vs (n := nL) (by rw [el]; exact hn)
  refine ⟨a, b, by rw [← hlo]; simp; omega, fun q v hq => ?_⟩
  rw [← hlo] at hq
  rw [List.getElem?_toArray]
  by_cases hl : q < vs.length
  · rw [List.getElem?_append_left (by rw [List.length_map]; exact hl), List.getElem?_map] at hq
    rw [List.getElem?_append_left (by rw [el]; exact hl), e, List.getElem?_map]
    cases hz : vs[q]? with
    | none => rw [hz] at hq; cases hq
    | some w =>
      rw [hz] at hq
      simp only [Option.map_some, Option.some.injEq] at hq
      rw [hq]
      rfl
  · rw [List.getElem?_append_right (by rw [List.length_map]; omega)] at hq
    have := List.mem_of_getElem? hq
    rw [List.mem_replicate] at this
    cases this.2
/-- a method's contract, out of the walk of its body -/
theorem sv_Ct_of {m : sv_M} {d : Nat} {vs : List Value} {lo : List (Option Value)} (hp : plainName m.1.cls = true) (h1 : sv_cat1 vs = true) (hn : vs.length ≤ m.2.2.1) (hlo : vs.map some ++ List.replicate (m.2.2.1 - vs.length) none = lo)
    (body : ∀ K : sv_K, sv_X G K m.2.1 m.1.cls m.2.2.1 d → sv_Y G K m.2.2.2 ret M1 → sw_W G K m.2.2.1 0 lo [] M) : sv_Ct G m d vs M ret M1 := by
  refine Met.ofW (cc := m.2.1) (maxL := m.2.2.1) (ret := m.2.2.2) (ws' := lw_g) hp rfl ?_
  intro p e s mm args below meth c s₁ B hml hv
  obtain ⟨rfl, hP, hK, hN⟩ := hv
  have hts := atoms_spec (ws := sv_ws m) B.pre
  have hown : s.vm.findClass m.1.cls = some mm.cls := findClass_of_methodNamed B.named
  have hb := body (p, e, (headSpec (sv_ws m) (sv_room d)).room, s, mm, vs.toArray, below, meth, c, s.heap, (fun q => G.2.1 ≤ q), 0, 0, MQ below (sv_Qc G ret M1) vs.toArray s 0 0 (fun q => G.2.1 ≤ q))
    ⟨B.exec, B.bytes, hml, hown, fun w hw => hts w (List.mem_cons_of_mem _ hw), hK, fun q h => h, Nat.le_refl _, Nat.le_refl _, Nat.zero_le _, Nat.zero_le _, hN⟩ ⟨rfl, B.returns, B.notSynchronized, rfl, rfl⟩
  rw [lg_entry_eq]
  exact hb s.heap [] _ hP va_S.rf (sv_entry h1 hn hlo)
end SWR
end
section
abbrev M_J6_bitCount_0f7a4 : sv_M := (yJ6_bitCount_0f7a4, cJ6_bitCount_0f7a4, 1, (some .int))
theorem wc_J6_bitCount_0f7a4 : Cond.code yJ6_bitCount_0f7a4 cJ6_bitCount_0f7a4 1 (some .int) ∈ lw_g := lw_g_of (List.mem_append_right _ (List.mem_of_getElem? (i := 178) (by decide +kernel))) (by decide +kernel)
theorem ws_J6_bitCount_0f7a4 : Cond.static yJ6_bitCount_0f7a4 ∈ lw_g := lw_g_of (List.mem_append_right _ (List.mem_of_getElem? (i := 177) (by decide +kernel))) (by decide +kernel)
abbrev M_J9_max_7cf53 : sv_M := (yJ9_max_7cf53, cJ9_max_7cf53, 2, (some .int))
theorem wc_J9_max_7cf53 : Cond.code yJ9_max_7cf53 cJ9_max_7cf53 2 (some .int) ∈ lw_g := lw_g_of (List.mem_append_right _ (List.mem_of_getElem? (i := 140) (by decide +kernel))) (by decide +kernel)
theorem ws_J9_max_7cf53 : Cond.static yJ9_max_7cf53 ∈ lw_g := lw_g_of (List.mem_append_right _ (List.mem_of_getElem? (i := 139) (by decide +kernel))) (by decide +kernel)
abbrev M_J9_min_7cf53 : sv_M := (yJ9_min_7cf53, cJ9_min_7cf53, 2, (some .int))
theorem wc_J9_min_7cf53 : Cond.code yJ9_min_7cf53 cJ9_min_7cf53 2 (some .int) ∈ lw_g := lw_g_of (List.mem_append_right _ (List.mem_of_getElem? (i := 322) (by decide +kernel))) (by decide +kernel)
theorem ws_J9_min_7cf53 : Cond.static yJ9_min_7cf53 ∈ lw_g := lw_g_of (List.mem_append_right _ (List.mem_of_getElem? (i := 321) (by decide +kernel))) (by decide +kernel)
abbrev M_L_act : sv_M := (yL_act, cL_act, 10, (some .boolean))
theorem wc_L_act : Cond.code yL_act cL_act 10 (some .boolean) ∈ lw_g := lw_g_of (List.mem_append_right _ (List.mem_of_getElem? (i := 222) (by decide +kernel))) (by decide +kernel)
theorem ws_L_act : Cond.static yL_act ∈ lw_g := lw_g_of (List.mem_append_right _ (List.mem_of_getElem? (i := 221) (by decide +kernel))) (by decide +kernel)
abbrev M_L_areValues : sv_M := (yL_areValues, cL_areValues, 4, (some .boolean))
theorem wc_L_areValues : Cond.code yL_areValues cL_areValues 4 (some .boolean) ∈ lw_g := lw_g_of (List.mem_append_right _ (List.mem_of_getElem? (i := 381) (by decide +kernel))) (by decide +kernel)
theorem ws_L_areValues : Cond.static yL_areValues ∈ lw_g := lw_g_of (List.mem_append_right _ (List.mem_of_getElem? (i := 380) (by decide +kernel))) (by decide +kernel)
abbrev M_L_cell : sv_M := (yL_cell, cL_cell, 2, (some .int))
theorem wc_L_cell : Cond.code yL_cell cL_cell 2 (some .int) ∈ lw_g := lw_g_of (List.mem_append_right _ (List.mem_of_getElem? (i := 106) (by decide +kernel))) (by decide +kernel)
theorem ws_L_cell : Cond.static yL_cell ∈ lw_g := lw_g_of (List.mem_append_right _ (List.mem_of_getElem? (i := 105) (by decide +kernel))) (by decide +kernel)
abbrev M_L_closes : sv_M := (yL_closes, cL_closes, 10, (some .boolean))
theorem wc_L_closes : Cond.code yL_closes cL_closes 10 (some .boolean) ∈ lw_g := lw_g_of (List.mem_append_right _ (List.mem_of_getElem? (i := 431) (by decide +kernel))) (by decide +kernel)
theorem ws_L_closes : Cond.static yL_closes ∈ lw_g := lw_g_of (List.mem_append_right _ (List.mem_of_getElem? (i := 430) (by decide +kernel))) (by decide +kernel)
abbrev M_L_doneBy : sv_M := (yL_doneBy, cL_doneBy, 5, (some .int))
theorem wc_L_doneBy : Cond.code yL_doneBy cL_doneBy 5 (some .int) ∈ lw_g := lw_g_of (List.mem_append_right _ (List.mem_of_getElem? (i := 248) (by decide +kernel))) (by decide +kernel)
theorem ws_L_doneBy : Cond.static yL_doneBy ∈ lw_g := lw_g_of (List.mem_append_right _ (List.mem_of_getElem? (i := 247) (by decide +kernel))) (by decide +kernel)
abbrev M_L_holds : sv_M := (yL_holds, cL_holds, 7, (some .boolean))
theorem wc_L_holds : Cond.code yL_holds cL_holds 7 (some .boolean) ∈ lw_g := lw_g_of (List.mem_append_right _ (List.mem_of_getElem? (i := 111) (by decide +kernel))) (by decide +kernel)
theorem ws_L_holds : Cond.static yL_holds ∈ lw_g := lw_g_of (List.mem_append_right _ (List.mem_of_getElem? (i := 110) (by decide +kernel))) (by decide +kernel)
abbrev M_L_isSession : sv_M := (yL_isSession, cL_isSession, 11, (some .boolean))
theorem wc_L_isSession : Cond.code yL_isSession cL_isSession 11 (some .boolean) ∈ lw_g := lw_g_of (List.mem_append_right _ (List.mem_of_getElem? (i := 159) (by decide +kernel))) (by decide +kernel)
theorem ws_L_isSession : Cond.static yL_isSession ∈ lw_g := lw_g_of (List.mem_append_right _ (List.mem_of_getElem? (i := 158) (by decide +kernel))) (by decide +kernel)
abbrev M_L_look : sv_M := (yL_look, cL_look, 5, none)
theorem wc_L_look : Cond.code yL_look cL_look 5 none ∈ lw_g := lw_g_of (List.mem_append_right _ (List.mem_of_getElem? (i := 229) (by decide +kernel))) (by decide +kernel)
theorem ws_L_look : Cond.static yL_look ∈ lw_g := lw_g_of (List.mem_append_right _ (List.mem_of_getElem? (i := 228) (by decide +kernel))) (by decide +kernel)
abbrev M_L_low : sv_M := (yL_low, cL_low, 2, (some .int))
theorem wc_L_low : Cond.code yL_low cL_low 2 (some .int) ∈ lw_g := lw_g_of (List.mem_append_right _ (List.mem_of_getElem? (i := 225) (by decide +kernel))) (by decide +kernel)
theorem ws_L_low : Cond.static yL_low ∈ lw_g := lw_g_of (List.mem_append_right _ (List.mem_of_getElem? (i := 224) (by decide +kernel))) (by decide +kernel)
abbrev M_L_otherModes : sv_M := (yL_otherModes, cL_otherModes, 5, (some .int))
theorem wc_L_otherModes : Cond.code yL_otherModes cL_otherModes 5 (some .int) ∈ lw_g := lw_g_of (List.mem_append_right _ (List.mem_of_getElem? (i := 384) (by decide +kernel))) (by decide +kernel)
theorem ws_L_otherModes : Cond.static yL_otherModes ∈ lw_g := lw_g_of (List.mem_append_right _ (List.mem_of_getElem? (i := 383) (by decide +kernel))) (by decide +kernel)
abbrev M_L_states : sv_M := (yL_states, cL_states, 15, (some .boolean))
theorem wc_L_states : Cond.code yL_states cL_states 15 (some .boolean) ∈ lw_g := lw_g_of (List.mem_append_right _ (List.mem_of_getElem? (i := 232) (by decide +kernel))) (by decide +kernel)
theorem ws_L_states : Cond.static yL_states ∈ lw_g := lw_g_of (List.mem_append_right _ (List.mem_of_getElem? (i := 231) (by decide +kernel))) (by decide +kernel)
abbrev M_L_undoes : sv_M := (yL_undoes, cL_undoes, 13, (some .boolean))
theorem wc_L_undoes : Cond.code yL_undoes cL_undoes 13 (some .boolean) ∈ lw_g := lw_g_of (List.mem_append_right _ (List.mem_of_getElem? (i := 396) (by decide +kernel))) (by decide +kernel)
theorem ws_L_undoes : Cond.static yL_undoes ∈ lw_g := lw_g_of (List.mem_append_right _ (List.mem_of_getElem? (i := 395) (by decide +kernel))) (by decide +kernel)
abbrev M_X0_init : sv_M := (yX0_init, cX0_init, 1, none)
theorem wc_X0_init : Cond.code yX0_init cX0_init 1 none ∈ lw_g := lw_g_of (List.mem_append_right _ (List.mem_of_getElem? (i := 74) (by decide +kernel))) (by decide +kernel)
theorem wi_X0_init : Cond.instanceMethod yX0_init ∈ lw_g := lw_g_of (List.mem_append_right _ (List.mem_of_getElem? (i := 73) (by decide +kernel))) (by decide +kernel)
abbrev M_X1_addToValue : sv_M := (yX1_addToValue, cX1_addToValue, 6, (some .int))
theorem wc_X1_addToValue : Cond.code yX1_addToValue cX1_addToValue 6 (some .int) ∈ lw_g := lw_g_of (List.mem_append_right _ (List.mem_of_getElem? (i := 370) (by decide +kernel))) (by decide +kernel)
theorem wi_X1_addToValue : Cond.instanceMethod yX1_addToValue ∈ lw_g := lw_g_of (List.mem_append_right _ (List.mem_of_getElem? (i := 369) (by decide +kernel))) (by decide +kernel)
abbrev M_X1_commitTransaction : sv_M := (yX1_commitTransaction, cX1_commitTransaction, 5, (some .int))
theorem wc_X1_commitTransaction : Cond.code yX1_commitTransaction cX1_commitTransaction 5 (some .int) ∈ lw_g := lw_g_of (List.mem_append_right _ (List.mem_of_getElem? (i := 439) (by decide +kernel))) (by decide +kernel)
theorem wi_X1_commitTransaction : Cond.instanceMethod yX1_commitTransaction ∈ lw_g := lw_g_of (List.mem_append_right _ (List.mem_of_getElem? (i := 438) (by decide +kernel))) (by decide +kernel)
abbrev M_X1_committedValue : sv_M := (yX1_committedValue, cX1_committedValue, 4, (some .int))
theorem wc_X1_committedValue : Cond.code yX1_committedValue cX1_committedValue 4 (some .int) ∈ lw_g := lw_g_of (List.mem_append_right _ (List.mem_of_getElem? (i := 133) (by decide +kernel))) (by decide +kernel)
theorem wi_X1_committedValue : Cond.instanceMethod yX1_committedValue ∈ lw_g := lw_g_of (List.mem_append_right _ (List.mem_of_getElem? (i := 132) (by decide +kernel))) (by decide +kernel)
abbrev M_X1_copyFrom : sv_M := (yX1_copyFrom, cX1_copyFrom, 3, none)
theorem wc_X1_copyFrom : Cond.code yX1_copyFrom cX1_copyFrom 3 none ∈ lw_g := lw_g_of (List.mem_append_right _ (List.mem_of_getElem? (i := 264) (by decide +kernel))) (by decide +kernel)
theorem wi_X1_copyFrom : Cond.instanceMethod yX1_copyFrom ∈ lw_g := lw_g_of (List.mem_append_right _ (List.mem_of_getElem? (i := 263) (by decide +kernel))) (by decide +kernel)
abbrev M_X1_endStatement : sv_M := (yX1_endStatement, cX1_endStatement, 5, (some .int))
theorem wc_X1_endStatement : Cond.code yX1_endStatement cX1_endStatement 5 (some .int) ∈ lw_g := lw_g_of (List.mem_append_right _ (List.mem_of_getElem? (i := 299) (by decide +kernel))) (by decide +kernel)
theorem wi_X1_endStatement : Cond.instanceMethod yX1_endStatement ∈ lw_g := lw_g_of (List.mem_append_right _ (List.mem_of_getElem? (i := 298) (by decide +kernel))) (by decide +kernel)
abbrev M_X1_eraseKey : sv_M := (yX1_eraseKey, cX1_eraseKey, 4, (some .int))
theorem wc_X1_eraseKey : Cond.code yX1_eraseKey cX1_eraseKey 4 (some .int) ∈ lw_g := lw_g_of (List.mem_append_right _ (List.mem_of_getElem? (i := 337) (by decide +kernel))) (by decide +kernel)
theorem wi_X1_eraseKey : Cond.instanceMethod yX1_eraseKey ∈ lw_g := lw_g_of (List.mem_append_right _ (List.mem_of_getElem? (i := 336) (by decide +kernel))) (by decide +kernel)
abbrev M_X1_hasSavepoint : sv_M := (yX1_hasSavepoint, cX1_hasSavepoint, 3, (some .boolean))
theorem wc_X1_hasSavepoint : Cond.code yX1_hasSavepoint cX1_hasSavepoint 3 (some .boolean) ∈ lw_g := lw_g_of (List.mem_append_right _ (List.mem_of_getElem? (i := 194) (by decide +kernel))) (by decide +kernel)
theorem wi_X1_hasSavepoint : Cond.instanceMethod yX1_hasSavepoint ∈ lw_g := lw_g_of (List.mem_append_right _ (List.mem_of_getElem? (i := 193) (by decide +kernel))) (by decide +kernel)
abbrev M_X1_init : sv_M := (yX1_init, cX1_init, 2, none)
theorem wc_X1_init : Cond.code yX1_init cX1_init 2 none ∈ lw_g := lw_g_of (List.mem_append_right _ (List.mem_of_getElem? (i := 20) (by decide +kernel))) (by decide +kernel)
theorem wi_X1_init : Cond.instanceMethod yX1_init ∈ lw_g := lw_g_of (List.mem_append_right _ (List.mem_of_getElem? (i := 19) (by decide +kernel))) (by decide +kernel)
abbrev M_X1_isBusy : sv_M := (yX1_isBusy, cX1_isBusy, 6, (some .boolean))
theorem wc_X1_isBusy : Cond.code yX1_isBusy cX1_isBusy 6 (some .boolean) ∈ lw_g := lw_g_of (List.mem_append_right _ (List.mem_of_getElem? (i := 240) (by decide +kernel))) (by decide +kernel)
theorem wi_X1_isBusy : Cond.instanceMethod yX1_isBusy ∈ lw_g := lw_g_of (List.mem_append_right _ (List.mem_of_getElem? (i := 239) (by decide +kernel))) (by decide +kernel)
abbrev M_X1_moveAmount : sv_M := (yX1_moveAmount, cX1_moveAmount, 8, (some .int))
theorem wc_X1_moveAmount : Cond.code yX1_moveAmount cX1_moveAmount 8 (some .int) ∈ lw_g := lw_g_of (List.mem_append_right _ (List.mem_of_getElem? (i := 378) (by decide +kernel))) (by decide +kernel)
theorem wi_X1_moveAmount : Cond.instanceMethod yX1_moveAmount ∈ lw_g := lw_g_of (List.mem_append_right _ (List.mem_of_getElem? (i := 377) (by decide +kernel))) (by decide +kernel)
abbrev M_X1_openTransaction : sv_M := (yX1_openTransaction, cX1_openTransaction, 4, (some .int))
theorem wc_X1_openTransaction : Cond.code yX1_openTransaction cX1_openTransaction 4 (some .int) ∈ lw_g := lw_g_of (List.mem_append_right _ (List.mem_of_getElem? (i := 459) (by decide +kernel))) (by decide +kernel)
theorem wi_X1_openTransaction : Cond.instanceMethod yX1_openTransaction ∈ lw_g := lw_g_of (List.mem_append_right _ (List.mem_of_getElem? (i := 458) (by decide +kernel))) (by decide +kernel)
abbrev M_X1_readKey : sv_M := (yX1_readKey, cX1_readKey, 5, (some .int))
theorem wc_X1_readKey : Cond.code yX1_readKey cX1_readKey 5 (some .int) ∈ lw_g := lw_g_of (List.mem_append_right _ (List.mem_of_getElem? (i := 276) (by decide +kernel))) (by decide +kernel)
theorem wi_X1_readKey : Cond.instanceMethod yX1_readKey ∈ lw_g := lw_g_of (List.mem_append_right _ (List.mem_of_getElem? (i := 275) (by decide +kernel))) (by decide +kernel)
abbrev M_X1_releaseName : sv_M := (yX1_releaseName, cX1_releaseName, 6, (some .int))
theorem wc_X1_releaseName : Cond.code yX1_releaseName cX1_releaseName 6 (some .int) ∈ lw_g := lw_g_of (List.mem_append_right _ (List.mem_of_getElem? (i := 418) (by decide +kernel))) (by decide +kernel)
theorem wi_X1_releaseName : Cond.instanceMethod yX1_releaseName ∈ lw_g := lw_g_of (List.mem_append_right _ (List.mem_of_getElem? (i := 417) (by decide +kernel))) (by decide +kernel)
abbrev M_X1_replaceValue : sv_M := (yX1_replaceValue, cX1_replaceValue, 5, (some .int))
theorem wc_X1_replaceValue : Cond.code yX1_replaceValue cX1_replaceValue 5 (some .int) ∈ lw_g := lw_g_of (List.mem_append_right _ (List.mem_of_getElem? (i := 341) (by decide +kernel))) (by decide +kernel)
theorem wi_X1_replaceValue : Cond.instanceMethod yX1_replaceValue ∈ lw_g := lw_g_of (List.mem_append_right _ (List.mem_of_getElem? (i := 340) (by decide +kernel))) (by decide +kernel)
abbrev M_X1_rollTransactionBack : sv_M := (yX1_rollTransactionBack, cX1_rollTransactionBack, 4, (some .int))
theorem wc_X1_rollTransactionBack : Cond.code yX1_rollTransactionBack cX1_rollTransactionBack 4 (some .int) ∈ lw_g := lw_g_of (List.mem_append_right _ (List.mem_of_getElem? (i := 451) (by decide +kernel))) (by decide +kernel)
theorem wi_X1_rollTransactionBack : Cond.instanceMethod yX1_rollTransactionBack ∈ lw_g := lw_g_of (List.mem_append_right _ (List.mem_of_getElem? (i := 450) (by decide +kernel))) (by decide +kernel)
abbrev M_X1_savepointOrError : sv_M := (yX1_savepointOrError, cX1_savepointOrError, 5, (some .int))
theorem wc_X1_savepointOrError : Cond.code yX1_savepointOrError cX1_savepointOrError 5 (some .int) ∈ lw_g := lw_g_of (List.mem_append_right _ (List.mem_of_getElem? (i := 408) (by decide +kernel))) (by decide +kernel)
theorem wi_X1_savepointOrError : Cond.instanceMethod yX1_savepointOrError ∈ lw_g := lw_g_of (List.mem_append_right _ (List.mem_of_getElem? (i := 407) (by decide +kernel))) (by decide +kernel)
abbrev M_X1_setSavepoint : sv_M := (yX1_setSavepoint, cX1_setSavepoint, 6, (some .int))
theorem wc_X1_setSavepoint : Cond.code yX1_setSavepoint cX1_setSavepoint 6 (some .int) ∈ lw_g := lw_g_of (List.mem_append_right _ (List.mem_of_getElem? (i := 392) (by decide +kernel))) (by decide +kernel)
theorem wi_X1_setSavepoint : Cond.instanceMethod yX1_setSavepoint ∈ lw_g := lw_g_of (List.mem_append_right _ (List.mem_of_getElem? (i := 391) (by decide +kernel))) (by decide +kernel)
abbrev M_X1_shiftKeys : sv_M := (yX1_shiftKeys, cX1_shiftKeys, 9, (some .int))
theorem wc_X1_shiftKeys : Cond.code yX1_shiftKeys cX1_shiftKeys 9 (some .int) ∈ lw_g := lw_g_of (List.mem_append_right _ (List.mem_of_getElem? (i := 364) (by decide +kernel))) (by decide +kernel)
theorem wi_X1_shiftKeys : Cond.instanceMethod yX1_shiftKeys ∈ lw_g := lw_g_of (List.mem_append_right _ (List.mem_of_getElem? (i := 363) (by decide +kernel))) (by decide +kernel)
abbrev M_X1_takeLock : sv_M := (yX1_takeLock, cX1_takeLock, 4, (some .boolean))
theorem wc_X1_takeLock : Cond.code yX1_takeLock cX1_takeLock 4 (some .boolean) ∈ lw_g := lw_g_of (List.mem_append_right _ (List.mem_of_getElem? (i := 290) (by decide +kernel))) (by decide +kernel)
theorem wi_X1_takeLock : Cond.instanceMethod yX1_takeLock ∈ lw_g := lw_g_of (List.mem_append_right _ (List.mem_of_getElem? (i := 289) (by decide +kernel))) (by decide +kernel)
abbrev M_X1_undoToMoment : sv_M := (yX1_undoToMoment, cX1_undoToMoment, 6, (some .int))
theorem wc_X1_undoToMoment : Cond.code yX1_undoToMoment cX1_undoToMoment 6 (some .int) ∈ lw_g := lw_g_of (List.mem_append_right _ (List.mem_of_getElem? (i := 303) (by decide +kernel))) (by decide +kernel)
theorem wi_X1_undoToMoment : Cond.instanceMethod yX1_undoToMoment ∈ lw_g := lw_g_of (List.mem_append_right _ (List.mem_of_getElem? (i := 302) (by decide +kernel))) (by decide +kernel)
abbrev M_X1_undoToName : sv_M := (yX1_undoToName, cX1_undoToName, 6, (some .int))
theorem wc_X1_undoToName : Cond.code yX1_undoToName cX1_undoToName 6 (some .int) ∈ lw_g := lw_g_of (List.mem_append_right _ (List.mem_of_getElem? (i := 404) (by decide +kernel))) (by decide +kernel)
theorem wi_X1_undoToName : Cond.instanceMethod yX1_undoToName ∈ lw_g := lw_g_of (List.mem_append_right _ (List.mem_of_getElem? (i := 403) (by decide +kernel))) (by decide +kernel)
abbrev M_X1_valueCount : sv_M := (yX1_valueCount, cX1_valueCount, 3, (some .int))
theorem wc_X1_valueCount : Cond.code yX1_valueCount cX1_valueCount 3 (some .int) ∈ lw_g := lw_g_of (List.mem_append_right _ (List.mem_of_getElem? (i := 152) (by decide +kernel))) (by decide +kernel)
theorem wi_X1_valueCount : Cond.instanceMethod yX1_valueCount ∈ lw_g := lw_g_of (List.mem_append_right _ (List.mem_of_getElem? (i := 151) (by decide +kernel))) (by decide +kernel)
abbrev M_X1_valueSum : sv_M := (yX1_valueSum, cX1_valueSum, 3, (some .int))
theorem wc_X1_valueSum : Cond.code yX1_valueSum cX1_valueSum 3 (some .int) ∈ lw_g := lw_g_of (List.mem_append_right _ (List.mem_of_getElem? (i := 156) (by decide +kernel))) (by decide +kernel)
theorem wi_X1_valueSum : Cond.instanceMethod yX1_valueSum ∈ lw_g := lw_g_of (List.mem_append_right _ (List.mem_of_getElem? (i := 155) (by decide +kernel))) (by decide +kernel)
abbrev M_X1_whyImpossible : sv_M := (yX1_whyImpossible, cX1_whyImpossible, 4, (some .int))
theorem wc_X1_whyImpossible : Cond.code yX1_whyImpossible cX1_whyImpossible 4 (some .int) ∈ lw_g := lw_g_of (List.mem_append_right _ (List.mem_of_getElem? (i := 281) (by decide +kernel))) (by decide +kernel)
theorem wi_X1_whyImpossible : Cond.instanceMethod yX1_whyImpossible ∈ lw_g := lw_g_of (List.mem_append_right _ (List.mem_of_getElem? (i := 280) (by decide +kernel))) (by decide +kernel)
abbrev M_X1_writeKey : sv_M := (yX1_writeKey, cX1_writeKey, 5, (some .int))
theorem wc_X1_writeKey : Cond.code yX1_writeKey cX1_writeKey 5 (some .int) ∈ lw_g := lw_g_of (List.mem_append_right _ (List.mem_of_getElem? (i := 353) (by decide +kernel))) (by decide +kernel)
theorem wi_X1_writeKey : Cond.instanceMethod yX1_writeKey ∈ lw_g := lw_g_of (List.mem_append_right _ (List.mem_of_getElem? (i := 352) (by decide +kernel))) (by decide +kernel)
abbrev M_X2_addMoment : sv_M := (yX2_addMoment, cX2_addMoment, 1, none)
theorem wc_X2_addMoment : Cond.code yX2_addMoment cX2_addMoment 1 none ∈ lw_g := lw_g_of (List.mem_append_right _ (List.mem_of_getElem? (i := 286) (by decide +kernel))) (by decide +kernel)
theorem wi_X2_addMoment : Cond.instanceMethod yX2_addMoment ∈ lw_g := lw_g_of (List.mem_append_right _ (List.mem_of_getElem? (i := 285) (by decide +kernel))) (by decide +kernel)
abbrev M_X2_close : sv_M := (yX2_close, cX2_close, 1, none)
theorem wc_X2_close : Cond.code yX2_close cX2_close 1 none ∈ lw_g := lw_g_of (List.mem_append_right _ (List.mem_of_getElem? (i := 443) (by decide +kernel))) (by decide +kernel)
theorem wi_X2_close : Cond.instanceMethod yX2_close ∈ lw_g := lw_g_of (List.mem_append_right _ (List.mem_of_getElem? (i := 442) (by decide +kernel))) (by decide +kernel)
abbrev M_X2_copyFrom : sv_M := (yX2_copyFrom, cX2_copyFrom, 3, none)
theorem wc_X2_copyFrom : Cond.code yX2_copyFrom cX2_copyFrom 3 none ∈ lw_g := lw_g_of (List.mem_append_right _ (List.mem_of_getElem? (i := 271) (by decide +kernel))) (by decide +kernel)
theorem wi_X2_copyFrom : Cond.instanceMethod yX2_copyFrom ∈ lw_g := lw_g_of (List.mem_append_right _ (List.mem_of_getElem? (i := 270) (by decide +kernel))) (by decide +kernel)
abbrev M_X2_dropMomentsAfter : sv_M := (yX2_dropMomentsAfter, cX2_dropMomentsAfter, 4, none)
theorem wc_X2_dropMomentsAfter : Cond.code yX2_dropMomentsAfter cX2_dropMomentsAfter 4 none ∈ lw_g := lw_g_of (List.mem_append_right _ (List.mem_of_getElem? (i := 315) (by decide +kernel))) (by decide +kernel)
theorem wi_X2_dropMomentsAfter : Cond.instanceMethod yX2_dropMomentsAfter ∈ lw_g := lw_g_of (List.mem_append_right _ (List.mem_of_getElem? (i := 314) (by decide +kernel))) (by decide +kernel)
abbrev M_X2_forgetChangesSince : sv_M := (yX2_forgetChangesSince, cX2_forgetChangesSince, 3, none)
theorem wc_X2_forgetChangesSince : Cond.code yX2_forgetChangesSince cX2_forgetChangesSince 3 none ∈ lw_g := lw_g_of (List.mem_append_right _ (List.mem_of_getElem? (i := 307) (by decide +kernel))) (by decide +kernel)
theorem wi_X2_forgetChangesSince : Cond.instanceMethod yX2_forgetChangesSince ∈ lw_g := lw_g_of (List.mem_append_right _ (List.mem_of_getElem? (i := 306) (by decide +kernel))) (by decide +kernel)
abbrev M_X2_init : sv_M := (yX2_init, cX2_init, 1, none)
theorem wc_X2_init : Cond.code yX2_init cX2_init 1 none ∈ lw_g := lw_g_of (List.mem_append_right _ (List.mem_of_getElem? (i := 27) (by decide +kernel))) (by decide +kernel)
theorem wi_X2_init : Cond.instanceMethod yX2_init ∈ lw_g := lw_g_of (List.mem_append_right _ (List.mem_of_getElem? (i := 26) (by decide +kernel))) (by decide +kernel)
abbrev M_X2_isOpen : sv_M := (yX2_isOpen, cX2_isOpen, 1, (some .boolean))
theorem wc_X2_isOpen : Cond.code yX2_isOpen cX2_isOpen 1 (some .boolean) ∈ lw_g := lw_g_of (List.mem_append_right _ (List.mem_of_getElem? (i := 167) (by decide +kernel))) (by decide +kernel)
theorem wi_X2_isOpen : Cond.instanceMethod yX2_isOpen ∈ lw_g := lw_g_of (List.mem_append_right _ (List.mem_of_getElem? (i := 166) (by decide +kernel))) (by decide +kernel)
abbrev M_X2_keysChangedSince : sv_M := (yX2_keysChangedSince, cX2_keysChangedSince, 4, (some .int))
theorem wc_X2_keysChangedSince : Cond.code yX2_keysChangedSince cX2_keysChangedSince 4 (some .int) ∈ lw_g := lw_g_of (List.mem_append_right _ (List.mem_of_getElem? (i := 175) (by decide +kernel))) (by decide +kernel)
theorem wi_X2_keysChangedSince : Cond.instanceMethod yX2_keysChangedSince ∈ lw_g := lw_g_of (List.mem_append_right _ (List.mem_of_getElem? (i := 174) (by decide +kernel))) (by decide +kernel)
abbrev M_X2_lockCount : sv_M := (yX2_lockCount, cX2_lockCount, 4, (some .int))
theorem wc_X2_lockCount : Cond.code yX2_lockCount cX2_lockCount 4 (some .int) ∈ lw_g := lw_g_of (List.mem_append_right _ (List.mem_of_getElem? (i := 185) (by decide +kernel))) (by decide +kernel)
theorem wi_X2_lockCount : Cond.instanceMethod yX2_lockCount ∈ lw_g := lw_g_of (List.mem_append_right _ (List.mem_of_getElem? (i := 184) (by decide +kernel))) (by decide +kernel)
abbrev M_X2_lockMode : sv_M := (yX2_lockMode, cX2_lockMode, 2, (some .int))
theorem wc_X2_lockMode : Cond.code yX2_lockMode cX2_lockMode 2 (some .int) ∈ lw_g := lw_g_of (List.mem_append_right _ (List.mem_of_getElem? (i := 125) (by decide +kernel))) (by decide +kernel)
theorem wi_X2_lockMode : Cond.instanceMethod yX2_lockMode ∈ lw_g := lw_g_of (List.mem_append_right _ (List.mem_of_getElem? (i := 124) (by decide +kernel))) (by decide +kernel)
abbrev M_X2_locksChangedSince : sv_M := (yX2_locksChangedSince, cX2_locksChangedSince, 5, (some .int))
theorem wc_X2_locksChangedSince : Cond.code yX2_locksChangedSince cX2_locksChangedSince 5 (some .int) ∈ lw_g := lw_g_of (List.mem_append_right _ (List.mem_of_getElem? (i := 203) (by decide +kernel))) (by decide +kernel)
theorem wi_X2_locksChangedSince : Cond.instanceMethod yX2_locksChangedSince ∈ lw_g := lw_g_of (List.mem_append_right _ (List.mem_of_getElem? (i := 202) (by decide +kernel))) (by decide +kernel)
abbrev M_X2_nearestSavepoint : sv_M := (yX2_nearestSavepoint, cX2_nearestSavepoint, 3, (some .int))
theorem wc_X2_nearestSavepoint : Cond.code yX2_nearestSavepoint cX2_nearestSavepoint 3 (some .int) ∈ lw_g := lw_g_of (List.mem_append_right _ (List.mem_of_getElem? (i := 218) (by decide +kernel))) (by decide +kernel)
theorem wi_X2_nearestSavepoint : Cond.instanceMethod yX2_nearestSavepoint ∈ lw_g := lw_g_of (List.mem_append_right _ (List.mem_of_getElem? (i := 217) (by decide +kernel))) (by decide +kernel)
abbrev M_X2_noteChange : sv_M := (yX2_noteChange, cX2_noteChange, 4, none)
theorem wc_X2_noteChange : Cond.code yX2_noteChange cX2_noteChange 4 none ∈ lw_g := lw_g_of (List.mem_append_right _ (List.mem_of_getElem? (i := 345) (by decide +kernel))) (by decide +kernel)
theorem wi_X2_noteChange : Cond.instanceMethod yX2_noteChange ∈ lw_g := lw_g_of (List.mem_append_right _ (List.mem_of_getElem? (i := 344) (by decide +kernel))) (by decide +kernel)
abbrev M_X2_noteChangeAt : sv_M := (yX2_noteChangeAt, cX2_noteChangeAt, 5, none)
theorem wc_X2_noteChangeAt : Cond.code yX2_noteChangeAt cX2_noteChangeAt 5 none ∈ lw_g := lw_g_of (List.mem_append_right _ (List.mem_of_getElem? (i := 319) (by decide +kernel))) (by decide +kernel)
theorem wi_X2_noteChangeAt : Cond.instanceMethod yX2_noteChangeAt ∈ lw_g := lw_g_of (List.mem_append_right _ (List.mem_of_getElem? (i := 318) (by decide +kernel))) (by decide +kernel)
abbrev M_X2_savepointCount : sv_M := (yX2_savepointCount, cX2_savepointCount, 1, (some .int))
theorem wc_X2_savepointCount : Cond.code yX2_savepointCount cX2_savepointCount 1 (some .int) ∈ lw_g := lw_g_of (List.mem_append_right _ (List.mem_of_getElem? (i := 171) (by decide +kernel))) (by decide +kernel)
theorem wi_X2_savepointCount : Cond.instanceMethod yX2_savepointCount ∈ lw_g := lw_g_of (List.mem_append_right _ (List.mem_of_getElem? (i := 170) (by decide +kernel))) (by decide +kernel)
abbrev M_X2_setLockMode : sv_M := (yX2_setLockMode, cX2_setLockMode, 4, none)
theorem wc_X2_setLockMode : Cond.code yX2_setLockMode cX2_setLockMode 4 none ∈ lw_g := lw_g_of (List.mem_append_right _ (List.mem_of_getElem? (i := 295) (by decide +kernel))) (by decide +kernel)
theorem wi_X2_setLockMode : Cond.instanceMethod yX2_setLockMode ∈ lw_g := lw_g_of (List.mem_append_right _ (List.mem_of_getElem? (i := 294) (by decide +kernel))) (by decide +kernel)
abbrev M_X2_undoLocks : sv_M := (yX2_undoLocks, cX2_undoLocks, 2, none)
theorem wc_X2_undoLocks : Cond.code yX2_undoLocks cX2_undoLocks 2 none ∈ lw_g := lw_g_of (List.mem_append_right _ (List.mem_of_getElem? (i := 311) (by decide +kernel))) (by decide +kernel)
theorem wi_X2_undoLocks : Cond.instanceMethod yX2_undoLocks ∈ lw_g := lw_g_of (List.mem_append_right _ (List.mem_of_getElem? (i := 310) (by decide +kernel))) (by decide +kernel)
abbrev M_X2_valueAt : sv_M := (yX2_valueAt, cX2_valueAt, 5, (some .int))
theorem wc_X2_valueAt : Cond.code yX2_valueAt cX2_valueAt 5 (some .int) ∈ lw_g := lw_g_of (List.mem_append_right _ (List.mem_of_getElem? (i := 137) (by decide +kernel))) (by decide +kernel)
theorem wi_X2_valueAt : Cond.instanceMethod yX2_valueAt ∈ lw_g := lw_g_of (List.mem_append_right _ (List.mem_of_getElem? (i := 136) (by decide +kernel))) (by decide +kernel)
abbrev M_X3_begin : sv_M := (yX3_begin, cX3_begin, 2, (some .int))
theorem wc_X3_begin : Cond.code yX3_begin cX3_begin 2 (some .int) ∈ lw_g := lw_g_of (List.mem_append_right _ (List.mem_of_getElem? (i := 455) (by decide +kernel))) (by decide +kernel)
theorem wi_X3_begin : Cond.instanceMethod yX3_begin ∈ lw_g := lw_g_of (List.mem_append_right _ (List.mem_of_getElem? (i := 453) (by decide +kernel))) (by decide +kernel)
abbrev M_X3_busyFor : sv_M := (yX3_busyFor, cX3_busyFor, 5, (some .int))
theorem wc_X3_busyFor : Cond.code yX3_busyFor cX3_busyFor 5 (some .int) ∈ lw_g := lw_g_of (List.mem_append_right _ (List.mem_of_getElem? (i := 236) (by decide +kernel))) (by decide +kernel)
theorem wi_X3_busyFor : Cond.instanceMethod yX3_busyFor ∈ lw_g := lw_g_of (List.mem_append_right _ (List.mem_of_getElem? (i := 234) (by decide +kernel))) (by decide +kernel)
abbrev M_X3_changedSince : sv_M := (yX3_changedSince, cX3_changedSince, 6, (some .int))
theorem wc_X3_changedSince : Cond.code yX3_changedSince cX3_changedSince 6 (some .int) ∈ lw_g := lw_g_of (List.mem_append_right _ (List.mem_of_getElem? (i := 190) (by decide +kernel))) (by decide +kernel)
theorem wi_X3_changedSince : Cond.instanceMethod yX3_changedSince ∈ lw_g := lw_g_of (List.mem_append_right _ (List.mem_of_getElem? (i := 188) (by decide +kernel))) (by decide +kernel)
abbrev M_X3_commit : sv_M := (yX3_commit, cX3_commit, 2, (some .int))
theorem wc_X3_commit : Cond.code yX3_commit cX3_commit 2 (some .int) ∈ lw_g := lw_g_of (List.mem_append_right _ (List.mem_of_getElem? (i := 435) (by decide +kernel))) (by decide +kernel)
theorem wi_X3_commit : Cond.instanceMethod yX3_commit ∈ lw_g := lw_g_of (List.mem_append_right _ (List.mem_of_getElem? (i := 433) (by decide +kernel))) (by decide +kernel)
abbrev M_X3_committed : sv_M := (yX3_committed, cX3_committed, 2, (some .int))
theorem wc_X3_committed : Cond.code yX3_committed cX3_committed 2 (some .int) ∈ lw_g := lw_g_of (List.mem_append_right _ (List.mem_of_getElem? (i := 129) (by decide +kernel))) (by decide +kernel)
theorem wi_X3_committed : Cond.instanceMethod yX3_committed ∈ lw_g := lw_g_of (List.mem_append_right _ (List.mem_of_getElem? (i := 127) (by decide +kernel))) (by decide +kernel)
abbrev M_X3_erase : sv_M := (yX3_erase, cX3_erase, 3, (some .int))
theorem wc_X3_erase : Cond.code yX3_erase cX3_erase 3 (some .int) ∈ lw_g := lw_g_of (List.mem_append_right _ (List.mem_of_getElem? (i := 333) (by decide +kernel))) (by decide +kernel)
theorem wi_X3_erase : Cond.instanceMethod yX3_erase ∈ lw_g := lw_g_of (List.mem_append_right _ (List.mem_of_getElem? (i := 331) (by decide +kernel))) (by decide +kernel)
abbrev M_X3_ifUndone : sv_M := (yX3_ifUndone, cX3_ifUndone, 5, (some .int))
theorem wc_X3_ifUndone : Cond.code yX3_ifUndone cX3_ifUndone 5 (some .int) ∈ lw_g := lw_g_of (List.mem_append_right _ (List.mem_of_getElem? (i := 422) (by decide +kernel))) (by decide +kernel)
theorem wi_X3_ifUndone : Cond.instanceMethod yX3_ifUndone ∈ lw_g := lw_g_of (List.mem_append_right _ (List.mem_of_getElem? (i := 420) (by decide +kernel))) (by decide +kernel)
abbrev M_X3_init : sv_M := (yX3_init, cX3_init, 2, none)
theorem wc_X3_init : Cond.code yX3_init cX3_init 2 none ∈ lw_g := lw_g_of (List.mem_append_right _ (List.mem_of_getElem? (i := 12) (by decide +kernel))) (by decide +kernel)
theorem wi_X3_init : Cond.instanceMethod yX3_init ∈ lw_g := lw_g_of (List.mem_append_right _ (List.mem_of_getElem? (i := 11) (by decide +kernel))) (by decide +kernel)
abbrev M_X3_isError : sv_M := (yX3_isError, cX3_isError, 1, (some .boolean))
theorem wc_X3_isError : Cond.code yX3_isError cX3_isError 1 (some .boolean) ∈ lw_g := lw_g_of (List.mem_append_right _ (List.mem_of_getElem? (i := 329) (by decide +kernel))) (by decide +kernel)
theorem ws_X3_isError : Cond.static yX3_isError ∈ lw_g := lw_g_of (List.mem_append_right _ (List.mem_of_getElem? (i := 328) (by decide +kernel))) (by decide +kernel)
abbrev M_X3_isKey : sv_M := (yX3_isKey, cX3_isKey, 1, (some .boolean))
theorem wc_X3_isKey : Cond.code yX3_isKey cX3_isKey 1 (some .boolean) ∈ lw_g := lw_g_of (List.mem_append_right _ (List.mem_of_getElem? (i := 121) (by decide +kernel))) (by decide +kernel)
theorem ws_X3_isKey : Cond.static yX3_isKey ∈ lw_g := lw_g_of (List.mem_append_right _ (List.mem_of_getElem? (i := 120) (by decide +kernel))) (by decide +kernel)
abbrev M_X3_isName : sv_M := (yX3_isName, cX3_isName, 1, (some .boolean))
theorem wc_X3_isName : Cond.code yX3_isName cX3_isName 1 (some .boolean) ∈ lw_g := lw_g_of (List.mem_append_right _ (List.mem_of_getElem? (i := 214) (by decide +kernel))) (by decide +kernel)
theorem ws_X3_isName : Cond.static yX3_isName ∈ lw_g := lw_g_of (List.mem_append_right _ (List.mem_of_getElem? (i := 213) (by decide +kernel))) (by decide +kernel)
abbrev M_X3_isSession : sv_M := (yX3_isSession, cX3_isSession, 1, (some .boolean))
theorem wc_X3_isSession : Cond.code yX3_isSession cX3_isSession 1 (some .boolean) ∈ lw_g := lw_g_of (List.mem_append_right _ (List.mem_of_getElem? (i := 118) (by decide +kernel))) (by decide +kernel)
theorem ws_X3_isSession : Cond.static yX3_isSession ∈ lw_g := lw_g_of (List.mem_append_right _ (List.mem_of_getElem? (i := 117) (by decide +kernel))) (by decide +kernel)
abbrev M_X3_isValue : sv_M := (yX3_isValue, cX3_isValue, 1, (some .boolean))
theorem wc_X3_isValue : Cond.code yX3_isValue cX3_isValue 1 (some .boolean) ∈ lw_g := lw_g_of (List.mem_append_right _ (List.mem_of_getElem? (i := 356) (by decide +kernel))) (by decide +kernel)
theorem ws_X3_isValue : Cond.static yX3_isValue ∈ lw_g := lw_g_of (List.mem_append_right _ (List.mem_of_getElem? (i := 355) (by decide +kernel))) (by decide +kernel)
abbrev M_X3_keep : sv_M := (yX3_keep, cX3_keep, 3, (some .int))
theorem wc_X3_keep : Cond.code yX3_keep cX3_keep 3 (some .int) ∈ lw_g := lw_g_of (List.mem_append_right _ (List.mem_of_getElem? (i := 428) (by decide +kernel))) (by decide +kernel)
theorem wi_X3_keep : Cond.instanceMethod yX3_keep ∈ lw_g := lw_g_of (List.mem_append_right _ (List.mem_of_getElem? (i := 426) (by decide +kernel))) (by decide +kernel)
abbrev M_X3_mean : sv_M := (yX3_mean, cX3_mean, 2, (some .double))
theorem wc_X3_mean : Cond.code yX3_mean cX3_mean 2 (some .double) ∈ lw_g := lw_g_of (List.mem_append_right _ (List.mem_of_getElem? (i := 148) (by decide +kernel))) (by decide +kernel)
theorem wi_X3_mean : Cond.instanceMethod yX3_mean ∈ lw_g := lw_g_of (List.mem_append_right _ (List.mem_of_getElem? (i := 146) (by decide +kernel))) (by decide +kernel)
abbrev M_X3_mode : sv_M := (yX3_mode, cX3_mode, 3, (some .int))
theorem wc_X3_mode : Cond.code yX3_mode cX3_mode 3 (some .int) ∈ lw_g := lw_g_of (List.mem_append_right _ (List.mem_of_getElem? (i := 115) (by decide +kernel))) (by decide +kernel)
theorem wi_X3_mode : Cond.instanceMethod yX3_mode ∈ lw_g := lw_g_of (List.mem_append_right _ (List.mem_of_getElem? (i := 113) (by decide +kernel))) (by decide +kernel)
abbrev M_X3_momentOf : sv_M := (yX3_momentOf, cX3_momentOf, 1, (some .int))
theorem wc_X3_momentOf : Cond.code yX3_momentOf cX3_momentOf 1 (some .int) ∈ lw_g := lw_g_of (List.mem_append_right _ (List.mem_of_getElem? (i := 199) (by decide +kernel))) (by decide +kernel)
theorem ws_X3_momentOf : Cond.static yX3_momentOf ∈ lw_g := lw_g_of (List.mem_append_right _ (List.mem_of_getElem? (i := 198) (by decide +kernel))) (by decide +kernel)
abbrev M_X3_move : sv_M := (yX3_move, cX3_move, 5, (some .int))
theorem wc_X3_move : Cond.code yX3_move cX3_move 5 (some .int) ∈ lw_g := lw_g_of (List.mem_append_right _ (List.mem_of_getElem? (i := 374) (by decide +kernel))) (by decide +kernel)
theorem wi_X3_move : Cond.instanceMethod yX3_move ∈ lw_g := lw_g_of (List.mem_append_right _ (List.mem_of_getElem? (i := 372) (by decide +kernel))) (by decide +kernel)
abbrev M_X3_nameOf : sv_M := (yX3_nameOf, cX3_nameOf, 3, (some .int))
theorem wc_X3_nameOf : Cond.code yX3_nameOf cX3_nameOf 3 (some .int) ∈ lw_g := lw_g_of (List.mem_append_right _ (List.mem_of_getElem? (i := 207) (by decide +kernel))) (by decide +kernel)
theorem wi_X3_nameOf : Cond.instanceMethod yX3_nameOf ∈ lw_g := lw_g_of (List.mem_append_right _ (List.mem_of_getElem? (i := 205) (by decide +kernel))) (by decide +kernel)
abbrev M_X3_nearest : sv_M := (yX3_nearest, cX3_nearest, 3, (some .int))
theorem wc_X3_nearest : Cond.code yX3_nearest cX3_nearest 3 (some .int) ∈ lw_g := lw_g_of (List.mem_append_right _ (List.mem_of_getElem? (i := 211) (by decide +kernel))) (by decide +kernel)
theorem wi_X3_nearest : Cond.instanceMethod yX3_nearest ∈ lw_g := lw_g_of (List.mem_append_right _ (List.mem_of_getElem? (i := 209) (by decide +kernel))) (by decide +kernel)
abbrev M_X3_read : sv_M := (yX3_read, cX3_read, 3, (some .int))
theorem wc_X3_read : Cond.code yX3_read cX3_read 3 (some .int) ∈ lw_g := lw_g_of (List.mem_append_right _ (List.mem_of_getElem? (i := 252) (by decide +kernel))) (by decide +kernel)
theorem wi_X3_read : Cond.instanceMethod yX3_read ∈ lw_g := lw_g_of (List.mem_append_right _ (List.mem_of_getElem? (i := 250) (by decide +kernel))) (by decide +kernel)
abbrev M_X3_recordUnlessError : sv_M := (yX3_recordUnlessError, cX3_recordUnlessError, 2, (some .int))
theorem wc_X3_recordUnlessError : Cond.code yX3_recordUnlessError cX3_recordUnlessError 2 (some .int) ∈ lw_g := lw_g_of (List.mem_append_right _ (List.mem_of_getElem? (i := 326) (by decide +kernel))) (by decide +kernel)
theorem wi_X3_recordUnlessError : Cond.instanceMethod yX3_recordUnlessError ∈ lw_g := lw_g_of (List.mem_append_right _ (List.mem_of_getElem? (i := 325) (by decide +kernel))) (by decide +kernel)
abbrev M_X3_release : sv_M := (yX3_release, cX3_release, 3, (some .int))
theorem wc_X3_release : Cond.code yX3_release cX3_release 3 (some .int) ∈ lw_g := lw_g_of (List.mem_append_right _ (List.mem_of_getElem? (i := 414) (by decide +kernel))) (by decide +kernel)
theorem wi_X3_release : Cond.instanceMethod yX3_release ∈ lw_g := lw_g_of (List.mem_append_right _ (List.mem_of_getElem? (i := 412) (by decide +kernel))) (by decide +kernel)
abbrev M_X3_rememberState : sv_M := (yX3_rememberState, cX3_rememberState, 1, none)
theorem wc_X3_rememberState : Cond.code yX3_rememberState cX3_rememberState 1 none ∈ lw_g := lw_g_of (List.mem_append_right _ (List.mem_of_getElem? (i := 256) (by decide +kernel))) (by decide +kernel)
theorem wi_X3_rememberState : Cond.instanceMethod yX3_rememberState ∈ lw_g := lw_g_of (List.mem_append_right _ (List.mem_of_getElem? (i := 255) (by decide +kernel))) (by decide +kernel)
abbrev M_X3_rollback : sv_M := (yX3_rollback, cX3_rollback, 2, (some .int))
theorem wc_X3_rollback : Cond.code yX3_rollback cX3_rollback 2 (some .int) ∈ lw_g := lw_g_of (List.mem_append_right _ (List.mem_of_getElem? (i := 447) (by decide +kernel))) (by decide +kernel)
theorem wi_X3_rollback : Cond.instanceMethod yX3_rollback ∈ lw_g := lw_g_of (List.mem_append_right _ (List.mem_of_getElem? (i := 445) (by decide +kernel))) (by decide +kernel)
abbrev M_X3_savepoint : sv_M := (yX3_savepoint, cX3_savepoint, 3, (some .int))
theorem wc_X3_savepoint : Cond.code yX3_savepoint cX3_savepoint 3 (some .int) ∈ lw_g := lw_g_of (List.mem_append_right _ (List.mem_of_getElem? (i := 388) (by decide +kernel))) (by decide +kernel)
theorem wi_X3_savepoint : Cond.instanceMethod yX3_savepoint ∈ lw_g := lw_g_of (List.mem_append_right _ (List.mem_of_getElem? (i := 386) (by decide +kernel))) (by decide +kernel)
abbrev M_X3_session : sv_M := (yX3_session, cX3_session, 4, (some .int))
theorem wc_X3_session : Cond.code yX3_session cX3_session 4 (some .int) ∈ lw_g := lw_g_of (List.mem_append_right _ (List.mem_of_getElem? (i := 163) (by decide +kernel))) (by decide +kernel)
theorem wi_X3_session : Cond.instanceMethod yX3_session ∈ lw_g := lw_g_of (List.mem_append_right _ (List.mem_of_getElem? (i := 161) (by decide +kernel))) (by decide +kernel)
abbrev M_X3_shift : sv_M := (yX3_shift, cX3_shift, 4, (some .int))
theorem wc_X3_shift : Cond.code yX3_shift cX3_shift 4 (some .int) ∈ lw_g := lw_g_of (List.mem_append_right _ (List.mem_of_getElem? (i := 360) (by decide +kernel))) (by decide +kernel)
theorem wi_X3_shift : Cond.instanceMethod yX3_shift ∈ lw_g := lw_g_of (List.mem_append_right _ (List.mem_of_getElem? (i := 358) (by decide +kernel))) (by decide +kernel)
abbrev M_X3_slotBehindHistory : sv_M := (yX3_slotBehindHistory, cX3_slotBehindHistory, 1, (some .int))
theorem wc_X3_slotBehindHistory : Cond.code yX3_slotBehindHistory cX3_slotBehindHistory 1 (some .int) ∈ lw_g := lw_g_of (List.mem_append_right _ (List.mem_of_getElem? (i := 260) (by decide +kernel))) (by decide +kernel)
theorem wi_X3_slotBehindHistory : Cond.instanceMethod yX3_slotBehindHistory ∈ lw_g := lw_g_of (List.mem_append_right _ (List.mem_of_getElem? (i := 259) (by decide +kernel))) (by decide +kernel)
abbrev M_X3_total : sv_M := (yX3_total, cX3_total, 2, (some .int))
theorem wc_X3_total : Cond.code yX3_total cX3_total 2 (some .int) ∈ lw_g := lw_g_of (List.mem_append_right _ (List.mem_of_getElem? (i := 245) (by decide +kernel))) (by decide +kernel)
theorem wi_X3_total : Cond.instanceMethod yX3_total ∈ lw_g := lw_g_of (List.mem_append_right _ (List.mem_of_getElem? (i := 243) (by decide +kernel))) (by decide +kernel)
abbrev M_X3_undoTo : sv_M := (yX3_undoTo, cX3_undoTo, 3, (some .int))
theorem wc_X3_undoTo : Cond.code yX3_undoTo cX3_undoTo 3 (some .int) ∈ lw_g := lw_g_of (List.mem_append_right _ (List.mem_of_getElem? (i := 400) (by decide +kernel))) (by decide +kernel)
theorem wi_X3_undoTo : Cond.instanceMethod yX3_undoTo ∈ lw_g := lw_g_of (List.mem_append_right _ (List.mem_of_getElem? (i := 398) (by decide +kernel))) (by decide +kernel)
abbrev M_X3_value : sv_M := (yX3_value, cX3_value, 2, (some .int))
theorem wc_X3_value : Cond.code yX3_value cX3_value 2 (some .int) ∈ lw_g := lw_g_of (List.mem_append_right _ (List.mem_of_getElem? (i := 144) (by decide +kernel))) (by decide +kernel)
theorem wi_X3_value : Cond.instanceMethod yX3_value ∈ lw_g := lw_g_of (List.mem_append_right _ (List.mem_of_getElem? (i := 142) (by decide +kernel))) (by decide +kernel)
abbrev M_X3_write : sv_M := (yX3_write, cX3_write, 4, (some .int))
theorem wc_X3_write : Cond.code yX3_write cX3_write 4 (some .int) ∈ lw_g := lw_g_of (List.mem_append_right _ (List.mem_of_getElem? (i := 349) (by decide +kernel))) (by decide +kernel)
theorem wi_X3_write : Cond.instanceMethod yX3_write ∈ lw_g := lw_g_of (List.mem_append_right _ (List.mem_of_getElem? (i := 347) (by decide +kernel))) (by decide +kernel)
theorem wn_X0 : Cond.initialized RX0 ∈ lw_g := lw_g_of (List.mem_append_right _ (List.mem_of_getElem? (i := 4) (by decide +kernel))) (by decide +kernel)
theorem wn_X1 : Cond.initialized RX1 ∈ lw_g := lw_g_of (List.mem_append_right _ (List.mem_of_getElem? (i := 2) (by decide +kernel))) (by decide +kernel)
theorem wn_X2 : Cond.initialized RX2 ∈ lw_g := lw_g_of (List.mem_append_right _ (List.mem_of_getElem? (i := 3) (by decide +kernel))) (by decide +kernel)
theorem wn_X3 : Cond.initialized RX3 ∈ lw_g := lw_g_of (List.mem_append_right _ (List.mem_of_getElem? (i := 1) (by decide +kernel))) (by decide +kernel)
theorem wn_L : Cond.initialized RL ∈ lw_g := lw_g_of (List.mem_append_right _ (List.mem_of_getElem? (i := 0) (by decide +kernel))) (by decide +kernel)
theorem wn_J6 : Cond.initialized RJ6 ∈ lw_g := lw_g_of (List.mem_append_right _ (List.mem_of_getElem? (i := 6) (by decide +kernel))) (by decide +kernel)
theorem wn_J9 : Cond.initialized RJ9 ∈ lw_g := lw_g_of (List.mem_append_right _ (List.mem_of_getElem? (i := 5) (by decide +kernel))) (by decide +kernel)
theorem wn_J10 : Cond.initialized RJ10 ∈ lw_g := lw_g_of (List.mem_append_right _ (List.mem_of_getElem? (i := 7) (by decide +kernel))) (by decide +kernel)
theorem mw_J6_bitCount_0f7a4 : sv_MW M_J6_bitCount_0f7a4 := ⟨wc_J6_bitCount_0f7a4, wn_J6, Nat.le_of_ble_eq_true rfl, by decide +kernel, by decide +kernel⟩
theorem mw_J9_max_7cf53 : sv_MW M_J9_max_7cf53 := ⟨wc_J9_max_7cf53, wn_J9, Nat.le_of_ble_eq_true rfl, by decide +kernel, by decide +kernel⟩
theorem mw_J9_min_7cf53 : sv_MW M_J9_min_7cf53 := ⟨wc_J9_min_7cf53, wn_J9, Nat.le_of_ble_eq_true rfl, by decide +kernel, by decide +kernel⟩
theorem mw_L_act : sv_MW M_L_act := ⟨wc_L_act, wn_L, Nat.le_of_ble_eq_true rfl, by decide +kernel, by decide +kernel⟩
theorem mw_L_areValues : sv_MW M_L_areValues := ⟨wc_L_areValues, wn_L, Nat.le_of_ble_eq_true rfl, by decide +kernel, by decide +kernel⟩
theorem mw_L_cell : sv_MW M_L_cell := ⟨wc_L_cell, wn_L, Nat.le_of_ble_eq_true rfl, by decide +kernel, by decide +kernel⟩
theorem mw_L_closes : sv_MW M_L_closes := ⟨wc_L_closes, wn_L, Nat.le_of_ble_eq_true rfl, by decide +kernel, by decide +kernel⟩
theorem mw_L_doneBy : sv_MW M_L_doneBy := ⟨wc_L_doneBy, wn_L, Nat.le_of_ble_eq_true rfl, by decide +kernel, by decide +kernel⟩
theorem mw_L_holds : sv_MW M_L_holds := ⟨wc_L_holds, wn_L, Nat.le_of_ble_eq_true rfl, by decide +kernel, by decide +kernel⟩
theorem mw_L_isSession : sv_MW M_L_isSession := ⟨wc_L_isSession, wn_L, Nat.le_of_ble_eq_true rfl, by decide +kernel, by decide +kernel⟩
theorem mw_L_look : sv_MW M_L_look := ⟨wc_L_look, wn_L, Nat.le_of_ble_eq_true rfl, by decide +kernel, by decide +kernel⟩
theorem mw_L_low : sv_MW M_L_low := ⟨wc_L_low, wn_L, Nat.le_of_ble_eq_true rfl, by decide +kernel, by decide +kernel⟩
theorem mw_L_otherModes : sv_MW M_L_otherModes := ⟨wc_L_otherModes, wn_L, Nat.le_of_ble_eq_true rfl, by decide +kernel, by decide +kernel⟩
theorem mw_L_states : sv_MW M_L_states := ⟨wc_L_states, wn_L, Nat.le_of_ble_eq_true rfl, by decide +kernel, by decide +kernel⟩
theorem mw_L_undoes : sv_MW M_L_undoes := ⟨wc_L_undoes, wn_L, Nat.le_of_ble_eq_true rfl, by decide +kernel, by decide +kernel⟩
theorem mw_X0_init : sv_MW M_X0_init := ⟨wc_X0_init, wn_X0, Nat.le_of_ble_eq_true rfl, by decide +kernel, by decide +kernel⟩
theorem mw_X1_addToValue : sv_MW M_X1_addToValue := ⟨wc_X1_addToValue, wn_X1, Nat.le_of_ble_eq_true rfl, by decide +kernel, by decide +kernel⟩
theorem wv_X1_addToValue : Cond.selects yX1_addToValue.cls yX1_addToValue yX1_addToValue ∈ lw_g := lw_g_of (List.mem_append_left _ (by decide +kernel)) (by decide +kernel)
theorem mw_X1_commitTransaction : sv_MW M_X1_commitTransaction := ⟨wc_X1_commitTransaction, wn_X1, Nat.le_of_ble_eq_true rfl, by decide +kernel, by decide +kernel⟩
theorem wv_X1_commitTransaction : Cond.selects yX1_commitTransaction.cls yX1_commitTransaction yX1_commitTransaction ∈ lw_g := lw_g_of (List.mem_append_left _ (by decide +kernel)) (by decide +kernel)
theorem mw_X1_committedValue : sv_MW M_X1_committedValue := ⟨wc_X1_committedValue, wn_X1, Nat.le_of_ble_eq_true rfl, by decide +kernel, by decide +kernel⟩
theorem wv_X1_committedValue : Cond.selects yX1_committedValue.cls yX1_committedValue yX1_committedValue ∈ lw_g := lw_g_of (List.mem_append_left _ (by decide +kernel)) (by decide +kernel)
theorem mw_X1_copyFrom : sv_MW M_X1_copyFrom := ⟨wc_X1_copyFrom, wn_X1, Nat.le_of_ble_eq_true rfl, by decide +kernel, by decide +kernel⟩
theorem wv_X1_copyFrom : Cond.selects yX1_copyFrom.cls yX1_copyFrom yX1_copyFrom ∈ lw_g := lw_g_of (List.mem_append_left _ (by decide +kernel)) (by decide +kernel)
theorem mw_X1_endStatement : sv_MW M_X1_endStatement := ⟨wc_X1_endStatement, wn_X1, Nat.le_of_ble_eq_true rfl, by decide +kernel, by decide +kernel⟩
theorem wv_X1_endStatement : Cond.selects yX1_endStatement.cls yX1_endStatement yX1_endStatement ∈ lw_g := lw_g_of (List.mem_append_left _ (by decide +kernel)) (by decide +kernel)
theorem mw_X1_eraseKey : sv_MW M_X1_eraseKey := ⟨wc_X1_eraseKey, wn_X1, Nat.le_of_ble_eq_true rfl, by decide +kernel, by decide +kernel⟩
theorem wv_X1_eraseKey : Cond.selects yX1_eraseKey.cls yX1_eraseKey yX1_eraseKey ∈ lw_g := lw_g_of (List.mem_append_left _ (by decide +kernel)) (by decide +kernel)
theorem mw_X1_hasSavepoint : sv_MW M_X1_hasSavepoint := ⟨wc_X1_hasSavepoint, wn_X1, Nat.le_of_ble_eq_true rfl, by decide +kernel, by decide +kernel⟩
theorem wv_X1_hasSavepoint : Cond.selects yX1_hasSavepoint.cls yX1_hasSavepoint yX1_hasSavepoint ∈ lw_g := lw_g_of (List.mem_append_left _ (by decide +kernel)) (by decide +kernel)
theorem mw_X1_init : sv_MW M_X1_init := ⟨wc_X1_init, wn_X1, Nat.le_of_ble_eq_true rfl, by decide +kernel, by decide +kernel⟩
theorem mw_X1_isBusy : sv_MW M_X1_isBusy := ⟨wc_X1_isBusy, wn_X1, Nat.le_of_ble_eq_true rfl, by decide +kernel, by decide +kernel⟩
theorem wv_X1_isBusy : Cond.selects yX1_isBusy.cls yX1_isBusy yX1_isBusy ∈ lw_g := lw_g_of (List.mem_append_left _ (by decide +kernel)) (by decide +kernel)
theorem mw_X1_moveAmount : sv_MW M_X1_moveAmount := ⟨wc_X1_moveAmount, wn_X1, Nat.le_of_ble_eq_true rfl, by decide +kernel, by decide +kernel⟩
theorem wv_X1_moveAmount : Cond.selects yX1_moveAmount.cls yX1_moveAmount yX1_moveAmount ∈ lw_g := lw_g_of (List.mem_append_left _ (by decide +kernel)) (by decide +kernel)
theorem mw_X1_openTransaction : sv_MW M_X1_openTransaction := ⟨wc_X1_openTransaction, wn_X1, Nat.le_of_ble_eq_true rfl, by decide +kernel, by decide +kernel⟩
theorem wv_X1_openTransaction : Cond.selects yX1_openTransaction.cls yX1_openTransaction yX1_openTransaction ∈ lw_g := lw_g_of (List.mem_append_left _ (by decide +kernel)) (by decide +kernel)
theorem mw_X1_readKey : sv_MW M_X1_readKey := ⟨wc_X1_readKey, wn_X1, Nat.le_of_ble_eq_true rfl, by decide +kernel, by decide +kernel⟩
theorem wv_X1_readKey : Cond.selects yX1_readKey.cls yX1_readKey yX1_readKey ∈ lw_g := lw_g_of (List.mem_append_left _ (by decide +kernel)) (by decide +kernel)
theorem mw_X1_releaseName : sv_MW M_X1_releaseName := ⟨wc_X1_releaseName, wn_X1, Nat.le_of_ble_eq_true rfl, by decide +kernel, by decide +kernel⟩
theorem wv_X1_releaseName : Cond.selects yX1_releaseName.cls yX1_releaseName yX1_releaseName ∈ lw_g := lw_g_of (List.mem_append_left _ (by decide +kernel)) (by decide +kernel)
theorem mw_X1_replaceValue : sv_MW M_X1_replaceValue := ⟨wc_X1_replaceValue, wn_X1, Nat.le_of_ble_eq_true rfl, by decide +kernel, by decide +kernel⟩
theorem wv_X1_replaceValue : Cond.selects yX1_replaceValue.cls yX1_replaceValue yX1_replaceValue ∈ lw_g := lw_g_of (List.mem_append_left _ (by decide +kernel)) (by decide +kernel)
theorem mw_X1_rollTransactionBack : sv_MW M_X1_rollTransactionBack := ⟨wc_X1_rollTransactionBack, wn_X1, Nat.le_of_ble_eq_true rfl, by decide +kernel, by decide +kernel⟩
theorem wv_X1_rollTransactionBack : Cond.selects yX1_rollTransactionBack.cls yX1_rollTransactionBack yX1_rollTransactionBack ∈ lw_g := lw_g_of (List.mem_append_left _ (by decide +kernel)) (by decide +kernel)
theorem mw_X1_savepointOrError : sv_MW M_X1_savepointOrError := ⟨wc_X1_savepointOrError, wn_X1, Nat.le_of_ble_eq_true rfl, by decide +kernel, by decide +kernel⟩
theorem wv_X1_savepointOrError : Cond.selects yX1_savepointOrError.cls yX1_savepointOrError yX1_savepointOrError ∈ lw_g := lw_g_of (List.mem_append_left _ (by decide +kernel)) (by decide +kernel)
theorem mw_X1_setSavepoint : sv_MW M_X1_setSavepoint := ⟨wc_X1_setSavepoint, wn_X1, Nat.le_of_ble_eq_true rfl, by decide +kernel, by decide +kernel⟩
theorem wv_X1_setSavepoint : Cond.selects yX1_setSavepoint.cls yX1_setSavepoint yX1_setSavepoint ∈ lw_g := lw_g_of (List.mem_append_left _ (by decide +kernel)) (by decide +kernel)
theorem mw_X1_shiftKeys : sv_MW M_X1_shiftKeys := ⟨wc_X1_shiftKeys, wn_X1, Nat.le_of_ble_eq_true rfl, by decide +kernel, by decide +kernel⟩
theorem wv_X1_shiftKeys : Cond.selects yX1_shiftKeys.cls yX1_shiftKeys yX1_shiftKeys ∈ lw_g := lw_g_of (List.mem_append_left _ (by decide +kernel)) (by decide +kernel)
theorem mw_X1_takeLock : sv_MW M_X1_takeLock := ⟨wc_X1_takeLock, wn_X1, Nat.le_of_ble_eq_true rfl, by decide +kernel, by decide +kernel⟩
theorem wv_X1_takeLock : Cond.selects yX1_takeLock.cls yX1_takeLock yX1_takeLock ∈ lw_g := lw_g_of (List.mem_append_left _ (by decide +kernel)) (by decide +kernel)
theorem mw_X1_undoToMoment : sv_MW M_X1_undoToMoment := ⟨wc_X1_undoToMoment, wn_X1, Nat.le_of_ble_eq_true rfl, by decide +kernel, by decide +kernel⟩
theorem wv_X1_undoToMoment : Cond.selects yX1_undoToMoment.cls yX1_undoToMoment yX1_undoToMoment ∈ lw_g := lw_g_of (List.mem_append_left _ (by decide +kernel)) (by decide +kernel)
theorem mw_X1_undoToName : sv_MW M_X1_undoToName := ⟨wc_X1_undoToName, wn_X1, Nat.le_of_ble_eq_true rfl, by decide +kernel, by decide +kernel⟩
theorem wv_X1_undoToName : Cond.selects yX1_undoToName.cls yX1_undoToName yX1_undoToName ∈ lw_g := lw_g_of (List.mem_append_left _ (by decide +kernel)) (by decide +kernel)
theorem mw_X1_valueCount : sv_MW M_X1_valueCount := ⟨wc_X1_valueCount, wn_X1, Nat.le_of_ble_eq_true rfl, by decide +kernel, by decide +kernel⟩
theorem wv_X1_valueCount : Cond.selects yX1_valueCount.cls yX1_valueCount yX1_valueCount ∈ lw_g := lw_g_of (List.mem_append_left _ (by decide +kernel)) (by decide +kernel)
theorem mw_X1_valueSum : sv_MW M_X1_valueSum := ⟨wc_X1_valueSum, wn_X1, Nat.le_of_ble_eq_true rfl, by decide +kernel, by decide +kernel⟩
theorem wv_X1_valueSum : Cond.selects yX1_valueSum.cls yX1_valueSum yX1_valueSum ∈ lw_g := lw_g_of (List.mem_append_left _ (by decide +kernel)) (by decide +kernel)
theorem mw_X1_whyImpossible : sv_MW M_X1_whyImpossible := ⟨wc_X1_whyImpossible, wn_X1, Nat.le_of_ble_eq_true rfl, by decide +kernel, by decide +kernel⟩
theorem wv_X1_whyImpossible : Cond.selects yX1_whyImpossible.cls yX1_whyImpossible yX1_whyImpossible ∈ lw_g := lw_g_of (List.mem_append_left _ (by decide +kernel)) (by decide +kernel)
theorem mw_X1_writeKey : sv_MW M_X1_writeKey := ⟨wc_X1_writeKey, wn_X1, Nat.le_of_ble_eq_true rfl, by decide +kernel, by decide +kernel⟩
theorem wv_X1_writeKey : Cond.selects yX1_writeKey.cls yX1_writeKey yX1_writeKey ∈ lw_g := lw_g_of (List.mem_append_left _ (by decide +kernel)) (by decide +kernel)
theorem mw_X2_addMoment : sv_MW M_X2_addMoment := ⟨wc_X2_addMoment, wn_X2, Nat.le_of_ble_eq_true rfl, by decide +kernel, by decide +kernel⟩
theorem wv_X2_addMoment : Cond.selects yX2_addMoment.cls yX2_addMoment yX2_addMoment ∈ lw_g := lw_g_of (List.mem_append_left _ (by decide +kernel)) (by decide +kernel)
theorem mw_X2_close : sv_MW M_X2_close := ⟨wc_X2_close, wn_X2, Nat.le_of_ble_eq_true rfl, by decide +kernel, by decide +kernel⟩
theorem wv_X2_close : Cond.selects yX2_close.cls yX2_close yX2_close ∈ lw_g := lw_g_of (List.mem_append_left _ (by decide +kernel)) (by decide +kernel)
theorem mw_X2_copyFrom : sv_MW M_X2_copyFrom := ⟨wc_X2_copyFrom, wn_X2, Nat.le_of_ble_eq_true rfl, by decide +kernel, by decide +kernel⟩
theorem wv_X2_copyFrom : Cond.selects yX2_copyFrom.cls yX2_copyFrom yX2_copyFrom ∈ lw_g := lw_g_of (List.mem_append_left _ (by decide +kernel)) (by decide +kernel)
theorem mw_X2_dropMomentsAfter : sv_MW M_X2_dropMomentsAfter := ⟨wc_X2_dropMomentsAfter, wn_X2, Nat.le_of_ble_eq_true rfl, by decide +kernel, by decide +kernel⟩
theorem wv_X2_dropMomentsAfter : Cond.selects yX2_dropMomentsAfter.cls yX2_dropMomentsAfter yX2_dropMomentsAfter ∈ lw_g := lw_g_of (List.mem_append_left _ (by decide +kernel)) (by decide +kernel)
theorem mw_X2_forgetChangesSince : sv_MW M_X2_forgetChangesSince := ⟨wc_X2_forgetChangesSince, wn_X2, Nat.le_of_ble_eq_true rfl, by decide +kernel, by decide +kernel⟩
theorem wv_X2_forgetChangesSince : Cond.selects yX2_forgetChangesSince.cls yX2_forgetChangesSince yX2_forgetChangesSince ∈ lw_g := lw_g_of (List.mem_append_left _ (by decide +kernel)) (by decide +kernel)
theorem mw_X2_init : sv_MW M_X2_init := ⟨wc_X2_init, wn_X2, Nat.le_of_ble_eq_true rfl, by decide +kernel, by decide +kernel⟩
theorem mw_X2_isOpen : sv_MW M_X2_isOpen := ⟨wc_X2_isOpen, wn_X2, Nat.le_of_ble_eq_true rfl, by decide +kernel, by decide +kernel⟩
theorem wv_X2_isOpen : Cond.selects yX2_isOpen.cls yX2_isOpen yX2_isOpen ∈ lw_g := lw_g_of (List.mem_append_left _ (by decide +kernel)) (by decide +kernel)
theorem mw_X2_keysChangedSince : sv_MW M_X2_keysChangedSince := ⟨wc_X2_keysChangedSince, wn_X2, Nat.le_of_ble_eq_true rfl, by decide +kernel, by decide +kernel⟩
theorem wv_X2_keysChangedSince : Cond.selects yX2_keysChangedSince.cls yX2_keysChangedSince yX2_keysChangedSince ∈ lw_g := lw_g_of (List.mem_append_left _ (by decide +kernel)) (by decide +kernel)
theorem mw_X2_lockCount : sv_MW M_X2_lockCount := ⟨wc_X2_lockCount, wn_X2, Nat.le_of_ble_eq_true rfl, by decide +kernel, by decide +kernel⟩
theorem wv_X2_lockCount : Cond.selects yX2_lockCount.cls yX2_lockCount yX2_lockCount ∈ lw_g := lw_g_of (List.mem_append_left _ (by decide +kernel)) (by decide +kernel)
theorem mw_X2_lockMode : sv_MW M_X2_lockMode := ⟨wc_X2_lockMode, wn_X2, Nat.le_of_ble_eq_true rfl, by decide +kernel, by decide +kernel⟩
theorem wv_X2_lockMode : Cond.selects yX2_lockMode.cls yX2_lockMode yX2_lockMode ∈ lw_g := lw_g_of (List.mem_append_left _ (by decide +kernel)) (by decide +kernel)
theorem mw_X2_locksChangedSince : sv_MW M_X2_locksChangedSince := ⟨wc_X2_locksChangedSince, wn_X2, Nat.le_of_ble_eq_true rfl, by decide +kernel, by decide +kernel⟩
theorem wv_X2_locksChangedSince : Cond.selects yX2_locksChangedSince.cls yX2_locksChangedSince yX2_locksChangedSince ∈ lw_g := lw_g_of (List.mem_append_left _ (by decide +kernel)) (by decide +kernel)
theorem mw_X2_nearestSavepoint : sv_MW M_X2_nearestSavepoint := ⟨wc_X2_nearestSavepoint, wn_X2, Nat.le_of_ble_eq_true rfl, by decide +kernel, by decide +kernel⟩
theorem wv_X2_nearestSavepoint : Cond.selects yX2_nearestSavepoint.cls yX2_nearestSavepoint yX2_nearestSavepoint ∈ lw_g := lw_g_of (List.mem_append_left _ (by decide +kernel)) (by decide +kernel)
theorem mw_X2_noteChange : sv_MW M_X2_noteChange := ⟨wc_X2_noteChange, wn_X2, Nat.le_of_ble_eq_true rfl, by decide +kernel, by decide +kernel⟩
theorem wv_X2_noteChange : Cond.selects yX2_noteChange.cls yX2_noteChange yX2_noteChange ∈ lw_g := lw_g_of (List.mem_append_left _ (by decide +kernel)) (by decide +kernel)
theorem mw_X2_noteChangeAt : sv_MW M_X2_noteChangeAt := ⟨wc_X2_noteChangeAt, wn_X2, Nat.le_of_ble_eq_true rfl, by decide +kernel, by decide +kernel⟩
theorem wv_X2_noteChangeAt : Cond.selects yX2_noteChangeAt.cls yX2_noteChangeAt yX2_noteChangeAt ∈ lw_g := lw_g_of (List.mem_append_left _ (by decide +kernel)) (by decide +kernel)
theorem mw_X2_savepointCount : sv_MW M_X2_savepointCount := ⟨wc_X2_savepointCount, wn_X2, Nat.le_of_ble_eq_true rfl, by decide +kernel, by decide +kernel⟩
theorem wv_X2_savepointCount : Cond.selects yX2_savepointCount.cls yX2_savepointCount yX2_savepointCount ∈ lw_g := lw_g_of (List.mem_append_left _ (by decide +kernel)) (by decide +kernel)
theorem mw_X2_setLockMode : sv_MW M_X2_setLockMode := ⟨wc_X2_setLockMode, wn_X2, Nat.le_of_ble_eq_true rfl, by decide +kernel, by decide +kernel⟩
theorem wv_X2_setLockMode : Cond.selects yX2_setLockMode.cls yX2_setLockMode yX2_setLockMode ∈ lw_g := lw_g_of (List.mem_append_left _ (by decide +kernel)) (by decide +kernel)
theorem mw_X2_undoLocks : sv_MW M_X2_undoLocks := ⟨wc_X2_undoLocks, wn_X2, Nat.le_of_ble_eq_true rfl, by decide +kernel, by decide +kernel⟩
theorem wv_X2_undoLocks : Cond.selects yX2_undoLocks.cls yX2_undoLocks yX2_undoLocks ∈ lw_g := lw_g_of (List.mem_append_left _ (by decide +kernel)) (by decide +kernel)
theorem mw_X2_valueAt : sv_MW M_X2_valueAt := ⟨wc_X2_valueAt, wn_X2, Nat.le_of_ble_eq_true rfl, by decide +kernel, by decide +kernel⟩
theorem wv_X2_valueAt : Cond.selects yX2_valueAt.cls yX2_valueAt yX2_valueAt ∈ lw_g := lw_g_of (List.mem_append_left _ (by decide +kernel)) (by decide +kernel)
theorem mw_X3_begin : sv_MW M_X3_begin := ⟨wc_X3_begin, wn_X3, Nat.le_of_ble_eq_true rfl, by decide +kernel, by decide +kernel⟩
theorem wv_X3_begin : Cond.selects yX3_begin.cls yX3_begin yX3_begin ∈ lw_g := lw_g_of (List.mem_append_right _ (List.mem_of_getElem? (i := 454) (by decide +kernel))) (by decide +kernel)
theorem mw_X3_busyFor : sv_MW M_X3_busyFor := ⟨wc_X3_busyFor, wn_X3, Nat.le_of_ble_eq_true rfl, by decide +kernel, by decide +kernel⟩
theorem wv_X3_busyFor : Cond.selects yX3_busyFor.cls yX3_busyFor yX3_busyFor ∈ lw_g := lw_g_of (List.mem_append_right _ (List.mem_of_getElem? (i := 235) (by decide +kernel))) (by decide +kernel)
theorem mw_X3_changedSince : sv_MW M_X3_changedSince := ⟨wc_X3_changedSince, wn_X3, Nat.le_of_ble_eq_true rfl, by decide +kernel, by decide +kernel⟩
theorem wv_X3_changedSince : Cond.selects yX3_changedSince.cls yX3_changedSince yX3_changedSince ∈ lw_g := lw_g_of (List.mem_append_right _ (List.mem_of_getElem? (i := 189) (by decide +kernel))) (by decide +kernel)
theorem mw_X3_commit : sv_MW M_X3_commit := ⟨wc_X3_commit, wn_X3, Nat.le_of_ble_eq_true rfl, by decide +kernel, by decide +kernel⟩
theorem wv_X3_commit : Cond.selects yX3_commit.cls yX3_commit yX3_commit ∈ lw_g := lw_g_of (List.mem_append_right _ (List.mem_of_getElem? (i := 434) (by decide +kernel))) (by decide +kernel)
theorem mw_X3_committed : sv_MW M_X3_committed := ⟨wc_X3_committed, wn_X3, Nat.le_of_ble_eq_true rfl, by decide +kernel, by decide +kernel⟩
theorem wv_X3_committed : Cond.selects yX3_committed.cls yX3_committed yX3_committed ∈ lw_g := lw_g_of (List.mem_append_right _ (List.mem_of_getElem? (i := 128) (by decide +kernel))) (by decide +kernel)
theorem mw_X3_erase : sv_MW M_X3_erase := ⟨wc_X3_erase, wn_X3, Nat.le_of_ble_eq_true rfl, by decide +kernel, by decide +kernel⟩
theorem wv_X3_erase : Cond.selects yX3_erase.cls yX3_erase yX3_erase ∈ lw_g := lw_g_of (List.mem_append_right _ (List.mem_of_getElem? (i := 332) (by decide +kernel))) (by decide +kernel)
theorem mw_X3_ifUndone : sv_MW M_X3_ifUndone := ⟨wc_X3_ifUndone, wn_X3, Nat.le_of_ble_eq_true rfl, by decide +kernel, by decide +kernel⟩
theorem wv_X3_ifUndone : Cond.selects yX3_ifUndone.cls yX3_ifUndone yX3_ifUndone ∈ lw_g := lw_g_of (List.mem_append_right _ (List.mem_of_getElem? (i := 421) (by decide +kernel))) (by decide +kernel)
theorem mw_X3_init : sv_MW M_X3_init := ⟨wc_X3_init, wn_X3, Nat.le_of_ble_eq_true rfl, by decide +kernel, by decide +kernel⟩
theorem mw_X3_isError : sv_MW M_X3_isError := ⟨wc_X3_isError, wn_X3, Nat.le_of_ble_eq_true rfl, by decide +kernel, by decide +kernel⟩
theorem mw_X3_isKey : sv_MW M_X3_isKey := ⟨wc_X3_isKey, wn_X3, Nat.le_of_ble_eq_true rfl, by decide +kernel, by decide +kernel⟩
theorem mw_X3_isName : sv_MW M_X3_isName := ⟨wc_X3_isName, wn_X3, Nat.le_of_ble_eq_true rfl, by decide +kernel, by decide +kernel⟩
theorem mw_X3_isSession : sv_MW M_X3_isSession := ⟨wc_X3_isSession, wn_X3, Nat.le_of_ble_eq_true rfl, by decide +kernel, by decide +kernel⟩
theorem mw_X3_isValue : sv_MW M_X3_isValue := ⟨wc_X3_isValue, wn_X3, Nat.le_of_ble_eq_true rfl, by decide +kernel, by decide +kernel⟩
theorem mw_X3_keep : sv_MW M_X3_keep := ⟨wc_X3_keep, wn_X3, Nat.le_of_ble_eq_true rfl, by decide +kernel, by decide +kernel⟩
theorem wv_X3_keep : Cond.selects yX3_keep.cls yX3_keep yX3_keep ∈ lw_g := lw_g_of (List.mem_append_right _ (List.mem_of_getElem? (i := 427) (by decide +kernel))) (by decide +kernel)
theorem mw_X3_mean : sv_MW M_X3_mean := ⟨wc_X3_mean, wn_X3, Nat.le_of_ble_eq_true rfl, by decide +kernel, by decide +kernel⟩
theorem wv_X3_mean : Cond.selects yX3_mean.cls yX3_mean yX3_mean ∈ lw_g := lw_g_of (List.mem_append_right _ (List.mem_of_getElem? (i := 147) (by decide +kernel))) (by decide +kernel)
theorem mw_X3_mode : sv_MW M_X3_mode := ⟨wc_X3_mode, wn_X3, Nat.le_of_ble_eq_true rfl, by decide +kernel, by decide +kernel⟩
theorem wv_X3_mode : Cond.selects yX3_mode.cls yX3_mode yX3_mode ∈ lw_g := lw_g_of (List.mem_append_right _ (List.mem_of_getElem? (i := 114) (by decide +kernel))) (by decide +kernel)
theorem mw_X3_momentOf : sv_MW M_X3_momentOf := ⟨wc_X3_momentOf, wn_X3, Nat.le_of_ble_eq_true rfl, by decide +kernel, by decide +kernel⟩
theorem mw_X3_move : sv_MW M_X3_move := ⟨wc_X3_move, wn_X3, Nat.le_of_ble_eq_true rfl, by decide +kernel, by decide +kernel⟩
theorem wv_X3_move : Cond.selects yX3_move.cls yX3_move yX3_move ∈ lw_g := lw_g_of (List.mem_append_right _ (List.mem_of_getElem? (i := 373) (by decide +kernel))) (by decide +kernel)
theorem mw_X3_nameOf : sv_MW M_X3_nameOf := ⟨wc_X3_nameOf, wn_X3, Nat.le_of_ble_eq_true rfl, by decide +kernel, by decide +kernel⟩
theorem wv_X3_nameOf : Cond.selects yX3_nameOf.cls yX3_nameOf yX3_nameOf ∈ lw_g := lw_g_of (List.mem_append_right _ (List.mem_of_getElem? (i := 206) (by decide +kernel))) (by decide +kernel)
theorem mw_X3_nearest : sv_MW M_X3_nearest := ⟨wc_X3_nearest, wn_X3, Nat.le_of_ble_eq_true rfl, by decide +kernel, by decide +kernel⟩
theorem wv_X3_nearest : Cond.selects yX3_nearest.cls yX3_nearest yX3_nearest ∈ lw_g := lw_g_of (List.mem_append_right _ (List.mem_of_getElem? (i := 210) (by decide +kernel))) (by decide +kernel)
theorem mw_X3_read : sv_MW M_X3_read := ⟨wc_X3_read, wn_X3, Nat.le_of_ble_eq_true rfl, by decide +kernel, by decide +kernel⟩
theorem wv_X3_read : Cond.selects yX3_read.cls yX3_read yX3_read ∈ lw_g := lw_g_of (List.mem_append_right _ (List.mem_of_getElem? (i := 251) (by decide +kernel))) (by decide +kernel)
theorem mw_X3_recordUnlessError : sv_MW M_X3_recordUnlessError := ⟨wc_X3_recordUnlessError, wn_X3, Nat.le_of_ble_eq_true rfl, by decide +kernel, by decide +kernel⟩
theorem wv_X3_recordUnlessError : Cond.selects yX3_recordUnlessError.cls yX3_recordUnlessError yX3_recordUnlessError ∈ lw_g := lw_g_of (List.mem_append_left _ (by decide +kernel)) (by decide +kernel)
theorem mw_X3_release : sv_MW M_X3_release := ⟨wc_X3_release, wn_X3, Nat.le_of_ble_eq_true rfl, by decide +kernel, by decide +kernel⟩
theorem wv_X3_release : Cond.selects yX3_release.cls yX3_release yX3_release ∈ lw_g := lw_g_of (List.mem_append_right _ (List.mem_of_getElem? (i := 413) (by decide +kernel))) (by decide +kernel)
theorem mw_X3_rememberState : sv_MW M_X3_rememberState := ⟨wc_X3_rememberState, wn_X3, Nat.le_of_ble_eq_true rfl, by decide +kernel, by decide +kernel⟩
theorem wv_X3_rememberState : Cond.selects yX3_rememberState.cls yX3_rememberState yX3_rememberState ∈ lw_g := lw_g_of (List.mem_append_left _ (by decide +kernel)) (by decide +kernel)
theorem mw_X3_rollback : sv_MW M_X3_rollback := ⟨wc_X3_rollback, wn_X3, Nat.le_of_ble_eq_true rfl, by decide +kernel, by decide +kernel⟩
theorem wv_X3_rollback : Cond.selects yX3_rollback.cls yX3_rollback yX3_rollback ∈ lw_g := lw_g_of (List.mem_append_right _ (List.mem_of_getElem? (i := 446) (by decide +kernel))) (by decide +kernel)
theorem mw_X3_savepoint : sv_MW M_X3_savepoint := ⟨wc_X3_savepoint, wn_X3, Nat.le_of_ble_eq_true rfl, by decide +kernel, by decide +kernel⟩
theorem wv_X3_savepoint : Cond.selects yX3_savepoint.cls yX3_savepoint yX3_savepoint ∈ lw_g := lw_g_of (List.mem_append_right _ (List.mem_of_getElem? (i := 387) (by decide +kernel))) (by decide +kernel)
theorem mw_X3_session : sv_MW M_X3_session := ⟨wc_X3_session, wn_X3, Nat.le_of_ble_eq_true rfl, by decide +kernel, by decide +kernel⟩
theorem wv_X3_session : Cond.selects yX3_session.cls yX3_session yX3_session ∈ lw_g := lw_g_of (List.mem_append_right _ (List.mem_of_getElem? (i := 162) (by decide +kernel))) (by decide +kernel)
theorem mw_X3_shift : sv_MW M_X3_shift := ⟨wc_X3_shift, wn_X3, Nat.le_of_ble_eq_true rfl, by decide +kernel, by decide +kernel⟩
theorem wv_X3_shift : Cond.selects yX3_shift.cls yX3_shift yX3_shift ∈ lw_g := lw_g_of (List.mem_append_right _ (List.mem_of_getElem? (i := 359) (by decide +kernel))) (by decide +kernel)
theorem mw_X3_slotBehindHistory : sv_MW M_X3_slotBehindHistory := ⟨wc_X3_slotBehindHistory, wn_X3, Nat.le_of_ble_eq_true rfl, by decide +kernel, by decide +kernel⟩
theorem wv_X3_slotBehindHistory : Cond.selects yX3_slotBehindHistory.cls yX3_slotBehindHistory yX3_slotBehindHistory ∈ lw_g := lw_g_of (List.mem_append_left _ (by decide +kernel)) (by decide +kernel)
theorem mw_X3_total : sv_MW M_X3_total := ⟨wc_X3_total, wn_X3, Nat.le_of_ble_eq_true rfl, by decide +kernel, by decide +kernel⟩
theorem wv_X3_total : Cond.selects yX3_total.cls yX3_total yX3_total ∈ lw_g := lw_g_of (List.mem_append_right _ (List.mem_of_getElem? (i := 244) (by decide +kernel))) (by decide +kernel)
theorem mw_X3_undoTo : sv_MW M_X3_undoTo := ⟨wc_X3_undoTo, wn_X3, Nat.le_of_ble_eq_true rfl, by decide +kernel, by decide +kernel⟩
theorem wv_X3_undoTo : Cond.selects yX3_undoTo.cls yX3_undoTo yX3_undoTo ∈ lw_g := lw_g_of (List.mem_append_right _ (List.mem_of_getElem? (i := 399) (by decide +kernel))) (by decide +kernel)
theorem mw_X3_value : sv_MW M_X3_value := ⟨wc_X3_value, wn_X3, Nat.le_of_ble_eq_true rfl, by decide +kernel, by decide +kernel⟩
theorem wv_X3_value : Cond.selects yX3_value.cls yX3_value yX3_value ∈ lw_g := lw_g_of (List.mem_append_right _ (List.mem_of_getElem? (i := 143) (by decide +kernel))) (by decide +kernel)
theorem mw_X3_write : sv_MW M_X3_write := ⟨wc_X3_write, wn_X3, Nat.le_of_ble_eq_true rfl, by decide +kernel, by decide +kernel⟩
theorem wv_X3_write : Cond.selects yX3_write.cls yX3_write yX3_write ∈ lw_g := lw_g_of (List.mem_append_right _ (List.mem_of_getElem? (i := 348) (by decide +kernel))) (by decide +kernel)
theorem wx_native : Cond.native arraycopyName ∈ lw_g := lw_g_of (List.mem_append_right _ (List.mem_of_getElem? (i := 267) (by decide +kernel))) (by decide +kernel)
theorem wx_acs : Cond.static arraycopyName ∈ lw_g := lw_g_of (List.mem_append_right _ (List.mem_of_getElem? (i := 266) (by decide +kernel))) (by decide +kernel)
theorem wx_sys : Cond.initialized "java/lang/System" ∈ lw_g := lw_g_of (List.mem_append_right _ (List.mem_of_getElem? (i := 7) (by decide +kernel))) (by decide +kernel)
theorem wx_math : Cond.initialized "java/lang/Math" ∈ lw_g := lw_g_of (List.mem_append_right _ (List.mem_of_getElem? (i := 5) (by decide +kernel))) (by decide +kernel)
theorem wx_maxs : Cond.static Lib.Math.max.name ∈ lw_g := lw_g_of (List.mem_append_right _ (List.mem_of_getElem? (i := 139) (by decide +kernel))) (by decide +kernel)
theorem wx_maxc : Cond.code Lib.Math.max.name Lib.Math.max.code 2 (some .int) ∈ lw_g := lw_g_of (List.mem_append_right _ (List.mem_of_getElem? (i := 140) (by decide +kernel))) (by decide +kernel)
theorem wx_mins : Cond.static Lib.Math.min.name ∈ lw_g := lw_g_of (List.mem_append_right _ (List.mem_of_getElem? (i := 321) (by decide +kernel))) (by decide +kernel)
theorem wx_minc : Cond.code Lib.Math.min.name Lib.Math.min.code 2 (some .int) ∈ lw_g := lw_g_of (List.mem_append_right _ (List.mem_of_getElem? (i := 322) (by decide +kernel))) (by decide +kernel)
end
section
section SITES
variable {G : sv_G} {K : sv_K} {cc : ByteArray} {nL d d2 : Nat} {M M1 : sv_Mem} {pc : Nat} {lo : List (Option Value)} {rest : List Value} {i j : Nat}
theorem wl_X0_9 : Cond.fieldLink RX0 9 "SavepointStore$Script" (TX0 0).2.1 (TX0 0).2.2.1 ∈ lw_g := lw_g_of (List.mem_append_right _ (List.mem_of_getElem? (i := 76) (by decide +kernel))) (by decide +kernel)
theorem gf_X0_9 (X : sv_X G K cc RX0 nL d) (hd : decode cc pc = .ok (.getfield 9, 3)) (kk : sw_W G K nL (pc + 3) lo (.ref (sv_ad G 3 8 0) :: rest) M) : sw_W G K nL pc lo (.ref (sv_ad G 2 8 0) :: rest) M := sw_get X (by omega) (by rfl) (by rfl) inX0 0 (by decide) wl_X0_9 rfl (by rfl) hd kk
theorem wl_X1_9 : Cond.fieldLink RX1 9 "SavepointStore$State" (TX1 1).2.1 (TX1 1).2.2.1 ∈ lw_g := lw_g_of (List.mem_append_right _ (List.mem_of_getElem? (i := 54) (by decide +kernel))) (by decide +kernel)
theorem gf_X1_9 (X : sv_X G K cc RX1 nL d) (hi : i < 8) (hd : decode cc pc = .ok (.getfield 9, 3)) (kk : sw_W G K nL (pc + 3) lo (.ref (sv_ad G 11 i 0) :: rest) M) : sw_W G K nL pc lo (.ref (sv_ad G 10 i 0) :: rest) M := sw_get X (by omega) (by rfl) (by rfl) inX1 1 (by decide) wl_X1_9 rfl (by rfl) hd kk
theorem wl_X1_17 : Cond.fieldLink RX1 17 "SavepointStore$State" (TX1 2).2.1 (TX1 2).2.2.1 ∈ lw_g := lw_g_of (List.mem_append_right _ (List.mem_of_getElem? (i := 56) (by decide +kernel))) (by decide +kernel)
theorem gf_X1_17 (X : sv_X G K cc RX1 nL d) (hi : i < 8) (hd : decode cc pc = .ok (.getfield 17, 3)) (kk : sw_W G K nL (pc + 3) lo (.ref (sv_ad G 12 i 0) :: rest) M) : sw_W G K nL pc lo (.ref (sv_ad G 10 i 0) :: rest) M := sw_get X (by omega) (by rfl) (by rfl) inX1 2 (by decide) wl_X1_17 rfl (by rfl) hd kk
theorem wl_X1_21 : Cond.fieldLink RX1 21 "SavepointStore$State" (TX1 3).2.1 (TX1 3).2.2.1 ∈ lw_g := lw_g_of (List.mem_append_right _ (List.mem_of_getElem? (i := 58) (by decide +kernel))) (by decide +kernel)
theorem gf_X1_21 (X : sv_X G K cc RX1 nL d) (hi : i < 8) (hd : decode cc pc = .ok (.getfield 21, 3)) (kk : sw_W G K nL (pc + 3) lo (.ref (sv_ad G 13 i 0) :: rest) M) : sw_W G K nL pc lo (.ref (sv_ad G 10 i 0) :: rest) M := sw_get X (by omega) (by rfl) (by rfl) inX1 3 (by decide) wl_X1_21 rfl (by rfl) hd kk
theorem wl_X1_24 : Cond.methodLinkNest RX1 24 yX2_init "SavepointStore" ∈ lw_n := lw_n_of (List.mem_append_right _ (List.mem_of_getElem? (i := 25) (by decide +kernel))) rfl
theorem wl_X1_25 : Cond.fieldLink RX1 25 "SavepointStore$State" (TX1 0).2.1 (TX1 0).2.2.1 ∈ lw_g := lw_g_of (List.mem_append_right _ (List.mem_of_getElem? (i := 52) (by decide +kernel))) (by decide +kernel)
theorem gf_X1_25 (X : sv_X G K cc RX1 nL d) (hi : i < 8) (hd : decode cc pc = .ok (.getfield 25, 3)) (kk : sw_W G K nL (pc + 3) lo (.int (M i 10 0 0) :: rest) M) : sw_W G K nL pc lo (.ref (sv_ad G 10 i 0) :: rest) M := sw_get X (by omega) (by rfl) (by rfl) inX1 0 (by decide) wl_X1_25 rfl (by rfl) hd kk
theorem pf_X1_25 (X : sv_X G K cc RX1 nL d) (hi : i < 8) {x : Int32} (hz : narrow .boolean (.int x) = .int x) (hz2 : fits .boolean (.int x) = true) (hd : decode cc pc = .ok (.putfield 25, 3)) (kk : sw_W G K nL (pc + 3) lo rest (sv_up M i 10 0 0 x)) : sw_W G K nL pc lo (.int x :: .ref (sv_ad G 10 i 0) :: rest) M := sw_put X (by omega) (by rfl) (by rfl) inX1 tyX1 tyX1_ok nmX1 0 (by decide) wl_X1_25 rfl (by decide +kernel) (tyX1_ok 0 (by decide)) hz hz2 (by show 0 < 4; decide) (by simp only [sv_ent, sv_up_at]; rfl) hd kk
theorem wl_X1_29 : Cond.methodLink RX1 29 arraycopyName ∈ lw_g := lw_g_of (List.mem_append_right _ (List.mem_of_getElem? (i := 265) (by decide +kernel))) (by decide +kernel)
theorem wl_X1_35 : Cond.methodLinkNest RX1 35 yX2_copyFrom "SavepointStore" ∈ lw_n := lw_n_of (List.mem_append_right _ (List.mem_of_getElem? (i := 268) (by decide +kernel))) rfl
theorem ca_X1_35 (X : sv_X G K cc RX1 nL d) (hi : i < 8) (hj : j < 3) {v0 : Value} (hdd : d2 + 1 ≤ d) (hd : decode cc pc = .ok (.invokevirtual 35, 3)) (hw : (rest.map fun v => v.category).sum ≤ 8) (hM : sv_Ct G M_X2_copyFrom d2 [.ref (sv_ad G 14 i j), v0] M none M1) (kk : sw_W G K nL (pc + 3) lo rest M1) : sw_W G K nL pc lo (v0 :: .ref (sv_ad G 14 i j) :: rest) M := sw_callVN (As := [v0]) (n := 1) X mw_X2_copyFrom (by omega) (by rfl) (by rfl) rfl (by decide +kernel) rfl wl_X1_35 wi_X2_copyFrom wv_X2_copyFrom hdd hd hw rfl hM kk
theorem wl_X1_39 : Cond.methodLinkNest RX1 39 yX2_valueAt "SavepointStore" ∈ lw_n := lw_n_of (List.mem_append_right _ (List.mem_of_getElem? (i := 134) (by decide +kernel))) rfl
theorem ca_X1_39 (X : sv_X G K cc RX1 nL d) (hi : i < 8) (hj : j < 3) {v0 v1 v2 : Value} {rv : Value} (hdd : d2 + 1 ≤ d) (hd : decode cc pc = .ok (.invokevirtual 39, 3)) (hw : (rest.map fun v => v.category).sum ≤ 8) (hM : sv_Ct G M_X2_valueAt d2 [.ref (sv_ad G 14 i j), v0, v1, v2] M (some rv) M1) (kk : sw_W G K nL (pc + 3) lo (rv :: rest) M1) : sw_W G K nL pc lo (v2 :: v1 :: v0 :: .ref (sv_ad G 14 i j) :: rest) M := sw_callVN (As := [v0, v1, v2]) (n := 3) X mw_X2_valueAt (by omega) (by rfl) (by rfl) rfl (by decide +kernel) rfl wl_X1_39 wi_X2_valueAt wv_X2_valueAt hdd hd hw rfl hM kk
theorem wl_X1_43 : Cond.methodLinkNest RX1 43 yX3_isSession "SavepointStore" ∈ lw_n := lw_n_of (List.mem_append_right _ (List.mem_of_getElem? (i := 195) (by decide +kernel))) rfl
theorem ca_X1_43 (X : sv_X G K cc RX1 nL d) {v0 : Value} {rv : Value} (hdd : d2 + 1 ≤ d) (hd : decode cc pc = .ok (.invokestatic 43, 3)) (hw : (rest.map fun v => v.category).sum ≤ 8) (hM : sv_Ct G M_X3_isSession d2 [v0] M (some rv) M1) (kk : sw_W G K nL (pc + 3) lo (rv :: rest) M1) : sw_W G K nL pc lo (v0 :: rest) M := sw_callSN (As := [v0]) (n := 1) X mw_X3_isSession (by decide +kernel) rfl wl_X1_43 ws_X3_isSession hdd hd hw rfl hM kk
theorem wl_X1_47 : Cond.methodLinkNest RX1 47 yX2_savepointCount "SavepointStore" ∈ lw_n := lw_n_of (List.mem_append_right _ (List.mem_of_getElem? (i := 196) (by decide +kernel))) rfl
theorem ca_X1_47 (X : sv_X G K cc RX1 nL d) (hi : i < 8) (hj : j < 3) {rv : Value} (hdd : d2 + 1 ≤ d) (hd : decode cc pc = .ok (.invokevirtual 47, 3)) (hw : (rest.map fun v => v.category).sum ≤ 8) (hM : sv_Ct G M_X2_savepointCount d2 [.ref (sv_ad G 14 i j)] M (some rv) M1) (kk : sw_W G K nL (pc + 3) lo (rv :: rest) M1) : sw_W G K nL pc lo (.ref (sv_ad G 14 i j) :: rest) M := sw_callVN (As := []) (n := 0) X mw_X2_savepointCount (by omega) (by rfl) (by rfl) rfl (by decide +kernel) rfl wl_X1_47 wi_X2_savepointCount wv_X2_savepointCount hdd hd hw rfl hM kk
theorem wl_X1_51 : Cond.methodLinkNest RX1 51 yX2_isOpen "SavepointStore" ∈ lw_n := lw_n_of (List.mem_append_right _ (List.mem_of_getElem? (i := 282) (by decide +kernel))) rfl
theorem ca_X1_51 (X : sv_X G K cc RX1 nL d) (hi : i < 8) (hj : j < 3) {rv : Value} (hdd : d2 + 1 ≤ d) (hd : decode cc pc = .ok (.invokevirtual 51, 3)) (hw : (rest.map fun v => v.category).sum ≤ 8) (hM : sv_Ct G M_X2_isOpen d2 [.ref (sv_ad G 14 i j)] M (some rv) M1) (kk : sw_W G K nL (pc + 3) lo (rv :: rest) M1) : sw_W G K nL pc lo (.ref (sv_ad G 14 i j) :: rest) M := sw_callVN (As := []) (n := 0) X mw_X2_isOpen (by omega) (by rfl) (by rfl) rfl (by decide +kernel) rfl wl_X1_51 wi_X2_isOpen wv_X2_isOpen hdd hd hw rfl hM kk
theorem wl_X1_55 : Cond.methodLinkNest RX1 55 yX2_addMoment "SavepointStore" ∈ lw_n := lw_n_of (List.mem_append_right _ (List.mem_of_getElem? (i := 283) (by decide +kernel))) rfl
theorem ca_X1_55 (X : sv_X G K cc RX1 nL d) (hi : i < 8) (hj : j < 3) (hdd : d2 + 1 ≤ d) (hd : decode cc pc = .ok (.invokevirtual 55, 3)) (hw : (rest.map fun v => v.category).sum ≤ 8) (hM : sv_Ct G M_X2_addMoment d2 [.ref (sv_ad G 14 i j)] M none M1) (kk : sw_W G K nL (pc + 3) lo rest M1) : sw_W G K nL pc lo (.ref (sv_ad G 14 i j) :: rest) M := sw_callVN (As := []) (n := 0) X mw_X2_addMoment (by omega) (by rfl) (by rfl) rfl (by decide +kernel) rfl wl_X1_55 wi_X2_addMoment wv_X2_addMoment hdd hd hw rfl hM kk
theorem wl_X1_58 : Cond.methodLink RX1 58 yX1_whyImpossible ∈ lw_g := lw_g_of (List.mem_append_right _ (List.mem_of_getElem? (i := 278) (by decide +kernel))) (by decide +kernel)
theorem ca_X1_58 (X : sv_X G K cc RX1 nL d) (hi : i < 8) {v0 v1 v2 : Value} {rv : Value} (hdd : d2 + 1 ≤ d) (hd : decode cc pc = .ok (.invokevirtual 58, 3)) (hw : (rest.map fun v => v.category).sum ≤ 8) (hM : sv_Ct G M_X1_whyImpossible d2 [.ref (sv_ad G 10 i 0), v0, v1, v2] M (some rv) M1) (kk : sw_W G K nL (pc + 3) lo (rv :: rest) M1) : sw_W G K nL pc lo (v2 :: v1 :: v0 :: .ref (sv_ad G 10 i 0) :: rest) M := sw_callV (As := [v0, v1, v2]) (n := 3) X mw_X1_whyImpossible (by omega) (by rfl) (by rfl) rfl (by decide +kernel) rfl wl_X1_58 wi_X1_whyImpossible wv_X1_whyImpossible hdd hd hw rfl hM kk
theorem wl_X1_62 : Cond.methodLinkNest RX1 62 yX2_close "SavepointStore" ∈ lw_n := lw_n_of (List.mem_append_right _ (List.mem_of_getElem? (i := 440) (by decide +kernel))) rfl
theorem ca_X1_62 (X : sv_X G K cc RX1 nL d) (hi : i < 8) (hj : j < 3) (hdd : d2 + 1 ≤ d) (hd : decode cc pc = .ok (.invokevirtual 62, 3)) (hw : (rest.map fun v => v.category).sum ≤ 8) (hM : sv_Ct G M_X2_close d2 [.ref (sv_ad G 14 i j)] M none M1) (kk : sw_W G K nL (pc + 3) lo rest M1) : sw_W G K nL pc lo (.ref (sv_ad G 14 i j) :: rest) M := sw_callVN (As := []) (n := 0) X mw_X2_close (by omega) (by rfl) (by rfl) rfl (by decide +kernel) rfl wl_X1_62 wi_X2_close wv_X2_close hdd hd hw rfl hM kk
theorem wl_X1_65 : Cond.methodLink RX1 65 yX1_undoToMoment ∈ lw_g := lw_g_of (List.mem_append_right _ (List.mem_of_getElem? (i := 300) (by decide +kernel))) (by decide +kernel)
theorem ca_X1_65 (X : sv_X G K cc RX1 nL d) (hi : i < 8) {v0 v1 : Value} {rv : Value} (hdd : d2 + 1 ≤ d) (hd : decode cc pc = .ok (.invokevirtual 65, 3)) (hw : (rest.map fun v => v.category).sum ≤ 8) (hM : sv_Ct G M_X1_undoToMoment d2 [.ref (sv_ad G 10 i 0), v0, v1] M (some rv) M1) (kk : sw_W G K nL (pc + 3) lo (rv :: rest) M1) : sw_W G K nL pc lo (v1 :: v0 :: .ref (sv_ad G 10 i 0) :: rest) M := sw_callV (As := [v0, v1]) (n := 2) X mw_X1_undoToMoment (by omega) (by rfl) (by rfl) rfl (by decide +kernel) rfl wl_X1_65 wi_X1_undoToMoment wv_X1_undoToMoment hdd hd hw rfl hM kk
theorem wl_X1_69 : Cond.methodLinkNest RX1 69 yX3_isName "SavepointStore" ∈ lw_n := lw_n_of (List.mem_append_right _ (List.mem_of_getElem? (i := 393) (by decide +kernel))) rfl
theorem ca_X1_69 (X : sv_X G K cc RX1 nL d) {v0 : Value} {rv : Value} (hdd : d2 + 1 ≤ d) (hd : decode cc pc = .ok (.invokestatic 69, 3)) (hw : (rest.map fun v => v.category).sum ≤ 8) (hM : sv_Ct G M_X3_isName d2 [v0] M (some rv) M1) (kk : sw_W G K nL (pc + 3) lo (rv :: rest) M1) : sw_W G K nL pc lo (v0 :: rest) M := sw_callSN (As := [v0]) (n := 1) X mw_X3_isName (by decide +kernel) rfl wl_X1_69 ws_X3_isName hdd hd hw rfl hM kk
theorem wl_X1_72 : Cond.fieldLinkNest RX1 72 "SavepointStore$Transaction" (TX2 3).2.1 (TX2 3).2.2.1 "SavepointStore" ∈ lw_n := lw_n_of (List.mem_append_right _ (List.mem_of_getElem? (i := 34) (by decide +kernel))) rfl
theorem gf_X1_72 (X : sv_X G K cc RX1 nL d) (hi : i < 8) (hj : j < 3) (hd : decode cc pc = .ok (.getfield 72, 3)) (kk : sw_W G K nL (pc + 3) lo (.ref (sv_ad G 16 i j) :: rest) M) : sw_W G K nL pc lo (.ref (sv_ad G 14 i j) :: rest) M := sw_getN X (by omega) (by rfl) (by rfl) inX2 3 (by decide) wl_X1_72 rfl (by rfl) hd kk
theorem wl_X1_75 : Cond.methodLink RX1 75 yX1_savepointOrError ∈ lw_g := lw_g_of (List.mem_append_right _ (List.mem_of_getElem? (i := 405) (by decide +kernel))) (by decide +kernel)
theorem ca_X1_75 (X : sv_X G K cc RX1 nL d) (hi : i < 8) {v0 v1 : Value} {rv : Value} (hdd : d2 + 1 ≤ d) (hd : decode cc pc = .ok (.invokevirtual 75, 3)) (hw : (rest.map fun v => v.category).sum ≤ 8) (hM : sv_Ct G M_X1_savepointOrError d2 [.ref (sv_ad G 10 i 0), v0, v1] M (some rv) M1) (kk : sw_W G K nL (pc + 3) lo (rv :: rest) M1) : sw_W G K nL pc lo (v1 :: v0 :: .ref (sv_ad G 10 i 0) :: rest) M := sw_callV (As := [v0, v1]) (n := 2) X mw_X1_savepointOrError (by omega) (by rfl) (by rfl) rfl (by decide +kernel) rfl wl_X1_75 wi_X1_savepointOrError wv_X1_savepointOrError hdd hd hw rfl hM kk
theorem wl_X1_79 : Cond.methodLinkNest RX1 79 yX3_momentOf "SavepointStore" ∈ lw_n := lw_n_of (List.mem_append_right _ (List.mem_of_getElem? (i := 410) (by decide +kernel))) rfl
theorem ca_X1_79 (X : sv_X G K cc RX1 nL d) {v0 : Value} {rv : Value} (hdd : d2 + 1 ≤ d) (hd : decode cc pc = .ok (.invokestatic 79, 3)) (hw : (rest.map fun v => v.category).sum ≤ 8) (hM : sv_Ct G M_X3_momentOf d2 [v0] M (some rv) M1) (kk : sw_W G K nL (pc + 3) lo (rv :: rest) M1) : sw_W G K nL pc lo (v0 :: rest) M := sw_callSN (As := [v0]) (n := 1) X mw_X3_momentOf (by decide +kernel) rfl wl_X1_79 ws_X3_momentOf hdd hd hw rfl hM kk
theorem wl_X1_83 : Cond.methodLinkNest RX1 83 yX2_dropMomentsAfter "SavepointStore" ∈ lw_n := lw_n_of (List.mem_append_right _ (List.mem_of_getElem? (i := 312) (by decide +kernel))) rfl
theorem ca_X1_83 (X : sv_X G K cc RX1 nL d) (hi : i < 8) (hj : j < 3) {v0 : Value} (hdd : d2 + 1 ≤ d) (hd : decode cc pc = .ok (.invokevirtual 83, 3)) (hw : (rest.map fun v => v.category).sum ≤ 8) (hM : sv_Ct G M_X2_dropMomentsAfter d2 [.ref (sv_ad G 14 i j), v0] M none M1) (kk : sw_W G K nL (pc + 3) lo rest M1) : sw_W G K nL pc lo (v0 :: .ref (sv_ad G 14 i j) :: rest) M := sw_callVN (As := [v0]) (n := 1) X mw_X2_dropMomentsAfter (by omega) (by rfl) (by rfl) rfl (by decide +kernel) rfl wl_X1_83 wi_X2_dropMomentsAfter wv_X2_dropMomentsAfter hdd hd hw rfl hM kk
theorem wl_X1_87 : Cond.methodLinkNest RX1 87 yX2_nearestSavepoint "SavepointStore" ∈ lw_n := lw_n_of (List.mem_append_right _ (List.mem_of_getElem? (i := 409) (by decide +kernel))) rfl
theorem ca_X1_87 (X : sv_X G K cc RX1 nL d) (hi : i < 8) (hj : j < 3) {v0 : Value} {rv : Value} (hdd : d2 + 1 ≤ d) (hd : decode cc pc = .ok (.invokevirtual 87, 3)) (hw : (rest.map fun v => v.category).sum ≤ 8) (hM : sv_Ct G M_X2_nearestSavepoint d2 [.ref (sv_ad G 14 i j), v0] M (some rv) M1) (kk : sw_W G K nL (pc + 3) lo (rv :: rest) M1) : sw_W G K nL pc lo (v0 :: .ref (sv_ad G 14 i j) :: rest) M := sw_callVN (As := [v0]) (n := 1) X mw_X2_nearestSavepoint (by omega) (by rfl) (by rfl) rfl (by decide +kernel) rfl wl_X1_87 wi_X2_nearestSavepoint wv_X2_nearestSavepoint hdd hd hw rfl hM kk
theorem wl_X1_90 : Cond.methodLinkNest RX1 90 yX3_isKey "SavepointStore" ∈ lw_n := lw_n_of (List.mem_append_right _ (List.mem_of_getElem? (i := 277) (by decide +kernel))) rfl
theorem ca_X1_90 (X : sv_X G K cc RX1 nL d) {v0 : Value} {rv : Value} (hdd : d2 + 1 ≤ d) (hd : decode cc pc = .ok (.invokestatic 90, 3)) (hw : (rest.map fun v => v.category).sum ≤ 8) (hM : sv_Ct G M_X3_isKey d2 [v0] M (some rv) M1) (kk : sw_W G K nL (pc + 3) lo (rv :: rest) M1) : sw_W G K nL pc lo (v0 :: rest) M := sw_callSN (As := [v0]) (n := 1) X mw_X3_isKey (by decide +kernel) rfl wl_X1_90 ws_X3_isKey hdd hd hw rfl hM kk
theorem wl_X1_93 : Cond.methodLink RX1 93 yX1_takeLock ∈ lw_g := lw_g_of (List.mem_append_right _ (List.mem_of_getElem? (i := 287) (by decide +kernel))) (by decide +kernel)
theorem ca_X1_93 (X : sv_X G K cc RX1 nL d) (hi : i < 8) {v0 v1 v2 : Value} {rv : Value} (hdd : d2 + 1 ≤ d) (hd : decode cc pc = .ok (.invokevirtual 93, 3)) (hw : (rest.map fun v => v.category).sum ≤ 8) (hM : sv_Ct G M_X1_takeLock d2 [.ref (sv_ad G 10 i 0), v0, v1, v2] M (some rv) M1) (kk : sw_W G K nL (pc + 3) lo (rv :: rest) M1) : sw_W G K nL pc lo (v2 :: v1 :: v0 :: .ref (sv_ad G 10 i 0) :: rest) M := sw_callV (As := [v0, v1, v2]) (n := 3) X mw_X1_takeLock (by omega) (by rfl) (by rfl) rfl (by decide +kernel) rfl wl_X1_93 wi_X1_takeLock wv_X1_takeLock hdd hd hw rfl hM kk
theorem wl_X1_97 : Cond.methodLink RX1 97 yX1_endStatement ∈ lw_g := lw_g_of (List.mem_append_right _ (List.mem_of_getElem? (i := 296) (by decide +kernel))) (by decide +kernel)
theorem ca_X1_97 (X : sv_X G K cc RX1 nL d) (hi : i < 8) {v0 v1 : Value} {rv : Value} (hdd : d2 + 1 ≤ d) (hd : decode cc pc = .ok (.invokevirtual 97, 3)) (hw : (rest.map fun v => v.category).sum ≤ 8) (hM : sv_Ct G M_X1_endStatement d2 [.ref (sv_ad G 10 i 0), v0, v1] M (some rv) M1) (kk : sw_W G K nL (pc + 3) lo (rv :: rest) M1) : sw_W G K nL pc lo (v1 :: v0 :: .ref (sv_ad G 10 i 0) :: rest) M := sw_callV (As := [v0, v1]) (n := 2) X mw_X1_endStatement (by omega) (by rfl) (by rfl) rfl (by decide +kernel) rfl wl_X1_97 wi_X1_endStatement wv_X1_endStatement hdd hd hw rfl hM kk
theorem wl_X1_100 : Cond.methodLinkNest RX1 100 yX3_isValue "SavepointStore" ∈ lw_n := lw_n_of (List.mem_append_right _ (List.mem_of_getElem? (i := 354) (by decide +kernel))) rfl
theorem ca_X1_100 (X : sv_X G K cc RX1 nL d) {v0 : Value} {rv : Value} (hdd : d2 + 1 ≤ d) (hd : decode cc pc = .ok (.invokestatic 100, 3)) (hw : (rest.map fun v => v.category).sum ≤ 8) (hM : sv_Ct G M_X3_isValue d2 [v0] M (some rv) M1) (kk : sw_W G K nL (pc + 3) lo (rv :: rest) M1) : sw_W G K nL pc lo (v0 :: rest) M := sw_callSN (As := [v0]) (n := 1) X mw_X3_isValue (by decide +kernel) rfl wl_X1_100 ws_X3_isValue hdd hd hw rfl hM kk
theorem wl_X1_103 : Cond.methodLink RX1 103 yX1_replaceValue ∈ lw_g := lw_g_of (List.mem_append_right _ (List.mem_of_getElem? (i := 338) (by decide +kernel))) (by decide +kernel)
theorem ca_X1_103 (X : sv_X G K cc RX1 nL d) (hi : i < 8) {v0 v1 v2 : Value} {rv : Value} (hdd : d2 + 1 ≤ d) (hd : decode cc pc = .ok (.invokevirtual 103, 3)) (hw : (rest.map fun v => v.category).sum ≤ 8) (hM : sv_Ct G M_X1_replaceValue d2 [.ref (sv_ad G 10 i 0), v0, v1, v2] M (some rv) M1) (kk : sw_W G K nL (pc + 3) lo (rv :: rest) M1) : sw_W G K nL pc lo (v2 :: v1 :: v0 :: .ref (sv_ad G 10 i 0) :: rest) M := sw_callV (As := [v0, v1, v2]) (n := 3) X mw_X1_replaceValue (by omega) (by rfl) (by rfl) rfl (by decide +kernel) rfl wl_X1_103 wi_X1_replaceValue wv_X1_replaceValue hdd hd hw rfl hM kk
theorem wl_X1_107 : Cond.methodLink RX1 107 yJ6_bitCount_0f7a4 ∈ lw_g := lw_g_of (List.mem_append_right _ (List.mem_of_getElem? (i := 366) (by decide +kernel))) (by decide +kernel)
theorem ca_X1_107 (X : sv_X G K cc RX1 nL d) {v0 : Value} {rv : Value} (hdd : d2 + 1 ≤ d) (hd : decode cc pc = .ok (.invokestatic 107, 3)) (hw : (rest.map fun v => v.category).sum ≤ 8) (hM : sv_Ct G M_J6_bitCount_0f7a4 d2 [v0] M (some rv) M1) (kk : sw_W G K nL (pc + 3) lo (rv :: rest) M1) : sw_W G K nL pc lo (v0 :: rest) M := sw_callS (As := [v0]) (n := 1) X mw_J6_bitCount_0f7a4 (by decide +kernel) rfl wl_X1_107 ws_J6_bitCount_0f7a4 hdd hd hw rfl hM kk
theorem wl_X1_112 : Cond.methodLink RX1 112 yX1_addToValue ∈ lw_g := lw_g_of (List.mem_append_right _ (List.mem_of_getElem? (i := 367) (by decide +kernel))) (by decide +kernel)
theorem ca_X1_112 (X : sv_X G K cc RX1 nL d) (hi : i < 8) {v0 v1 v2 v3 : Value} {rv : Value} (hdd : d2 + 1 ≤ d) (hd : decode cc pc = .ok (.invokevirtual 112, 3)) (hw : (rest.map fun v => v.category).sum ≤ 8) (hM : sv_Ct G M_X1_addToValue d2 [.ref (sv_ad G 10 i 0), v0, v1, v2, v3] M (some rv) M1) (kk : sw_W G K nL (pc + 3) lo (rv :: rest) M1) : sw_W G K nL pc lo (v3 :: v2 :: v1 :: v0 :: .ref (sv_ad G 10 i 0) :: rest) M := sw_callV (As := [v0, v1, v2, v3]) (n := 4) X mw_X1_addToValue (by omega) (by rfl) (by rfl) rfl (by decide +kernel) rfl wl_X1_112 wi_X1_addToValue wv_X1_addToValue hdd hd hw rfl hM kk
theorem wl_X1_116 : Cond.fieldLinkNest RX1 116 "SavepointStore$Transaction" (TX2 0).2.1 (TX2 0).2.2.1 "SavepointStore" ∈ lw_n := lw_n_of (List.mem_append_right _ (List.mem_of_getElem? (i := 30) (by decide +kernel))) rfl
theorem gf_X1_116 (X : sv_X G K cc RX1 nL d) (hi : i < 8) (hj : j < 3) (hd : decode cc pc = .ok (.getfield 116, 3)) (kk : sw_W G K nL (pc + 3) lo (.int (M i 14 j 0) :: rest) M) : sw_W G K nL pc lo (.ref (sv_ad G 14 i j) :: rest) M := sw_getN X (by omega) (by rfl) (by rfl) inX2 0 (by decide) wl_X1_116 rfl (by rfl) hd kk
theorem pf_X1_116 (X : sv_X G K cc RX1 nL d) (hi : i < 8) (hj : j < 3) {x : Int32} (hd : decode cc pc = .ok (.putfield 116, 3)) (kk : sw_W G K nL (pc + 3) lo rest (sv_up M i 14 j 0 x)) : sw_W G K nL pc lo (.int x :: .ref (sv_ad G 14 i j) :: rest) M := sw_putN X (by omega) (by rfl) (by rfl) inX2 tyX2 tyX2_ok nmX2 0 (by decide) wl_X1_116 rfl (by decide +kernel) (tyX2_ok 0 (by decide)) rfl rfl (by show 0 < 6; decide) (by simp only [sv_ent, sv_up_at]; rfl) hd kk
theorem wl_X1_120 : Cond.methodLinkNest RX1 120 yX2_noteChange "SavepointStore" ∈ lw_n := lw_n_of (List.mem_append_right _ (List.mem_of_getElem? (i := 342) (by decide +kernel))) rfl
theorem ca_X1_120 (X : sv_X G K cc RX1 nL d) (hi : i < 8) (hj : j < 3) {v0 v1 : Value} (hdd : d2 + 1 ≤ d) (hd : decode cc pc = .ok (.invokevirtual 120, 3)) (hw : (rest.map fun v => v.category).sum ≤ 8) (hM : sv_Ct G M_X2_noteChange d2 [.ref (sv_ad G 14 i j), v0, v1] M none M1) (kk : sw_W G K nL (pc + 3) lo rest M1) : sw_W G K nL pc lo (v1 :: v0 :: .ref (sv_ad G 14 i j) :: rest) M := sw_callVN (As := [v0, v1]) (n := 2) X mw_X2_noteChange (by omega) (by rfl) (by rfl) rfl (by decide +kernel) rfl wl_X1_120 wi_X2_noteChange wv_X2_noteChange hdd hd hw rfl hM kk
theorem wl_X1_124 : Cond.methodLink RX1 124 yX1_isBusy ∈ lw_g := lw_g_of (List.mem_append_right _ (List.mem_of_getElem? (i := 291) (by decide +kernel))) (by decide +kernel)
theorem ca_X1_124 (X : sv_X G K cc RX1 nL d) (hi : i < 8) {v0 v1 v2 : Value} {rv : Value} (hdd : d2 + 1 ≤ d) (hd : decode cc pc = .ok (.invokevirtual 124, 3)) (hw : (rest.map fun v => v.category).sum ≤ 8) (hM : sv_Ct G M_X1_isBusy d2 [.ref (sv_ad G 10 i 0), v0, v1, v2] M (some rv) M1) (kk : sw_W G K nL (pc + 3) lo (rv :: rest) M1) : sw_W G K nL pc lo (v2 :: v1 :: v0 :: .ref (sv_ad G 10 i 0) :: rest) M := sw_callV (As := [v0, v1, v2]) (n := 3) X mw_X1_isBusy (by omega) (by rfl) (by rfl) rfl (by decide +kernel) rfl wl_X1_124 wi_X1_isBusy wv_X1_isBusy hdd hd hw rfl hM kk
theorem wl_X1_127 : Cond.methodLinkNest RX1 127 yX2_lockMode "SavepointStore" ∈ lw_n := lw_n_of (List.mem_append_right _ (List.mem_of_getElem? (i := 241) (by decide +kernel))) rfl
theorem ca_X1_127 (X : sv_X G K cc RX1 nL d) (hi : i < 8) (hj : j < 3) {v0 : Value} {rv : Value} (hdd : d2 + 1 ≤ d) (hd : decode cc pc = .ok (.invokevirtual 127, 3)) (hw : (rest.map fun v => v.category).sum ≤ 8) (hM : sv_Ct G M_X2_lockMode d2 [.ref (sv_ad G 14 i j), v0] M (some rv) M1) (kk : sw_W G K nL (pc + 3) lo (rv :: rest) M1) : sw_W G K nL pc lo (v0 :: .ref (sv_ad G 14 i j) :: rest) M := sw_callVN (As := [v0]) (n := 1) X mw_X2_lockMode (by omega) (by rfl) (by rfl) rfl (by decide +kernel) rfl wl_X1_127 wi_X2_lockMode wv_X2_lockMode hdd hd hw rfl hM kk
theorem wl_X1_130 : Cond.methodLinkNest RX1 130 yX2_setLockMode "SavepointStore" ∈ lw_n := lw_n_of (List.mem_append_right _ (List.mem_of_getElem? (i := 292) (by decide +kernel))) rfl
theorem ca_X1_130 (X : sv_X G K cc RX1 nL d) (hi : i < 8) (hj : j < 3) {v0 v1 : Value} (hdd : d2 + 1 ≤ d) (hd : decode cc pc = .ok (.invokevirtual 130, 3)) (hw : (rest.map fun v => v.category).sum ≤ 8) (hM : sv_Ct G M_X2_setLockMode d2 [.ref (sv_ad G 14 i j), v0, v1] M none M1) (kk : sw_W G K nL (pc + 3) lo rest M1) : sw_W G K nL pc lo (v1 :: v0 :: .ref (sv_ad G 14 i j) :: rest) M := sw_callVN (As := [v0, v1]) (n := 2) X mw_X2_setLockMode (by omega) (by rfl) (by rfl) rfl (by decide +kernel) rfl wl_X1_130 wi_X2_setLockMode wv_X2_setLockMode hdd hd hw rfl hM kk
theorem wl_X1_133 : Cond.methodLinkNest RX1 133 yX2_forgetChangesSince "SavepointStore" ∈ lw_n := lw_n_of (List.mem_append_right _ (List.mem_of_getElem? (i := 304) (by decide +kernel))) rfl
theorem ca_X1_133 (X : sv_X G K cc RX1 nL d) (hi : i < 8) (hj : j < 3) {v0 : Value} (hdd : d2 + 1 ≤ d) (hd : decode cc pc = .ok (.invokevirtual 133, 3)) (hw : (rest.map fun v => v.category).sum ≤ 8) (hM : sv_Ct G M_X2_forgetChangesSince d2 [.ref (sv_ad G 14 i j), v0] M none M1) (kk : sw_W G K nL (pc + 3) lo rest M1) : sw_W G K nL pc lo (v0 :: .ref (sv_ad G 14 i j) :: rest) M := sw_callVN (As := [v0]) (n := 1) X mw_X2_forgetChangesSince (by omega) (by rfl) (by rfl) rfl (by decide +kernel) rfl wl_X1_133 wi_X2_forgetChangesSince wv_X2_forgetChangesSince hdd hd hw rfl hM kk
theorem wl_X1_136 : Cond.methodLinkNest RX1 136 yX2_undoLocks "SavepointStore" ∈ lw_n := lw_n_of (List.mem_append_right _ (List.mem_of_getElem? (i := 308) (by decide +kernel))) rfl
theorem ca_X1_136 (X : sv_X G K cc RX1 nL d) (hi : i < 8) (hj : j < 3) {v0 : Value} (hdd : d2 + 1 ≤ d) (hd : decode cc pc = .ok (.invokevirtual 136, 3)) (hw : (rest.map fun v => v.category).sum ≤ 8) (hM : sv_Ct G M_X2_undoLocks d2 [.ref (sv_ad G 14 i j), v0] M none M1) (kk : sw_W G K nL (pc + 3) lo rest M1) : sw_W G K nL pc lo (v0 :: .ref (sv_ad G 14 i j) :: rest) M := sw_callVN (As := [v0]) (n := 1) X mw_X2_undoLocks (by omega) (by rfl) (by rfl) rfl (by decide +kernel) rfl wl_X1_136 wi_X2_undoLocks wv_X2_undoLocks hdd hd hw rfl hM kk
theorem wl_X2_9 : Cond.fieldLink RX2 9 "SavepointStore$Transaction" (TX2 2).2.1 (TX2 2).2.2.1 ∈ lw_g := lw_g_of (List.mem_append_right _ (List.mem_of_getElem? (i := 32) (by decide +kernel))) (by decide +kernel)
theorem gf_X2_9 (X : sv_X G K cc RX2 nL d) (hi : i < 8) (hj : j < 3) (hd : decode cc pc = .ok (.getfield 9, 3)) (kk : sw_W G K nL (pc + 3) lo (.ref (sv_ad G 15 i j) :: rest) M) : sw_W G K nL pc lo (.ref (sv_ad G 14 i j) :: rest) M := sw_get X (by omega) (by rfl) (by rfl) inX2 2 (by decide) wl_X2_9 rfl (by rfl) hd kk
theorem wl_X2_15 : Cond.fieldLink RX2 15 "SavepointStore$Transaction" (TX2 3).2.1 (TX2 3).2.2.1 ∈ lw_g := lw_g_of (List.mem_append_right _ (List.mem_of_getElem? (i := 33) (by decide +kernel))) (by decide +kernel)
theorem gf_X2_15 (X : sv_X G K cc RX2 nL d) (hi : i < 8) (hj : j < 3) (hd : decode cc pc = .ok (.getfield 15, 3)) (kk : sw_W G K nL (pc + 3) lo (.ref (sv_ad G 16 i j) :: rest) M) : sw_W G K nL pc lo (.ref (sv_ad G 14 i j) :: rest) M := sw_get X (by omega) (by rfl) (by rfl) inX2 3 (by decide) wl_X2_15 rfl (by rfl) hd kk
theorem wl_X2_18 : Cond.fieldLink RX2 18 "SavepointStore$Transaction" (TX2 4).2.1 (TX2 4).2.2.1 ∈ lw_g := lw_g_of (List.mem_append_right _ (List.mem_of_getElem? (i := 36) (by decide +kernel))) (by decide +kernel)
theorem gf_X2_18 (X : sv_X G K cc RX2 nL d) (hi : i < 8) (hj : j < 3) (hd : decode cc pc = .ok (.getfield 18, 3)) (kk : sw_W G K nL (pc + 3) lo (.ref (sv_ad G 17 i j) :: rest) M) : sw_W G K nL pc lo (.ref (sv_ad G 14 i j) :: rest) M := sw_get X (by omega) (by rfl) (by rfl) inX2 4 (by decide) wl_X2_18 rfl (by rfl) hd kk
theorem wl_X2_21 : Cond.fieldLink RX2 21 "SavepointStore$Transaction" (TX2 5).2.1 (TX2 5).2.2.1 ∈ lw_g := lw_g_of (List.mem_append_right _ (List.mem_of_getElem? (i := 37) (by decide +kernel))) (by decide +kernel)
theorem gf_X2_21 (X : sv_X G K cc RX2 nL d) (hi : i < 8) (hj : j < 3) (hd : decode cc pc = .ok (.getfield 21, 3)) (kk : sw_W G K nL (pc + 3) lo (.ref (sv_ad G 18 i j) :: rest) M) : sw_W G K nL pc lo (.ref (sv_ad G 14 i j) :: rest) M := sw_get X (by omega) (by rfl) (by rfl) inX2 5 (by decide) wl_X2_21 rfl (by rfl) hd kk
theorem wl_X2_24 : Cond.fieldLink RX2 24 "SavepointStore$Transaction" (TX2 0).2.1 (TX2 0).2.2.1 ∈ lw_g := lw_g_of (List.mem_append_right _ (List.mem_of_getElem? (i := 29) (by decide +kernel))) (by decide +kernel)
theorem gf_X2_24 (X : sv_X G K cc RX2 nL d) (hi : i < 8) (hj : j < 3) (hd : decode cc pc = .ok (.getfield 24, 3)) (kk : sw_W G K nL (pc + 3) lo (.int (M i 14 j 0) :: rest) M) : sw_W G K nL pc lo (.ref (sv_ad G 14 i j) :: rest) M := sw_get X (by omega) (by rfl) (by rfl) inX2 0 (by decide) wl_X2_24 rfl (by rfl) hd kk
theorem pf_X2_24 (X : sv_X G K cc RX2 nL d) (hi : i < 8) (hj : j < 3) {x : Int32} (hd : decode cc pc = .ok (.putfield 24, 3)) (kk : sw_W G K nL (pc + 3) lo rest (sv_up M i 14 j 0 x)) : sw_W G K nL pc lo (.int x :: .ref (sv_ad G 14 i j) :: rest) M := sw_put X (by omega) (by rfl) (by rfl) inX2 tyX2 tyX2_ok nmX2 0 (by decide) wl_X2_24 rfl (by decide +kernel) (tyX2_ok 0 (by decide)) rfl rfl (by show 0 < 6; decide) (by simp only [sv_ent, sv_up_at]; rfl) hd kk
theorem wl_X2_28 : Cond.methodLink RX2 28 Lib.Math.max.name ∈ lw_g := lw_g_of (List.mem_append_right _ (List.mem_of_getElem? (i := 138) (by decide +kernel))) (by decide +kernel)
theorem wl_X2_34 : Cond.fieldLink RX2 34 "SavepointStore$Transaction" (TX2 1).2.1 (TX2 1).2.2.1 ∈ lw_g := lw_g_of (List.mem_append_right _ (List.mem_of_getElem? (i := 31) (by decide +kernel))) (by decide +kernel)
theorem gf_X2_34 (X : sv_X G K cc RX2 nL d) (hi : i < 8) (hj : j < 3) (hd : decode cc pc = .ok (.getfield 34, 3)) (kk : sw_W G K nL (pc + 3) lo (.int (M i 14 j 1) :: rest) M) : sw_W G K nL pc lo (.ref (sv_ad G 14 i j) :: rest) M := sw_get X (by omega) (by rfl) (by rfl) inX2 1 (by decide) wl_X2_34 rfl (by rfl) hd kk
theorem pf_X2_34 (X : sv_X G K cc RX2 nL d) (hi : i < 8) (hj : j < 3) {x : Int32} (hd : decode cc pc = .ok (.putfield 34, 3)) (kk : sw_W G K nL (pc + 3) lo rest (sv_up M i 14 j 1 x)) : sw_W G K nL pc lo (.int x :: .ref (sv_ad G 14 i j) :: rest) M := sw_put X (by omega) (by rfl) (by rfl) inX2 tyX2 tyX2_ok nmX2 1 (by decide) wl_X2_34 rfl (by decide +kernel) (tyX2_ok 1 (by decide)) rfl rfl (by show 1 < 6; decide) (by simp only [sv_ent, sv_up_at]; rfl) hd kk
theorem wl_X2_37 : Cond.methodLink RX2 37 yX2_savepointCount ∈ lw_g := lw_g_of (List.mem_append_right _ (List.mem_of_getElem? (i := 219) (by decide +kernel))) (by decide +kernel)
theorem ca_X2_37 (X : sv_X G K cc RX2 nL d) (hi : i < 8) (hj : j < 3) {rv : Value} (hdd : d2 + 1 ≤ d) (hd : decode cc pc = .ok (.invokevirtual 37, 3)) (hw : (rest.map fun v => v.category).sum ≤ 8) (hM : sv_Ct G M_X2_savepointCount d2 [.ref (sv_ad G 14 i j)] M (some rv) M1) (kk : sw_W G K nL (pc + 3) lo (rv :: rest) M1) : sw_W G K nL pc lo (.ref (sv_ad G 14 i j) :: rest) M := sw_callV (As := []) (n := 0) X mw_X2_savepointCount (by omega) (by rfl) (by rfl) rfl (by decide +kernel) rfl wl_X2_37 wi_X2_savepointCount wv_X2_savepointCount hdd hd hw rfl hM kk
theorem wl_X2_41 : Cond.methodLink RX2 41 yX2_lockMode ∈ lw_g := lw_g_of (List.mem_append_right _ (List.mem_of_getElem? (i := 186) (by decide +kernel))) (by decide +kernel)
theorem ca_X2_41 (X : sv_X G K cc RX2 nL d) (hi : i < 8) (hj : j < 3) {v0 : Value} {rv : Value} (hdd : d2 + 1 ≤ d) (hd : decode cc pc = .ok (.invokevirtual 41, 3)) (hw : (rest.map fun v => v.category).sum ≤ 8) (hM : sv_Ct G M_X2_lockMode d2 [.ref (sv_ad G 14 i j), v0] M (some rv) M1) (kk : sw_W G K nL (pc + 3) lo (rv :: rest) M1) : sw_W G K nL pc lo (v0 :: .ref (sv_ad G 14 i j) :: rest) M := sw_callV (As := [v0]) (n := 1) X mw_X2_lockMode (by omega) (by rfl) (by rfl) rfl (by decide +kernel) rfl wl_X2_41 wi_X2_lockMode wv_X2_lockMode hdd hd hw rfl hM kk
theorem wl_X2_45 : Cond.methodLink RX2 45 yX2_noteChangeAt ∈ lw_g := lw_g_of (List.mem_append_right _ (List.mem_of_getElem? (i := 316) (by decide +kernel))) (by decide +kernel)
theorem ca_X2_45 (X : sv_X G K cc RX2 nL d) (hi : i < 8) (hj : j < 3) {v0 v1 v2 : Value} (hdd : d2 + 1 ≤ d) (hd : decode cc pc = .ok (.invokevirtual 45, 3)) (hw : (rest.map fun v => v.category).sum ≤ 8) (hM : sv_Ct G M_X2_noteChangeAt d2 [.ref (sv_ad G 14 i j), v0, v1, v2] M none M1) (kk : sw_W G K nL (pc + 3) lo rest M1) : sw_W G K nL pc lo (v2 :: v1 :: v0 :: .ref (sv_ad G 14 i j) :: rest) M := sw_callV (As := [v0, v1, v2]) (n := 3) X mw_X2_noteChangeAt (by omega) (by rfl) (by rfl) rfl (by decide +kernel) rfl wl_X2_45 wi_X2_noteChangeAt wv_X2_noteChangeAt hdd hd hw rfl hM kk
theorem wl_X2_49 : Cond.methodLink RX2 49 Lib.Math.min.name ∈ lw_g := lw_g_of (List.mem_append_right _ (List.mem_of_getElem? (i := 320) (by decide +kernel))) (by decide +kernel)
theorem wl_X2_52 : Cond.methodLink RX2 52 arraycopyName ∈ lw_g := lw_g_of (List.mem_append_right _ (List.mem_of_getElem? (i := 272) (by decide +kernel))) (by decide +kernel)
theorem wl_X3_11 : Cond.methodLinkNest RX3 11 yX1_init "SavepointStore" ∈ lw_n := lw_n_of (List.mem_append_right _ (List.mem_of_getElem? (i := 18) (by decide +kernel))) rfl
theorem wl_X3_12 : Cond.fieldLink RX3 12 "SavepointStore" (TX3 0).2.1 (TX3 0).2.2.1 ∈ lw_g := lw_g_of (List.mem_append_right _ (List.mem_of_getElem? (i := 83) (by decide +kernel))) (by decide +kernel)
theorem gf_X3_12 (X : sv_X G K cc RX3 nL d) (hd : decode cc pc = .ok (.getfield 12, 3)) (kk : sw_W G K nL (pc + 3) lo (.ref (sv_ad G 10 0 0) :: rest) M) : sw_W G K nL pc lo (.ref (sv_ad G 0 8 0) :: rest) M := sw_get X (by omega) (by rfl) (by rfl) inX3 0 (by decide) wl_X3_12 rfl (by rfl) hd kk
theorem wl_X3_16 : Cond.fieldLink RX3 16 "SavepointStore" (TX3 1).2.1 (TX3 1).2.2.1 ∈ lw_g := lw_g_of (List.mem_append_right _ (List.mem_of_getElem? (i := 84) (by decide +kernel))) (by decide +kernel)
theorem gf_X3_16 (X : sv_X G K cc RX3 nL d) (hd : decode cc pc = .ok (.getfield 16, 3)) (kk : sw_W G K nL (pc + 3) lo (.ref (sv_ad G 10 1 0) :: rest) M) : sw_W G K nL pc lo (.ref (sv_ad G 0 8 0) :: rest) M := sw_get X (by omega) (by rfl) (by rfl) inX3 1 (by decide) wl_X3_16 rfl (by rfl) hd kk
theorem wl_X3_19 : Cond.fieldLink RX3 19 "SavepointStore" (TX3 3).2.1 (TX3 3).2.2.1 ∈ lw_g := lw_g_of (List.mem_append_right _ (List.mem_of_getElem? (i := 85) (by decide +kernel))) (by decide +kernel)
theorem gf_X3_19 (X : sv_X G K cc RX3 nL d) (hd : decode cc pc = .ok (.getfield 19, 3)) (kk : sw_W G K nL (pc + 3) lo (.ref (sv_ad G 1 8 0) :: rest) M) : sw_W G K nL pc lo (.ref (sv_ad G 0 8 0) :: rest) M := sw_get X (by omega) (by rfl) (by rfl) inX3 3 (by decide) wl_X3_19 rfl (by rfl) hd kk
theorem wl_X3_25 : Cond.methodLinkNest RX3 25 yX0_init "SavepointStore" ∈ lw_n := lw_n_of (List.mem_append_right _ (List.mem_of_getElem? (i := 72) (by decide +kernel))) rfl
theorem wl_X3_26 : Cond.fieldLink RX3 26 "SavepointStore" (TX3 6).2.1 (TX3 6).2.2.1 ∈ lw_g := lw_g_of (List.mem_append_right _ (List.mem_of_getElem? (i := 88) (by decide +kernel))) (by decide +kernel)
theorem gf_X3_26 (X : sv_X G K cc RX3 nL d) (hd : decode cc pc = .ok (.getfield 26, 3)) (kk : sw_W G K nL (pc + 3) lo (.ref (sv_ad G 2 8 0) :: rest) M) : sw_W G K nL pc lo (.ref (sv_ad G 0 8 0) :: rest) M := sw_get X (by omega) (by rfl) (by rfl) inX3 6 (by decide) wl_X3_26 rfl (by rfl) hd kk
theorem wl_X3_30 : Cond.methodLink RX3 30 yX3_rememberState ∈ lw_g := lw_g_of (List.mem_append_right _ (List.mem_of_getElem? (i := 253) (by decide +kernel))) (by decide +kernel)
theorem ca_X3_30 (X : sv_X G K cc RX3 nL d) (hdd : d2 + 1 ≤ d) (hd : decode cc pc = .ok (.invokevirtual 30, 3)) (hw : (rest.map fun v => v.category).sum ≤ 8) (hM : sv_Ct G M_X3_rememberState d2 [.ref (sv_ad G 0 8 0)] M none M1) (kk : sw_W G K nL (pc + 3) lo rest M1) : sw_W G K nL pc lo (.ref (sv_ad G 0 8 0) :: rest) M := sw_callV (As := []) (n := 0) X mw_X3_rememberState (by omega) (by rfl) (by rfl) rfl (by decide +kernel) rfl wl_X3_30 wi_X3_rememberState wv_X3_rememberState hdd hd hw rfl hM kk
theorem wl_X3_33 : Cond.fieldLinkNest RX3 33 "SavepointStore$State" (TX1 0).2.1 (TX1 0).2.2.1 "SavepointStore" ∈ lw_n := lw_n_of (List.mem_append_right _ (List.mem_of_getElem? (i := 53) (by decide +kernel))) rfl
theorem gf_X3_33 (X : sv_X G K cc RX3 nL d) (hi : i < 8) (hd : decode cc pc = .ok (.getfield 33, 3)) (kk : sw_W G K nL (pc + 3) lo (.int (M i 10 0 0) :: rest) M) : sw_W G K nL pc lo (.ref (sv_ad G 10 i 0) :: rest) M := sw_getN X (by omega) (by rfl) (by rfl) inX1 0 (by decide) wl_X3_33 rfl (by rfl) hd kk
theorem pf_X3_33 (X : sv_X G K cc RX3 nL d) (hi : i < 8) {x : Int32} (hz : narrow .boolean (.int x) = .int x) (hz2 : fits .boolean (.int x) = true) (hd : decode cc pc = .ok (.putfield 33, 3)) (kk : sw_W G K nL (pc + 3) lo rest (sv_up M i 10 0 0 x)) : sw_W G K nL pc lo (.int x :: .ref (sv_ad G 10 i 0) :: rest) M := sw_putN X (by omega) (by rfl) (by rfl) inX1 tyX1 tyX1_ok nmX1 0 (by decide) wl_X3_33 rfl (by decide +kernel) (tyX1_ok 0 (by decide)) hz hz2 (by show 0 < 4; decide) (by simp only [sv_ent, sv_up_at]; rfl) hd kk
theorem wl_X3_37 : Cond.methodLink RX3 37 yX3_recordUnlessError ∈ lw_g := lw_g_of (List.mem_append_right _ (List.mem_of_getElem? (i := 323) (by decide +kernel))) (by decide +kernel)
theorem ca_X3_37 (X : sv_X G K cc RX3 nL d) {v0 : Value} {rv : Value} (hdd : d2 + 1 ≤ d) (hd : decode cc pc = .ok (.invokevirtual 37, 3)) (hw : (rest.map fun v => v.category).sum ≤ 8) (hM : sv_Ct G M_X3_recordUnlessError d2 [.ref (sv_ad G 0 8 0), v0] M (some rv) M1) (kk : sw_W G K nL (pc + 3) lo (rv :: rest) M1) : sw_W G K nL pc lo (v0 :: .ref (sv_ad G 0 8 0) :: rest) M := sw_callV (As := [v0]) (n := 1) X mw_X3_recordUnlessError (by omega) (by rfl) (by rfl) rfl (by decide +kernel) rfl wl_X3_37 wi_X3_recordUnlessError wv_X3_recordUnlessError hdd hd hw rfl hM kk
theorem wl_X3_41 : Cond.methodLinkNest RX3 41 yX1_openTransaction "SavepointStore" ∈ lw_n := lw_n_of (List.mem_append_right _ (List.mem_of_getElem? (i := 456) (by decide +kernel))) rfl
theorem ca_X3_41 (X : sv_X G K cc RX3 nL d) (hi : i < 8) {v0 : Value} {rv : Value} (hdd : d2 + 1 ≤ d) (hd : decode cc pc = .ok (.invokevirtual 41, 3)) (hw : (rest.map fun v => v.category).sum ≤ 8) (hM : sv_Ct G M_X1_openTransaction d2 [.ref (sv_ad G 10 i 0), v0] M (some rv) M1) (kk : sw_W G K nL (pc + 3) lo (rv :: rest) M1) : sw_W G K nL pc lo (v0 :: .ref (sv_ad G 10 i 0) :: rest) M := sw_callVN (As := [v0]) (n := 1) X mw_X1_openTransaction (by omega) (by rfl) (by rfl) rfl (by decide +kernel) rfl wl_X3_41 wi_X1_openTransaction wv_X1_openTransaction hdd hd hw rfl hM kk
theorem wl_X3_44 : Cond.methodLinkNest RX3 44 yX1_commitTransaction "SavepointStore" ∈ lw_n := lw_n_of (List.mem_append_right _ (List.mem_of_getElem? (i := 436) (by decide +kernel))) rfl
theorem ca_X3_44 (X : sv_X G K cc RX3 nL d) (hi : i < 8) {v0 : Value} {rv : Value} (hdd : d2 + 1 ≤ d) (hd : decode cc pc = .ok (.invokevirtual 44, 3)) (hw : (rest.map fun v => v.category).sum ≤ 8) (hM : sv_Ct G M_X1_commitTransaction d2 [.ref (sv_ad G 10 i 0), v0] M (some rv) M1) (kk : sw_W G K nL (pc + 3) lo (rv :: rest) M1) : sw_W G K nL pc lo (v0 :: .ref (sv_ad G 10 i 0) :: rest) M := sw_callVN (As := [v0]) (n := 1) X mw_X1_commitTransaction (by omega) (by rfl) (by rfl) rfl (by decide +kernel) rfl wl_X3_44 wi_X1_commitTransaction wv_X1_commitTransaction hdd hd hw rfl hM kk
theorem wl_X3_47 : Cond.methodLinkNest RX3 47 yX1_rollTransactionBack "SavepointStore" ∈ lw_n := lw_n_of (List.mem_append_right _ (List.mem_of_getElem? (i := 448) (by decide +kernel))) rfl
theorem ca_X3_47 (X : sv_X G K cc RX3 nL d) (hi : i < 8) {v0 : Value} {rv : Value} (hdd : d2 + 1 ≤ d) (hd : decode cc pc = .ok (.invokevirtual 47, 3)) (hw : (rest.map fun v => v.category).sum ≤ 8) (hM : sv_Ct G M_X1_rollTransactionBack d2 [.ref (sv_ad G 10 i 0), v0] M (some rv) M1) (kk : sw_W G K nL (pc + 3) lo (rv :: rest) M1) : sw_W G K nL pc lo (v0 :: .ref (sv_ad G 10 i 0) :: rest) M := sw_callVN (As := [v0]) (n := 1) X mw_X1_rollTransactionBack (by omega) (by rfl) (by rfl) rfl (by decide +kernel) rfl wl_X3_47 wi_X1_rollTransactionBack wv_X1_rollTransactionBack hdd hd hw rfl hM kk
theorem wl_X3_50 : Cond.methodLinkNest RX3 50 yX1_setSavepoint "SavepointStore" ∈ lw_n := lw_n_of (List.mem_append_right _ (List.mem_of_getElem? (i := 389) (by decide +kernel))) rfl
theorem ca_X3_50 (X : sv_X G K cc RX3 nL d) (hi : i < 8) {v0 v1 : Value} {rv : Value} (hdd : d2 + 1 ≤ d) (hd : decode cc pc = .ok (.invokevirtual 50, 3)) (hw : (rest.map fun v => v.category).sum ≤ 8) (hM : sv_Ct G M_X1_setSavepoint d2 [.ref (sv_ad G 10 i 0), v0, v1] M (some rv) M1) (kk : sw_W G K nL (pc + 3) lo (rv :: rest) M1) : sw_W G K nL pc lo (v1 :: v0 :: .ref (sv_ad G 10 i 0) :: rest) M := sw_callVN (As := [v0, v1]) (n := 2) X mw_X1_setSavepoint (by omega) (by rfl) (by rfl) rfl (by decide +kernel) rfl wl_X3_50 wi_X1_setSavepoint wv_X1_setSavepoint hdd hd hw rfl hM kk
theorem wl_X3_54 : Cond.methodLinkNest RX3 54 yX1_undoToName "SavepointStore" ∈ lw_n := lw_n_of (List.mem_append_right _ (List.mem_of_getElem? (i := 401) (by decide +kernel))) rfl
theorem ca_X3_54 (X : sv_X G K cc RX3 nL d) (hi : i < 8) {v0 v1 : Value} {rv : Value} (hdd : d2 + 1 ≤ d) (hd : decode cc pc = .ok (.invokevirtual 54, 3)) (hw : (rest.map fun v => v.category).sum ≤ 8) (hM : sv_Ct G M_X1_undoToName d2 [.ref (sv_ad G 10 i 0), v0, v1] M (some rv) M1) (kk : sw_W G K nL (pc + 3) lo (rv :: rest) M1) : sw_W G K nL pc lo (v1 :: v0 :: .ref (sv_ad G 10 i 0) :: rest) M := sw_callVN (As := [v0, v1]) (n := 2) X mw_X1_undoToName (by omega) (by rfl) (by rfl) rfl (by decide +kernel) rfl wl_X3_54 wi_X1_undoToName wv_X1_undoToName hdd hd hw rfl hM kk
theorem wl_X3_57 : Cond.methodLinkNest RX3 57 yX1_releaseName "SavepointStore" ∈ lw_n := lw_n_of (List.mem_append_right _ (List.mem_of_getElem? (i := 415) (by decide +kernel))) rfl
theorem ca_X3_57 (X : sv_X G K cc RX3 nL d) (hi : i < 8) {v0 v1 : Value} {rv : Value} (hdd : d2 + 1 ≤ d) (hd : decode cc pc = .ok (.invokevirtual 57, 3)) (hw : (rest.map fun v => v.category).sum ≤ 8) (hM : sv_Ct G M_X1_releaseName d2 [.ref (sv_ad G 10 i 0), v0, v1] M (some rv) M1) (kk : sw_W G K nL (pc + 3) lo (rv :: rest) M1) : sw_W G K nL pc lo (v1 :: v0 :: .ref (sv_ad G 10 i 0) :: rest) M := sw_callVN (As := [v0, v1]) (n := 2) X mw_X1_releaseName (by omega) (by rfl) (by rfl) rfl (by decide +kernel) rfl wl_X3_57 wi_X1_releaseName wv_X1_releaseName hdd hd hw rfl hM kk
theorem wl_X3_60 : Cond.methodLinkNest RX3 60 yX1_readKey "SavepointStore" ∈ lw_n := lw_n_of (List.mem_append_right _ (List.mem_of_getElem? (i := 273) (by decide +kernel))) rfl
theorem ca_X3_60 (X : sv_X G K cc RX3 nL d) (hi : i < 8) {v0 v1 : Value} {rv : Value} (hdd : d2 + 1 ≤ d) (hd : decode cc pc = .ok (.invokevirtual 60, 3)) (hw : (rest.map fun v => v.category).sum ≤ 8) (hM : sv_Ct G M_X1_readKey d2 [.ref (sv_ad G 10 i 0), v0, v1] M (some rv) M1) (kk : sw_W G K nL (pc + 3) lo (rv :: rest) M1) : sw_W G K nL pc lo (v1 :: v0 :: .ref (sv_ad G 10 i 0) :: rest) M := sw_callVN (As := [v0, v1]) (n := 2) X mw_X1_readKey (by omega) (by rfl) (by rfl) rfl (by decide +kernel) rfl wl_X3_60 wi_X1_readKey wv_X1_readKey hdd hd hw rfl hM kk
theorem wl_X3_63 : Cond.methodLinkNest RX3 63 yX1_writeKey "SavepointStore" ∈ lw_n := lw_n_of (List.mem_append_right _ (List.mem_of_getElem? (i := 350) (by decide +kernel))) rfl
theorem ca_X3_63 (X : sv_X G K cc RX3 nL d) (hi : i < 8) {v0 v1 v2 : Value} {rv : Value} (hdd : d2 + 1 ≤ d) (hd : decode cc pc = .ok (.invokevirtual 63, 3)) (hw : (rest.map fun v => v.category).sum ≤ 8) (hM : sv_Ct G M_X1_writeKey d2 [.ref (sv_ad G 10 i 0), v0, v1, v2] M (some rv) M1) (kk : sw_W G K nL (pc + 3) lo (rv :: rest) M1) : sw_W G K nL pc lo (v2 :: v1 :: v0 :: .ref (sv_ad G 10 i 0) :: rest) M := sw_callVN (As := [v0, v1, v2]) (n := 3) X mw_X1_writeKey (by omega) (by rfl) (by rfl) rfl (by decide +kernel) rfl wl_X3_63 wi_X1_writeKey wv_X1_writeKey hdd hd hw rfl hM kk
theorem wl_X3_67 : Cond.methodLinkNest RX3 67 yX1_eraseKey "SavepointStore" ∈ lw_n := lw_n_of (List.mem_append_right _ (List.mem_of_getElem? (i := 334) (by decide +kernel))) rfl
theorem ca_X3_67 (X : sv_X G K cc RX3 nL d) (hi : i < 8) {v0 v1 : Value} {rv : Value} (hdd : d2 + 1 ≤ d) (hd : decode cc pc = .ok (.invokevirtual 67, 3)) (hw : (rest.map fun v => v.category).sum ≤ 8) (hM : sv_Ct G M_X1_eraseKey d2 [.ref (sv_ad G 10 i 0), v0, v1] M (some rv) M1) (kk : sw_W G K nL (pc + 3) lo (rv :: rest) M1) : sw_W G K nL pc lo (v1 :: v0 :: .ref (sv_ad G 10 i 0) :: rest) M := sw_callVN (As := [v0, v1]) (n := 2) X mw_X1_eraseKey (by omega) (by rfl) (by rfl) rfl (by decide +kernel) rfl wl_X3_67 wi_X1_eraseKey wv_X1_eraseKey hdd hd hw rfl hM kk
theorem wl_X3_70 : Cond.methodLinkNest RX3 70 yX1_shiftKeys "SavepointStore" ∈ lw_n := lw_n_of (List.mem_append_right _ (List.mem_of_getElem? (i := 361) (by decide +kernel))) rfl
theorem ca_X3_70 (X : sv_X G K cc RX3 nL d) (hi : i < 8) {v0 v1 v2 : Value} {rv : Value} (hdd : d2 + 1 ≤ d) (hd : decode cc pc = .ok (.invokevirtual 70, 3)) (hw : (rest.map fun v => v.category).sum ≤ 8) (hM : sv_Ct G M_X1_shiftKeys d2 [.ref (sv_ad G 10 i 0), v0, v1, v2] M (some rv) M1) (kk : sw_W G K nL (pc + 3) lo (rv :: rest) M1) : sw_W G K nL pc lo (v2 :: v1 :: v0 :: .ref (sv_ad G 10 i 0) :: rest) M := sw_callVN (As := [v0, v1, v2]) (n := 3) X mw_X1_shiftKeys (by omega) (by rfl) (by rfl) rfl (by decide +kernel) rfl wl_X3_70 wi_X1_shiftKeys wv_X1_shiftKeys hdd hd hw rfl hM kk
theorem wl_X3_73 : Cond.methodLinkNest RX3 73 yX1_moveAmount "SavepointStore" ∈ lw_n := lw_n_of (List.mem_append_right _ (List.mem_of_getElem? (i := 375) (by decide +kernel))) rfl
theorem ca_X3_73 (X : sv_X G K cc RX3 nL d) (hi : i < 8) {v0 v1 v2 v3 : Value} {rv : Value} (hdd : d2 + 1 ≤ d) (hd : decode cc pc = .ok (.invokevirtual 73, 3)) (hw : (rest.map fun v => v.category).sum ≤ 8) (hM : sv_Ct G M_X1_moveAmount d2 [.ref (sv_ad G 10 i 0), v0, v1, v2, v3] M (some rv) M1) (kk : sw_W G K nL (pc + 3) lo (rv :: rest) M1) : sw_W G K nL pc lo (v3 :: v2 :: v1 :: v0 :: .ref (sv_ad G 10 i 0) :: rest) M := sw_callVN (As := [v0, v1, v2, v3]) (n := 4) X mw_X1_moveAmount (by omega) (by rfl) (by rfl) rfl (by decide +kernel) rfl wl_X3_73 wi_X1_moveAmount wv_X1_moveAmount hdd hd hw rfl hM kk
theorem wl_X3_96 : Cond.methodLink RX3 96 yX3_isError ∈ lw_g := lw_g_of (List.mem_append_right _ (List.mem_of_getElem? (i := 327) (by decide +kernel))) (by decide +kernel)
theorem ca_X3_96 (X : sv_X G K cc RX3 nL d) {v0 : Value} {rv : Value} (hdd : d2 + 1 ≤ d) (hd : decode cc pc = .ok (.invokestatic 96, 3)) (hw : (rest.map fun v => v.category).sum ≤ 8) (hM : sv_Ct G M_X3_isError d2 [v0] M (some rv) M1) (kk : sw_W G K nL (pc + 3) lo (rv :: rest) M1) : sw_W G K nL pc lo (v0 :: rest) M := sw_callS (As := [v0]) (n := 1) X mw_X3_isError (by decide +kernel) rfl wl_X3_96 ws_X3_isError hdd hd hw rfl hM kk
theorem wl_X3_99 : Cond.fieldLink RX3 99 "SavepointStore" (TX3 5).2.1 (TX3 5).2.2.1 ∈ lw_g := lw_g_of (List.mem_append_right _ (List.mem_of_getElem? (i := 87) (by decide +kernel))) (by decide +kernel)
theorem gf_X3_99 (X : sv_X G K cc RX3 nL d) (hd : decode cc pc = .ok (.getfield 99, 3)) (kk : sw_W G K nL (pc + 3) lo (.int (M 8 0 0 5) :: rest) M) : sw_W G K nL pc lo (.ref (sv_ad G 0 8 0) :: rest) M := sw_get X (by omega) (by rfl) (by rfl) inX3 5 (by decide) wl_X3_99 rfl (by rfl) hd kk
theorem pf_X3_99 (X : sv_X G K cc RX3 nL d) {x : Int32} (hd : decode cc pc = .ok (.putfield 99, 3)) (kk : sw_W G K nL (pc + 3) lo rest (sv_up M 8 0 0 5 x)) : sw_W G K nL pc lo (.int x :: .ref (sv_ad G 0 8 0) :: rest) M := sw_put X (by omega) (by rfl) (by rfl) inX3 tyX3 tyX3_ok nmX3 5 (by decide) wl_X3_99 rfl (by decide +kernel) (tyX3_ok 5 (by decide)) rfl rfl (by show 5 < 7; decide) (by simp only [sv_ent, sv_up_at]; rfl) hd kk
theorem wl_X3_102 : Cond.methodLink RX3 102 yX3_slotBehindHistory ∈ lw_g := lw_g_of (List.mem_append_right _ (List.mem_of_getElem? (i := 257) (by decide +kernel))) (by decide +kernel)
theorem ca_X3_102 (X : sv_X G K cc RX3 nL d) {rv : Value} (hdd : d2 + 1 ≤ d) (hd : decode cc pc = .ok (.invokevirtual 102, 3)) (hw : (rest.map fun v => v.category).sum ≤ 8) (hM : sv_Ct G M_X3_slotBehindHistory d2 [.ref (sv_ad G 0 8 0)] M (some rv) M1) (kk : sw_W G K nL (pc + 3) lo (rv :: rest) M1) : sw_W G K nL pc lo (.ref (sv_ad G 0 8 0) :: rest) M := sw_callV (As := []) (n := 0) X mw_X3_slotBehindHistory (by omega) (by rfl) (by rfl) rfl (by decide +kernel) rfl wl_X3_102 wi_X3_slotBehindHistory wv_X3_slotBehindHistory hdd hd hw rfl hM kk
theorem wl_X3_105 : Cond.methodLinkNest RX3 105 yX1_copyFrom "SavepointStore" ∈ lw_n := lw_n_of (List.mem_append_right _ (List.mem_of_getElem? (i := 261) (by decide +kernel))) rfl
theorem ca_X3_105 (X : sv_X G K cc RX3 nL d) (hi : i < 8) {v0 : Value} (hdd : d2 + 1 ≤ d) (hd : decode cc pc = .ok (.invokevirtual 105, 3)) (hw : (rest.map fun v => v.category).sum ≤ 8) (hM : sv_Ct G M_X1_copyFrom d2 [.ref (sv_ad G 10 i 0), v0] M none M1) (kk : sw_W G K nL (pc + 3) lo rest M1) : sw_W G K nL pc lo (v0 :: .ref (sv_ad G 10 i 0) :: rest) M := sw_callVN (As := [v0]) (n := 1) X mw_X1_copyFrom (by omega) (by rfl) (by rfl) rfl (by decide +kernel) rfl wl_X3_105 wi_X1_copyFrom wv_X1_copyFrom hdd hd hw rfl hM kk
theorem wl_X3_112 : Cond.methodLinkNest RX3 112 yX1_valueCount "SavepointStore" ∈ lw_n := lw_n_of (List.mem_append_right _ (List.mem_of_getElem? (i := 149) (by decide +kernel))) rfl
theorem ca_X3_112 (X : sv_X G K cc RX3 nL d) (hi : i < 8) {rv : Value} (hdd : d2 + 1 ≤ d) (hd : decode cc pc = .ok (.invokevirtual 112, 3)) (hw : (rest.map fun v => v.category).sum ≤ 8) (hM : sv_Ct G M_X1_valueCount d2 [.ref (sv_ad G 10 i 0)] M (some rv) M1) (kk : sw_W G K nL (pc + 3) lo (rv :: rest) M1) : sw_W G K nL pc lo (.ref (sv_ad G 10 i 0) :: rest) M := sw_callVN (As := []) (n := 0) X mw_X1_valueCount (by omega) (by rfl) (by rfl) rfl (by decide +kernel) rfl wl_X3_112 wi_X1_valueCount wv_X1_valueCount hdd hd hw rfl hM kk
theorem wl_X3_115 : Cond.methodLink RX3 115 yX3_isKey ∈ lw_g := lw_g_of (List.mem_append_right _ (List.mem_of_getElem? (i := 119) (by decide +kernel))) (by decide +kernel)
theorem ca_X3_115 (X : sv_X G K cc RX3 nL d) {v0 : Value} {rv : Value} (hdd : d2 + 1 ≤ d) (hd : decode cc pc = .ok (.invokestatic 115, 3)) (hw : (rest.map fun v => v.category).sum ≤ 8) (hM : sv_Ct G M_X3_isKey d2 [v0] M (some rv) M1) (kk : sw_W G K nL (pc + 3) lo (rv :: rest) M1) : sw_W G K nL pc lo (v0 :: rest) M := sw_callS (As := [v0]) (n := 1) X mw_X3_isKey (by decide +kernel) rfl wl_X3_115 ws_X3_isKey hdd hd hw rfl hM kk
theorem wl_X3_118 : Cond.fieldLinkNest RX3 118 "SavepointStore$State" (TX1 1).2.1 (TX1 1).2.2.1 "SavepointStore" ∈ lw_n := lw_n_of (List.mem_append_right _ (List.mem_of_getElem? (i := 55) (by decide +kernel))) rfl
theorem gf_X3_118 (X : sv_X G K cc RX3 nL d) (hi : i < 8) (hd : decode cc pc = .ok (.getfield 118, 3)) (kk : sw_W G K nL (pc + 3) lo (.ref (sv_ad G 11 i 0) :: rest) M) : sw_W G K nL pc lo (.ref (sv_ad G 10 i 0) :: rest) M := sw_getN X (by omega) (by rfl) (by rfl) inX1 1 (by decide) wl_X3_118 rfl (by rfl) hd kk
theorem wl_X3_122 : Cond.methodLinkNest RX3 122 yX1_committedValue "SavepointStore" ∈ lw_n := lw_n_of (List.mem_append_right _ (List.mem_of_getElem? (i := 130) (by decide +kernel))) rfl
theorem ca_X3_122 (X : sv_X G K cc RX3 nL d) (hi : i < 8) {v0 : Value} {rv : Value} (hdd : d2 + 1 ≤ d) (hd : decode cc pc = .ok (.invokevirtual 122, 3)) (hw : (rest.map fun v => v.category).sum ≤ 8) (hM : sv_Ct G M_X1_committedValue d2 [.ref (sv_ad G 10 i 0), v0] M (some rv) M1) (kk : sw_W G K nL (pc + 3) lo (rv :: rest) M1) : sw_W G K nL pc lo (v0 :: .ref (sv_ad G 10 i 0) :: rest) M := sw_callVN (As := [v0]) (n := 1) X mw_X1_committedValue (by omega) (by rfl) (by rfl) rfl (by decide +kernel) rfl wl_X3_122 wi_X1_committedValue wv_X1_committedValue hdd hd hw rfl hM kk
theorem wl_X3_125 : Cond.methodLink RX3 125 yX3_isSession ∈ lw_g := lw_g_of (List.mem_append_right _ (List.mem_of_getElem? (i := 116) (by decide +kernel))) (by decide +kernel)
theorem ca_X3_125 (X : sv_X G K cc RX3 nL d) {v0 : Value} {rv : Value} (hdd : d2 + 1 ≤ d) (hd : decode cc pc = .ok (.invokestatic 125, 3)) (hw : (rest.map fun v => v.category).sum ≤ 8) (hM : sv_Ct G M_X3_isSession d2 [v0] M (some rv) M1) (kk : sw_W G K nL (pc + 3) lo (rv :: rest) M1) : sw_W G K nL pc lo (v0 :: rest) M := sw_callS (As := [v0]) (n := 1) X mw_X3_isSession (by decide +kernel) rfl wl_X3_125 ws_X3_isSession hdd hd hw rfl hM kk
theorem wl_X3_128 : Cond.fieldLinkNest RX3 128 "SavepointStore$State" (TX1 2).2.1 (TX1 2).2.2.1 "SavepointStore" ∈ lw_n := lw_n_of (List.mem_append_right _ (List.mem_of_getElem? (i := 57) (by decide +kernel))) rfl
theorem gf_X3_128 (X : sv_X G K cc RX3 nL d) (hi : i < 8) (hd : decode cc pc = .ok (.getfield 128, 3)) (kk : sw_W G K nL (pc + 3) lo (.ref (sv_ad G 12 i 0) :: rest) M) : sw_W G K nL pc lo (.ref (sv_ad G 10 i 0) :: rest) M := sw_getN X (by omega) (by rfl) (by rfl) inX1 2 (by decide) wl_X3_128 rfl (by rfl) hd kk
theorem wl_X3_132 : Cond.methodLinkNest RX3 132 yX2_lockMode "SavepointStore" ∈ lw_n := lw_n_of (List.mem_append_right _ (List.mem_of_getElem? (i := 122) (by decide +kernel))) rfl
theorem ca_X3_132 (X : sv_X G K cc RX3 nL d) (hi : i < 8) (hj : j < 3) {v0 : Value} {rv : Value} (hdd : d2 + 1 ≤ d) (hd : decode cc pc = .ok (.invokevirtual 132, 3)) (hw : (rest.map fun v => v.category).sum ≤ 8) (hM : sv_Ct G M_X2_lockMode d2 [.ref (sv_ad G 14 i j), v0] M (some rv) M1) (kk : sw_W G K nL (pc + 3) lo (rv :: rest) M1) : sw_W G K nL pc lo (v0 :: .ref (sv_ad G 14 i j) :: rest) M := sw_callVN (As := [v0]) (n := 1) X mw_X2_lockMode (by omega) (by rfl) (by rfl) rfl (by decide +kernel) rfl wl_X3_132 wi_X2_lockMode wv_X2_lockMode hdd hd hw rfl hM kk
theorem wl_X3_137 : Cond.methodLinkNest RX3 137 yX1_isBusy "SavepointStore" ∈ lw_n := lw_n_of (List.mem_append_right _ (List.mem_of_getElem? (i := 237) (by decide +kernel))) rfl
theorem ca_X3_137 (X : sv_X G K cc RX3 nL d) (hi : i < 8) {v0 v1 v2 : Value} {rv : Value} (hdd : d2 + 1 ≤ d) (hd : decode cc pc = .ok (.invokevirtual 137, 3)) (hw : (rest.map fun v => v.category).sum ≤ 8) (hM : sv_Ct G M_X1_isBusy d2 [.ref (sv_ad G 10 i 0), v0, v1, v2] M (some rv) M1) (kk : sw_W G K nL (pc + 3) lo (rv :: rest) M1) : sw_W G K nL pc lo (v2 :: v1 :: v0 :: .ref (sv_ad G 10 i 0) :: rest) M := sw_callVN (As := [v0, v1, v2]) (n := 3) X mw_X1_isBusy (by omega) (by rfl) (by rfl) rfl (by decide +kernel) rfl wl_X3_137 wi_X1_isBusy wv_X1_isBusy hdd hd hw rfl hM kk
theorem wl_X3_141 : Cond.methodLinkNest RX3 141 yX2_isOpen "SavepointStore" ∈ lw_n := lw_n_of (List.mem_append_right _ (List.mem_of_getElem? (i := 164) (by decide +kernel))) rfl
theorem ca_X3_141 (X : sv_X G K cc RX3 nL d) (hi : i < 8) (hj : j < 3) {rv : Value} (hdd : d2 + 1 ≤ d) (hd : decode cc pc = .ok (.invokevirtual 141, 3)) (hw : (rest.map fun v => v.category).sum ≤ 8) (hM : sv_Ct G M_X2_isOpen d2 [.ref (sv_ad G 14 i j)] M (some rv) M1) (kk : sw_W G K nL (pc + 3) lo (rv :: rest) M1) : sw_W G K nL pc lo (.ref (sv_ad G 14 i j) :: rest) M := sw_callVN (As := []) (n := 0) X mw_X2_isOpen (by omega) (by rfl) (by rfl) rfl (by decide +kernel) rfl wl_X3_141 wi_X2_isOpen wv_X2_isOpen hdd hd hw rfl hM kk
theorem wl_X3_145 : Cond.methodLinkNest RX3 145 yX2_savepointCount "SavepointStore" ∈ lw_n := lw_n_of (List.mem_append_right _ (List.mem_of_getElem? (i := 168) (by decide +kernel))) rfl
theorem ca_X3_145 (X : sv_X G K cc RX3 nL d) (hi : i < 8) (hj : j < 3) {rv : Value} (hdd : d2 + 1 ≤ d) (hd : decode cc pc = .ok (.invokevirtual 145, 3)) (hw : (rest.map fun v => v.category).sum ≤ 8) (hM : sv_Ct G M_X2_savepointCount d2 [.ref (sv_ad G 14 i j)] M (some rv) M1) (kk : sw_W G K nL (pc + 3) lo (rv :: rest) M1) : sw_W G K nL pc lo (.ref (sv_ad G 14 i j) :: rest) M := sw_callVN (As := []) (n := 0) X mw_X2_savepointCount (by omega) (by rfl) (by rfl) rfl (by decide +kernel) rfl wl_X3_145 wi_X2_savepointCount wv_X2_savepointCount hdd hd hw rfl hM kk
theorem wl_X3_148 : Cond.methodLinkNest RX3 148 yX2_keysChangedSince "SavepointStore" ∈ lw_n := lw_n_of (List.mem_append_right _ (List.mem_of_getElem? (i := 172) (by decide +kernel))) rfl
theorem ca_X3_148 (X : sv_X G K cc RX3 nL d) (hi : i < 8) (hj : j < 3) {v0 : Value} {rv : Value} (hdd : d2 + 1 ≤ d) (hd : decode cc pc = .ok (.invokevirtual 148, 3)) (hw : (rest.map fun v => v.category).sum ≤ 8) (hM : sv_Ct G M_X2_keysChangedSince d2 [.ref (sv_ad G 14 i j), v0] M (some rv) M1) (kk : sw_W G K nL (pc + 3) lo (rv :: rest) M1) : sw_W G K nL pc lo (v0 :: .ref (sv_ad G 14 i j) :: rest) M := sw_callVN (As := [v0]) (n := 1) X mw_X2_keysChangedSince (by omega) (by rfl) (by rfl) rfl (by decide +kernel) rfl wl_X3_148 wi_X2_keysChangedSince wv_X2_keysChangedSince hdd hd hw rfl hM kk
theorem wl_X3_151 : Cond.methodLink RX3 151 yJ6_bitCount_0f7a4 ∈ lw_g := lw_g_of (List.mem_append_right _ (List.mem_of_getElem? (i := 176) (by decide +kernel))) (by decide +kernel)
theorem ca_X3_151 (X : sv_X G K cc RX3 nL d) {v0 : Value} {rv : Value} (hdd : d2 + 1 ≤ d) (hd : decode cc pc = .ok (.invokestatic 151, 3)) (hw : (rest.map fun v => v.category).sum ≤ 8) (hM : sv_Ct G M_J6_bitCount_0f7a4 d2 [v0] M (some rv) M1) (kk : sw_W G K nL (pc + 3) lo (rv :: rest) M1) : sw_W G K nL pc lo (v0 :: rest) M := sw_callS (As := [v0]) (n := 1) X mw_J6_bitCount_0f7a4 (by decide +kernel) rfl wl_X3_151 ws_J6_bitCount_0f7a4 hdd hd hw rfl hM kk
theorem wl_X3_156 : Cond.methodLinkNest RX3 156 yX2_lockCount "SavepointStore" ∈ lw_n := lw_n_of (List.mem_append_right _ (List.mem_of_getElem? (i := 182) (by decide +kernel))) rfl
theorem ca_X3_156 (X : sv_X G K cc RX3 nL d) (hi : i < 8) (hj : j < 3) {v0 : Value} {rv : Value} (hdd : d2 + 1 ≤ d) (hd : decode cc pc = .ok (.invokevirtual 156, 3)) (hw : (rest.map fun v => v.category).sum ≤ 8) (hM : sv_Ct G M_X2_lockCount d2 [.ref (sv_ad G 14 i j), v0] M (some rv) M1) (kk : sw_W G K nL (pc + 3) lo (rv :: rest) M1) : sw_W G K nL pc lo (v0 :: .ref (sv_ad G 14 i j) :: rest) M := sw_callVN (As := [v0]) (n := 1) X mw_X2_lockCount (by omega) (by rfl) (by rfl) rfl (by decide +kernel) rfl wl_X3_156 wi_X2_lockCount wv_X2_lockCount hdd hd hw rfl hM kk
theorem wl_X3_159 : Cond.methodLinkNest RX3 159 yX1_hasSavepoint "SavepointStore" ∈ lw_n := lw_n_of (List.mem_append_right _ (List.mem_of_getElem? (i := 191) (by decide +kernel))) rfl
theorem ca_X3_159 (X : sv_X G K cc RX3 nL d) (hi : i < 8) {v0 v1 : Value} {rv : Value} (hdd : d2 + 1 ≤ d) (hd : decode cc pc = .ok (.invokevirtual 159, 3)) (hw : (rest.map fun v => v.category).sum ≤ 8) (hM : sv_Ct G M_X1_hasSavepoint d2 [.ref (sv_ad G 10 i 0), v0, v1] M (some rv) M1) (kk : sw_W G K nL (pc + 3) lo (rv :: rest) M1) : sw_W G K nL pc lo (v1 :: v0 :: .ref (sv_ad G 10 i 0) :: rest) M := sw_callVN (As := [v0, v1]) (n := 2) X mw_X1_hasSavepoint (by omega) (by rfl) (by rfl) rfl (by decide +kernel) rfl wl_X3_159 wi_X1_hasSavepoint wv_X1_hasSavepoint hdd hd hw rfl hM kk
theorem wl_X3_163 : Cond.fieldLinkNest RX3 163 "SavepointStore$Transaction" (TX2 3).2.1 (TX2 3).2.2.1 "SavepointStore" ∈ lw_n := lw_n_of (List.mem_append_right _ (List.mem_of_getElem? (i := 35) (by decide +kernel))) rfl
theorem gf_X3_163 (X : sv_X G K cc RX3 nL d) (hi : i < 8) (hj : j < 3) (hd : decode cc pc = .ok (.getfield 163, 3)) (kk : sw_W G K nL (pc + 3) lo (.ref (sv_ad G 16 i j) :: rest) M) : sw_W G K nL pc lo (.ref (sv_ad G 14 i j) :: rest) M := sw_getN X (by omega) (by rfl) (by rfl) inX2 3 (by decide) wl_X3_163 rfl (by rfl) hd kk
theorem wl_X3_166 : Cond.methodLink RX3 166 yX3_isName ∈ lw_g := lw_g_of (List.mem_append_right _ (List.mem_of_getElem? (i := 212) (by decide +kernel))) (by decide +kernel)
theorem ca_X3_166 (X : sv_X G K cc RX3 nL d) {v0 : Value} {rv : Value} (hdd : d2 + 1 ≤ d) (hd : decode cc pc = .ok (.invokestatic 166, 3)) (hw : (rest.map fun v => v.category).sum ≤ 8) (hM : sv_Ct G M_X3_isName d2 [v0] M (some rv) M1) (kk : sw_W G K nL (pc + 3) lo (rv :: rest) M1) : sw_W G K nL pc lo (v0 :: rest) M := sw_callS (As := [v0]) (n := 1) X mw_X3_isName (by decide +kernel) rfl wl_X3_166 ws_X3_isName hdd hd hw rfl hM kk
theorem wl_X3_169 : Cond.methodLinkNest RX3 169 yX2_nearestSavepoint "SavepointStore" ∈ lw_n := lw_n_of (List.mem_append_right _ (List.mem_of_getElem? (i := 215) (by decide +kernel))) rfl
theorem ca_X3_169 (X : sv_X G K cc RX3 nL d) (hi : i < 8) (hj : j < 3) {v0 : Value} {rv : Value} (hdd : d2 + 1 ≤ d) (hd : decode cc pc = .ok (.invokevirtual 169, 3)) (hw : (rest.map fun v => v.category).sum ≤ 8) (hM : sv_Ct G M_X2_nearestSavepoint d2 [.ref (sv_ad G 14 i j), v0] M (some rv) M1) (kk : sw_W G K nL (pc + 3) lo (rv :: rest) M1) : sw_W G K nL pc lo (v0 :: .ref (sv_ad G 14 i j) :: rest) M := sw_callVN (As := [v0]) (n := 1) X mw_X2_nearestSavepoint (by omega) (by rfl) (by rfl) rfl (by decide +kernel) rfl wl_X3_169 wi_X2_nearestSavepoint wv_X2_nearestSavepoint hdd hd hw rfl hM kk
theorem wl_X3_172 : Cond.methodLink RX3 172 yX3_momentOf ∈ lw_g := lw_g_of (List.mem_append_right _ (List.mem_of_getElem? (i := 197) (by decide +kernel))) (by decide +kernel)
theorem ca_X3_172 (X : sv_X G K cc RX3 nL d) {v0 : Value} {rv : Value} (hdd : d2 + 1 ≤ d) (hd : decode cc pc = .ok (.invokestatic 172, 3)) (hw : (rest.map fun v => v.category).sum ≤ 8) (hM : sv_Ct G M_X3_momentOf d2 [v0] M (some rv) M1) (kk : sw_W G K nL (pc + 3) lo (rv :: rest) M1) : sw_W G K nL pc lo (v0 :: rest) M := sw_callS (As := [v0]) (n := 1) X mw_X3_momentOf (by decide +kernel) rfl wl_X3_172 ws_X3_momentOf hdd hd hw rfl hM kk
theorem wl_X3_175 : Cond.methodLinkNest RX3 175 yX2_locksChangedSince "SavepointStore" ∈ lw_n := lw_n_of (List.mem_append_right _ (List.mem_of_getElem? (i := 200) (by decide +kernel))) rfl
theorem ca_X3_175 (X : sv_X G K cc RX3 nL d) (hi : i < 8) (hj : j < 3) {v0 : Value} {rv : Value} (hdd : d2 + 1 ≤ d) (hd : decode cc pc = .ok (.invokevirtual 175, 3)) (hw : (rest.map fun v => v.category).sum ≤ 8) (hM : sv_Ct G M_X2_locksChangedSince d2 [.ref (sv_ad G 14 i j), v0] M (some rv) M1) (kk : sw_W G K nL (pc + 3) lo (rv :: rest) M1) : sw_W G K nL pc lo (v0 :: .ref (sv_ad G 14 i j) :: rest) M := sw_callVN (As := [v0]) (n := 1) X mw_X2_locksChangedSince (by omega) (by rfl) (by rfl) rfl (by decide +kernel) rfl wl_X3_175 wi_X2_locksChangedSince wv_X2_locksChangedSince hdd hd hw rfl hM kk
theorem wl_X3_178 : Cond.methodLinkNest RX3 178 yX1_savepointOrError "SavepointStore" ∈ lw_n := lw_n_of (List.mem_append_right _ (List.mem_of_getElem? (i := 423) (by decide +kernel))) rfl
theorem ca_X3_178 (X : sv_X G K cc RX3 nL d) (hi : i < 8) {v0 v1 : Value} {rv : Value} (hdd : d2 + 1 ≤ d) (hd : decode cc pc = .ok (.invokevirtual 178, 3)) (hw : (rest.map fun v => v.category).sum ≤ 8) (hM : sv_Ct G M_X1_savepointOrError d2 [.ref (sv_ad G 10 i 0), v0, v1] M (some rv) M1) (kk : sw_W G K nL (pc + 3) lo (rv :: rest) M1) : sw_W G K nL pc lo (v1 :: v0 :: .ref (sv_ad G 10 i 0) :: rest) M := sw_callVN (As := [v0, v1]) (n := 2) X mw_X1_savepointOrError (by omega) (by rfl) (by rfl) rfl (by decide +kernel) rfl wl_X3_178 wi_X1_savepointOrError wv_X1_savepointOrError hdd hd hw rfl hM kk
theorem wl_X3_181 : Cond.methodLinkNest RX3 181 yX2_valueAt "SavepointStore" ∈ lw_n := lw_n_of (List.mem_append_right _ (List.mem_of_getElem? (i := 424) (by decide +kernel))) rfl
theorem ca_X3_181 (X : sv_X G K cc RX3 nL d) (hi : i < 8) (hj : j < 3) {v0 v1 v2 : Value} {rv : Value} (hdd : d2 + 1 ≤ d) (hd : decode cc pc = .ok (.invokevirtual 181, 3)) (hw : (rest.map fun v => v.category).sum ≤ 8) (hM : sv_Ct G M_X2_valueAt d2 [.ref (sv_ad G 14 i j), v0, v1, v2] M (some rv) M1) (kk : sw_W G K nL (pc + 3) lo (rv :: rest) M1) : sw_W G K nL pc lo (v2 :: v1 :: v0 :: .ref (sv_ad G 14 i j) :: rest) M := sw_callVN (As := [v0, v1, v2]) (n := 3) X mw_X2_valueAt (by omega) (by rfl) (by rfl) rfl (by decide +kernel) rfl wl_X3_181 wi_X2_valueAt wv_X2_valueAt hdd hd hw rfl hM kk
theorem wl_X3_184 : Cond.fieldLinkNest RX3 184 "SavepointStore$State" (TX1 3).2.1 (TX1 3).2.2.1 "SavepointStore" ∈ lw_n := lw_n_of (List.mem_append_right _ (List.mem_of_getElem? (i := 59) (by decide +kernel))) rfl
theorem gf_X3_184 (X : sv_X G K cc RX3 nL d) (hi : i < 8) (hd : decode cc pc = .ok (.getfield 184, 3)) (kk : sw_W G K nL (pc + 3) lo (.ref (sv_ad G 13 i 0) :: rest) M) : sw_W G K nL pc lo (.ref (sv_ad G 10 i 0) :: rest) M := sw_getN X (by omega) (by rfl) (by rfl) inX1 3 (by decide) wl_X3_184 rfl (by rfl) hd kk
theorem wl_X3_187 : Cond.methodLinkNest RX3 187 yX1_valueSum "SavepointStore" ∈ lw_n := lw_n_of (List.mem_append_right _ (List.mem_of_getElem? (i := 153) (by decide +kernel))) rfl
theorem ca_X3_187 (X : sv_X G K cc RX3 nL d) (hi : i < 8) {rv : Value} (hdd : d2 + 1 ≤ d) (hd : decode cc pc = .ok (.invokevirtual 187, 3)) (hw : (rest.map fun v => v.category).sum ≤ 8) (hM : sv_Ct G M_X1_valueSum d2 [.ref (sv_ad G 10 i 0)] M (some rv) M1) (kk : sw_W G K nL (pc + 3) lo (rv :: rest) M1) : sw_W G K nL pc lo (.ref (sv_ad G 10 i 0) :: rest) M := sw_callVN (As := []) (n := 0) X mw_X1_valueSum (by omega) (by rfl) (by rfl) rfl (by decide +kernel) rfl wl_X3_187 wi_X1_valueSum wv_X1_valueSum hdd hd hw rfl hM kk
theorem wl_X3_190 : Cond.fieldLink RX3 190 "SavepointStore" (TX3 4).2.1 (TX3 4).2.2.1 ∈ lw_g := lw_g_of (List.mem_append_right _ (List.mem_of_getElem? (i := 86) (by decide +kernel))) (by decide +kernel)
theorem gf_X3_190 (X : sv_X G K cc RX3 nL d) (hd : decode cc pc = .ok (.getfield 190, 3)) (kk : sw_W G K nL (pc + 3) lo (.int (M 8 0 0 4) :: rest) M) : sw_W G K nL pc lo (.ref (sv_ad G 0 8 0) :: rest) M := sw_get X (by omega) (by rfl) (by rfl) inX3 4 (by decide) wl_X3_190 rfl (by rfl) hd kk
theorem pf_X3_190 (X : sv_X G K cc RX3 nL d) {x : Int32} (hd : decode cc pc = .ok (.putfield 190, 3)) (kk : sw_W G K nL (pc + 3) lo rest (sv_up M 8 0 0 4 x)) : sw_W G K nL pc lo (.int x :: .ref (sv_ad G 0 8 0) :: rest) M := sw_put X (by omega) (by rfl) (by rfl) inX3 tyX3 tyX3_ok nmX3 4 (by decide) wl_X3_190 rfl (by decide +kernel) (tyX3_ok 4 (by decide)) rfl rfl (by show 4 < 7; decide) (by simp only [sv_ent, sv_up_at]; rfl) hd kk
theorem wl_L_10 : Cond.methodLink RL 10 yX3_value ∈ lw_g := lw_g_of (List.mem_append_right _ (List.mem_of_getElem? (i := 141) (by decide +kernel))) (by decide +kernel)
theorem ca_L_10 (X : sv_X G K cc RL nL d) {v0 : Value} {rv : Value} (hdd : d2 + 1 ≤ d) (hd : decode cc pc = .ok (.invokevirtual 10, 3)) (hw : (rest.map fun v => v.category).sum ≤ 8) (hM : sv_Ct G M_X3_value d2 [.ref (sv_ad G 0 8 0), v0] M (some rv) M1) (kk : sw_W G K nL (pc + 3) lo (rv :: rest) M1) : sw_W G K nL pc lo (v0 :: .ref (sv_ad G 0 8 0) :: rest) M := sw_callV (As := [v0]) (n := 1) X mw_X3_value (by omega) (by rfl) (by rfl) rfl (by decide +kernel) rfl wl_L_10 wi_X3_value wv_X3_value hdd hd hw rfl hM kk
theorem wl_L_16 : Cond.methodLink RL 16 yX3_committed ∈ lw_g := lw_g_of (List.mem_append_right _ (List.mem_of_getElem? (i := 126) (by decide +kernel))) (by decide +kernel)
theorem ca_L_16 (X : sv_X G K cc RL nL d) {v0 : Value} {rv : Value} (hdd : d2 + 1 ≤ d) (hd : decode cc pc = .ok (.invokevirtual 16, 3)) (hw : (rest.map fun v => v.category).sum ≤ 8) (hM : sv_Ct G M_X3_committed d2 [.ref (sv_ad G 0 8 0), v0] M (some rv) M1) (kk : sw_W G K nL (pc + 3) lo (rv :: rest) M1) : sw_W G K nL pc lo (v0 :: .ref (sv_ad G 0 8 0) :: rest) M := sw_callV (As := [v0]) (n := 1) X mw_X3_committed (by omega) (by rfl) (by rfl) rfl (by decide +kernel) rfl wl_L_16 wi_X3_committed wv_X3_committed hdd hd hw rfl hM kk
theorem wl_L_19 : Cond.methodLink RL 19 yX3_mode ∈ lw_g := lw_g_of (List.mem_append_right _ (List.mem_of_getElem? (i := 112) (by decide +kernel))) (by decide +kernel)
theorem ca_L_19 (X : sv_X G K cc RL nL d) {v0 v1 : Value} {rv : Value} (hdd : d2 + 1 ≤ d) (hd : decode cc pc = .ok (.invokevirtual 19, 3)) (hw : (rest.map fun v => v.category).sum ≤ 8) (hM : sv_Ct G M_X3_mode d2 [.ref (sv_ad G 0 8 0), v0, v1] M (some rv) M1) (kk : sw_W G K nL (pc + 3) lo (rv :: rest) M1) : sw_W G K nL pc lo (v1 :: v0 :: .ref (sv_ad G 0 8 0) :: rest) M := sw_callV (As := [v0, v1]) (n := 2) X mw_X3_mode (by omega) (by rfl) (by rfl) rfl (by decide +kernel) rfl wl_L_19 wi_X3_mode wv_X3_mode hdd hd hw rfl hM kk
theorem wl_L_23 : Cond.methodLink RL 23 yX3_session ∈ lw_g := lw_g_of (List.mem_append_right _ (List.mem_of_getElem? (i := 160) (by decide +kernel))) (by decide +kernel)
theorem ca_L_23 (X : sv_X G K cc RL nL d) {v0 v1 : Value} {rv : Value} (hdd : d2 + 1 ≤ d) (hd : decode cc pc = .ok (.invokevirtual 23, 3)) (hw : (rest.map fun v => v.category).sum ≤ 8) (hM : sv_Ct G M_X3_session d2 [.ref (sv_ad G 0 8 0), v0, v1] M (some rv) M1) (kk : sw_W G K nL (pc + 3) lo (rv :: rest) M1) : sw_W G K nL pc lo (v1 :: v0 :: .ref (sv_ad G 0 8 0) :: rest) M := sw_callV (As := [v0, v1]) (n := 2) X mw_X3_session (by omega) (by rfl) (by rfl) rfl (by decide +kernel) rfl wl_L_23 wi_X3_session wv_X3_session hdd hd hw rfl hM kk
theorem wl_L_26 : Cond.methodLink RL 26 yX3_changedSince ∈ lw_g := lw_g_of (List.mem_append_right _ (List.mem_of_getElem? (i := 187) (by decide +kernel))) (by decide +kernel)
theorem ca_L_26 (X : sv_X G K cc RL nL d) {v0 v1 v2 : Value} {rv : Value} (hdd : d2 + 1 ≤ d) (hd : decode cc pc = .ok (.invokevirtual 26, 3)) (hw : (rest.map fun v => v.category).sum ≤ 8) (hM : sv_Ct G M_X3_changedSince d2 [.ref (sv_ad G 0 8 0), v0, v1, v2] M (some rv) M1) (kk : sw_W G K nL (pc + 3) lo (rv :: rest) M1) : sw_W G K nL pc lo (v2 :: v1 :: v0 :: .ref (sv_ad G 0 8 0) :: rest) M := sw_callV (As := [v0, v1, v2]) (n := 3) X mw_X3_changedSince (by omega) (by rfl) (by rfl) rfl (by decide +kernel) rfl wl_L_26 wi_X3_changedSince wv_X3_changedSince hdd hd hw rfl hM kk
theorem wl_L_30 : Cond.methodLink RL 30 yX3_nameOf ∈ lw_g := lw_g_of (List.mem_append_right _ (List.mem_of_getElem? (i := 204) (by decide +kernel))) (by decide +kernel)
theorem ca_L_30 (X : sv_X G K cc RL nL d) {v0 v1 : Value} {rv : Value} (hdd : d2 + 1 ≤ d) (hd : decode cc pc = .ok (.invokevirtual 30, 3)) (hw : (rest.map fun v => v.category).sum ≤ 8) (hM : sv_Ct G M_X3_nameOf d2 [.ref (sv_ad G 0 8 0), v0, v1] M (some rv) M1) (kk : sw_W G K nL (pc + 3) lo (rv :: rest) M1) : sw_W G K nL pc lo (v1 :: v0 :: .ref (sv_ad G 0 8 0) :: rest) M := sw_callV (As := [v0, v1]) (n := 2) X mw_X3_nameOf (by omega) (by rfl) (by rfl) rfl (by decide +kernel) rfl wl_L_30 wi_X3_nameOf wv_X3_nameOf hdd hd hw rfl hM kk
theorem wl_L_33 : Cond.methodLink RL 33 yX3_nearest ∈ lw_g := lw_g_of (List.mem_append_right _ (List.mem_of_getElem? (i := 208) (by decide +kernel))) (by decide +kernel)
theorem ca_L_33 (X : sv_X G K cc RL nL d) {v0 v1 : Value} {rv : Value} (hdd : d2 + 1 ≤ d) (hd : decode cc pc = .ok (.invokevirtual 33, 3)) (hw : (rest.map fun v => v.category).sum ≤ 8) (hM : sv_Ct G M_X3_nearest d2 [.ref (sv_ad G 0 8 0), v0, v1] M (some rv) M1) (kk : sw_W G K nL (pc + 3) lo (rv :: rest) M1) : sw_W G K nL pc lo (v1 :: v0 :: .ref (sv_ad G 0 8 0) :: rest) M := sw_callV (As := [v0, v1]) (n := 2) X mw_X3_nearest (by omega) (by rfl) (by rfl) rfl (by decide +kernel) rfl wl_L_33 wi_X3_nearest wv_X3_nearest hdd hd hw rfl hM kk
theorem wl_L_36 : Cond.methodLink RL 36 yX3_mean ∈ lw_g := lw_g_of (List.mem_append_right _ (List.mem_of_getElem? (i := 145) (by decide +kernel))) (by decide +kernel)
theorem ca_L_36 (X : sv_X G K cc RL nL d) {rv : Value} (hdd : d2 + 1 ≤ d) (hd : decode cc pc = .ok (.invokevirtual 36, 3)) (hw : (rest.map fun v => v.category).sum ≤ 8) (hM : sv_Ct G M_X3_mean d2 [.ref (sv_ad G 0 8 0)] M (some rv) M1) (kk : sw_W G K nL (pc + 3) lo (rv :: rest) M1) : sw_W G K nL pc lo (.ref (sv_ad G 0 8 0) :: rest) M := sw_callV (As := []) (n := 0) X mw_X3_mean (by omega) (by rfl) (by rfl) rfl (by decide +kernel) rfl wl_L_36 wi_X3_mean wv_X3_mean hdd hd hw rfl hM kk
theorem wl_L_40 : Cond.methodLink RL 40 yL_isSession ∈ lw_g := lw_g_of (List.mem_append_right _ (List.mem_of_getElem? (i := 157) (by decide +kernel))) (by decide +kernel)
theorem ca_L_40 (X : sv_X G K cc RL nL d) {v0 v1 : Value} {rv : Value} (hdd : d2 + 1 ≤ d) (hd : decode cc pc = .ok (.invokestatic 40, 3)) (hw : (rest.map fun v => v.category).sum ≤ 8) (hM : sv_Ct G M_L_isSession d2 [v0, v1] M (some rv) M1) (kk : sw_W G K nL (pc + 3) lo (rv :: rest) M1) : sw_W G K nL pc lo (v1 :: v0 :: rest) M := sw_callS (As := [v0, v1]) (n := 2) X mw_L_isSession (by decide +kernel) rfl wl_L_40 ws_L_isSession hdd hd hw rfl hM kk
theorem wl_L_46 : Cond.methodLink RL 46 yL_low ∈ lw_g := lw_g_of (List.mem_append_right _ (List.mem_of_getElem? (i := 223) (by decide +kernel))) (by decide +kernel)
theorem ca_L_46 (X : sv_X G K cc RL nL d) {v0 v1 : Value} {rv : Value} (hdd : d2 + 1 ≤ d) (hd : decode cc pc = .ok (.invokestatic 46, 3)) (hw : (rest.map fun v => v.category).sum ≤ 8) (hM : sv_Ct G M_L_low d2 [v0, v1] M (some rv) M1) (kk : sw_W G K nL (pc + 3) lo (rv :: rest) M1) : sw_W G K nL pc lo (v1 :: v0 :: rest) M := sw_callS (As := [v0, v1]) (n := 2) X mw_L_low (by decide +kernel) rfl wl_L_46 ws_L_low hdd hd hw rfl hM kk
theorem wl_L_49 : Cond.methodLink RL 49 yX3_read ∈ lw_g := lw_g_of (List.mem_append_right _ (List.mem_of_getElem? (i := 249) (by decide +kernel))) (by decide +kernel)
theorem ca_L_49 (X : sv_X G K cc RL nL d) {v0 v1 : Value} {rv : Value} (hdd : d2 + 1 ≤ d) (hd : decode cc pc = .ok (.invokevirtual 49, 3)) (hw : (rest.map fun v => v.category).sum ≤ 8) (hM : sv_Ct G M_X3_read d2 [.ref (sv_ad G 0 8 0), v0, v1] M (some rv) M1) (kk : sw_W G K nL (pc + 3) lo (rv :: rest) M1) : sw_W G K nL pc lo (v1 :: v0 :: .ref (sv_ad G 0 8 0) :: rest) M := sw_callV (As := [v0, v1]) (n := 2) X mw_X3_read (by omega) (by rfl) (by rfl) rfl (by decide +kernel) rfl wl_L_49 wi_X3_read wv_X3_read hdd hd hw rfl hM kk
theorem wl_L_52 : Cond.methodLink RL 52 yX3_erase ∈ lw_g := lw_g_of (List.mem_append_right _ (List.mem_of_getElem? (i := 330) (by decide +kernel))) (by decide +kernel)
theorem ca_L_52 (X : sv_X G K cc RL nL d) {v0 v1 : Value} {rv : Value} (hdd : d2 + 1 ≤ d) (hd : decode cc pc = .ok (.invokevirtual 52, 3)) (hw : (rest.map fun v => v.category).sum ≤ 8) (hM : sv_Ct G M_X3_erase d2 [.ref (sv_ad G 0 8 0), v0, v1] M (some rv) M1) (kk : sw_W G K nL (pc + 3) lo (rv :: rest) M1) : sw_W G K nL pc lo (v1 :: v0 :: .ref (sv_ad G 0 8 0) :: rest) M := sw_callV (As := [v0, v1]) (n := 2) X mw_X3_erase (by omega) (by rfl) (by rfl) rfl (by decide +kernel) rfl wl_L_52 wi_X3_erase wv_X3_erase hdd hd hw rfl hM kk
theorem wl_L_55 : Cond.methodLink RL 55 yX3_write ∈ lw_g := lw_g_of (List.mem_append_right _ (List.mem_of_getElem? (i := 346) (by decide +kernel))) (by decide +kernel)
theorem ca_L_55 (X : sv_X G K cc RL nL d) {v0 v1 v2 : Value} {rv : Value} (hdd : d2 + 1 ≤ d) (hd : decode cc pc = .ok (.invokevirtual 55, 3)) (hw : (rest.map fun v => v.category).sum ≤ 8) (hM : sv_Ct G M_X3_write d2 [.ref (sv_ad G 0 8 0), v0, v1, v2] M (some rv) M1) (kk : sw_W G K nL (pc + 3) lo (rv :: rest) M1) : sw_W G K nL pc lo (v2 :: v1 :: v0 :: .ref (sv_ad G 0 8 0) :: rest) M := sw_callV (As := [v0, v1, v2]) (n := 3) X mw_X3_write (by omega) (by rfl) (by rfl) rfl (by decide +kernel) rfl wl_L_55 wi_X3_write wv_X3_write hdd hd hw rfl hM kk
theorem wl_L_59 : Cond.methodLink RL 59 yX3_shift ∈ lw_g := lw_g_of (List.mem_append_right _ (List.mem_of_getElem? (i := 357) (by decide +kernel))) (by decide +kernel)
theorem ca_L_59 (X : sv_X G K cc RL nL d) {v0 v1 v2 : Value} {rv : Value} (hdd : d2 + 1 ≤ d) (hd : decode cc pc = .ok (.invokevirtual 59, 3)) (hw : (rest.map fun v => v.category).sum ≤ 8) (hM : sv_Ct G M_X3_shift d2 [.ref (sv_ad G 0 8 0), v0, v1, v2] M (some rv) M1) (kk : sw_W G K nL (pc + 3) lo (rv :: rest) M1) : sw_W G K nL pc lo (v2 :: v1 :: v0 :: .ref (sv_ad G 0 8 0) :: rest) M := sw_callV (As := [v0, v1, v2]) (n := 3) X mw_X3_shift (by omega) (by rfl) (by rfl) rfl (by decide +kernel) rfl wl_L_59 wi_X3_shift wv_X3_shift hdd hd hw rfl hM kk
theorem wl_L_62 : Cond.methodLink RL 62 yX3_move ∈ lw_g := lw_g_of (List.mem_append_right _ (List.mem_of_getElem? (i := 371) (by decide +kernel))) (by decide +kernel)
theorem ca_L_62 (X : sv_X G K cc RL nL d) {v0 v1 v2 v3 : Value} {rv : Value} (hdd : d2 + 1 ≤ d) (hd : decode cc pc = .ok (.invokevirtual 62, 3)) (hw : (rest.map fun v => v.category).sum ≤ 8) (hM : sv_Ct G M_X3_move d2 [.ref (sv_ad G 0 8 0), v0, v1, v2, v3] M (some rv) M1) (kk : sw_W G K nL (pc + 3) lo (rv :: rest) M1) : sw_W G K nL pc lo (v3 :: v2 :: v1 :: v0 :: .ref (sv_ad G 0 8 0) :: rest) M := sw_callV (As := [v0, v1, v2, v3]) (n := 4) X mw_X3_move (by omega) (by rfl) (by rfl) rfl (by decide +kernel) rfl wl_L_62 wi_X3_move wv_X3_move hdd hd hw rfl hM kk
theorem wl_L_66 : Cond.methodLink RL 66 yX3_busyFor ∈ lw_g := lw_g_of (List.mem_append_right _ (List.mem_of_getElem? (i := 233) (by decide +kernel))) (by decide +kernel)
theorem ca_L_66 (X : sv_X G K cc RL nL d) {v0 v1 : Value} {rv : Value} (hdd : d2 + 1 ≤ d) (hd : decode cc pc = .ok (.invokevirtual 66, 3)) (hw : (rest.map fun v => v.category).sum ≤ 8) (hM : sv_Ct G M_X3_busyFor d2 [.ref (sv_ad G 0 8 0), v0, v1] M (some rv) M1) (kk : sw_W G K nL (pc + 3) lo (rv :: rest) M1) : sw_W G K nL pc lo (v1 :: v0 :: .ref (sv_ad G 0 8 0) :: rest) M := sw_callV (As := [v0, v1]) (n := 2) X mw_X3_busyFor (by omega) (by rfl) (by rfl) rfl (by decide +kernel) rfl wl_L_66 wi_X3_busyFor wv_X3_busyFor hdd hd hw rfl hM kk
theorem wl_L_69 : Cond.methodLink RL 69 yX3_total ∈ lw_g := lw_g_of (List.mem_append_right _ (List.mem_of_getElem? (i := 242) (by decide +kernel))) (by decide +kernel)
theorem ca_L_69 (X : sv_X G K cc RL nL d) {v0 : Value} {rv : Value} (hdd : d2 + 1 ≤ d) (hd : decode cc pc = .ok (.invokevirtual 69, 3)) (hw : (rest.map fun v => v.category).sum ≤ 8) (hM : sv_Ct G M_X3_total d2 [.ref (sv_ad G 0 8 0), v0] M (some rv) M1) (kk : sw_W G K nL (pc + 3) lo (rv :: rest) M1) : sw_W G K nL pc lo (v0 :: .ref (sv_ad G 0 8 0) :: rest) M := sw_callV (As := [v0]) (n := 1) X mw_X3_total (by omega) (by rfl) (by rfl) rfl (by decide +kernel) rfl wl_L_69 wi_X3_total wv_X3_total hdd hd hw rfl hM kk
theorem wl_L_72 : Cond.methodLink RL 72 yL_doneBy ∈ lw_g := lw_g_of (List.mem_append_right _ (List.mem_of_getElem? (i := 246) (by decide +kernel))) (by decide +kernel)
theorem ca_L_72 (X : sv_X G K cc RL nL d) {v0 v1 v2 v3 : Value} {rv : Value} (hdd : d2 + 1 ≤ d) (hd : decode cc pc = .ok (.invokestatic 72, 3)) (hw : (rest.map fun v => v.category).sum ≤ 8) (hM : sv_Ct G M_L_doneBy d2 [v0, v1, v2, v3] M (some rv) M1) (kk : sw_W G K nL (pc + 3) lo (rv :: rest) M1) : sw_W G K nL pc lo (v3 :: v2 :: v1 :: v0 :: rest) M := sw_callS (As := [v0, v1, v2, v3]) (n := 4) X mw_L_doneBy (by decide +kernel) rfl wl_L_72 ws_L_doneBy hdd hd hw rfl hM kk
theorem wl_L_76 : Cond.methodLink RL 76 yL_areValues ∈ lw_g := lw_g_of (List.mem_append_right _ (List.mem_of_getElem? (i := 379) (by decide +kernel))) (by decide +kernel)
theorem ca_L_76 (X : sv_X G K cc RL nL d) {v0 v1 : Value} {rv : Value} (hdd : d2 + 1 ≤ d) (hd : decode cc pc = .ok (.invokestatic 76, 3)) (hw : (rest.map fun v => v.category).sum ≤ 8) (hM : sv_Ct G M_L_areValues d2 [v0, v1] M (some rv) M1) (kk : sw_W G K nL (pc + 3) lo (rv :: rest) M1) : sw_W G K nL pc lo (v1 :: v0 :: rest) M := sw_callS (As := [v0, v1]) (n := 2) X mw_L_areValues (by decide +kernel) rfl wl_L_76 ws_L_areValues hdd hd hw rfl hM kk
theorem wl_L_80 : Cond.methodLink RL 80 yL_otherModes ∈ lw_g := lw_g_of (List.mem_append_right _ (List.mem_of_getElem? (i := 382) (by decide +kernel))) (by decide +kernel)
theorem ca_L_80 (X : sv_X G K cc RL nL d) {v0 v1 v2 : Value} {rv : Value} (hdd : d2 + 1 ≤ d) (hd : decode cc pc = .ok (.invokestatic 80, 3)) (hw : (rest.map fun v => v.category).sum ≤ 8) (hM : sv_Ct G M_L_otherModes d2 [v0, v1, v2] M (some rv) M1) (kk : sw_W G K nL (pc + 3) lo (rv :: rest) M1) : sw_W G K nL pc lo (v2 :: v1 :: v0 :: rest) M := sw_callS (As := [v0, v1, v2]) (n := 3) X mw_L_otherModes (by decide +kernel) rfl wl_L_80 ws_L_otherModes hdd hd hw rfl hM kk
theorem wl_L_84 : Cond.methodLink RL 84 yX3_undoTo ∈ lw_g := lw_g_of (List.mem_append_right _ (List.mem_of_getElem? (i := 397) (by decide +kernel))) (by decide +kernel)
theorem ca_L_84 (X : sv_X G K cc RL nL d) {v0 v1 : Value} {rv : Value} (hdd : d2 + 1 ≤ d) (hd : decode cc pc = .ok (.invokevirtual 84, 3)) (hw : (rest.map fun v => v.category).sum ≤ 8) (hM : sv_Ct G M_X3_undoTo d2 [.ref (sv_ad G 0 8 0), v0, v1] M (some rv) M1) (kk : sw_W G K nL (pc + 3) lo (rv :: rest) M1) : sw_W G K nL pc lo (v1 :: v0 :: .ref (sv_ad G 0 8 0) :: rest) M := sw_callV (As := [v0, v1]) (n := 2) X mw_X3_undoTo (by omega) (by rfl) (by rfl) rfl (by decide +kernel) rfl wl_L_84 wi_X3_undoTo wv_X3_undoTo hdd hd hw rfl hM kk
theorem wl_L_87 : Cond.methodLink RL 87 yX3_release ∈ lw_g := lw_g_of (List.mem_append_right _ (List.mem_of_getElem? (i := 411) (by decide +kernel))) (by decide +kernel)
theorem ca_L_87 (X : sv_X G K cc RL nL d) {v0 v1 : Value} {rv : Value} (hdd : d2 + 1 ≤ d) (hd : decode cc pc = .ok (.invokevirtual 87, 3)) (hw : (rest.map fun v => v.category).sum ≤ 8) (hM : sv_Ct G M_X3_release d2 [.ref (sv_ad G 0 8 0), v0, v1] M (some rv) M1) (kk : sw_W G K nL (pc + 3) lo (rv :: rest) M1) : sw_W G K nL pc lo (v1 :: v0 :: .ref (sv_ad G 0 8 0) :: rest) M := sw_callV (As := [v0, v1]) (n := 2) X mw_X3_release (by omega) (by rfl) (by rfl) rfl (by decide +kernel) rfl wl_L_87 wi_X3_release wv_X3_release hdd hd hw rfl hM kk
theorem wl_L_90 : Cond.methodLink RL 90 yX3_ifUndone ∈ lw_g := lw_g_of (List.mem_append_right _ (List.mem_of_getElem? (i := 419) (by decide +kernel))) (by decide +kernel)
theorem ca_L_90 (X : sv_X G K cc RL nL d) {v0 v1 v2 : Value} {rv : Value} (hdd : d2 + 1 ≤ d) (hd : decode cc pc = .ok (.invokevirtual 90, 3)) (hw : (rest.map fun v => v.category).sum ≤ 8) (hM : sv_Ct G M_X3_ifUndone d2 [.ref (sv_ad G 0 8 0), v0, v1, v2] M (some rv) M1) (kk : sw_W G K nL (pc + 3) lo (rv :: rest) M1) : sw_W G K nL pc lo (v2 :: v1 :: v0 :: .ref (sv_ad G 0 8 0) :: rest) M := sw_callV (As := [v0, v1, v2]) (n := 3) X mw_X3_ifUndone (by omega) (by rfl) (by rfl) rfl (by decide +kernel) rfl wl_L_90 wi_X3_ifUndone wv_X3_ifUndone hdd hd hw rfl hM kk
theorem wl_L_93 : Cond.methodLink RL 93 yX3_commit ∈ lw_g := lw_g_of (List.mem_append_right _ (List.mem_of_getElem? (i := 432) (by decide +kernel))) (by decide +kernel)
theorem ca_L_93 (X : sv_X G K cc RL nL d) {v0 : Value} {rv : Value} (hdd : d2 + 1 ≤ d) (hd : decode cc pc = .ok (.invokevirtual 93, 3)) (hw : (rest.map fun v => v.category).sum ≤ 8) (hM : sv_Ct G M_X3_commit d2 [.ref (sv_ad G 0 8 0), v0] M (some rv) M1) (kk : sw_W G K nL (pc + 3) lo (rv :: rest) M1) : sw_W G K nL pc lo (v0 :: .ref (sv_ad G 0 8 0) :: rest) M := sw_callV (As := [v0]) (n := 1) X mw_X3_commit (by omega) (by rfl) (by rfl) rfl (by decide +kernel) rfl wl_L_93 wi_X3_commit wv_X3_commit hdd hd hw rfl hM kk
theorem wl_L_96 : Cond.methodLink RL 96 yX3_rollback ∈ lw_g := lw_g_of (List.mem_append_right _ (List.mem_of_getElem? (i := 444) (by decide +kernel))) (by decide +kernel)
theorem ca_L_96 (X : sv_X G K cc RL nL d) {v0 : Value} {rv : Value} (hdd : d2 + 1 ≤ d) (hd : decode cc pc = .ok (.invokevirtual 96, 3)) (hw : (rest.map fun v => v.category).sum ≤ 8) (hM : sv_Ct G M_X3_rollback d2 [.ref (sv_ad G 0 8 0), v0] M (some rv) M1) (kk : sw_W G K nL (pc + 3) lo (rv :: rest) M1) : sw_W G K nL pc lo (v0 :: .ref (sv_ad G 0 8 0) :: rest) M := sw_callV (As := [v0]) (n := 1) X mw_X3_rollback (by omega) (by rfl) (by rfl) rfl (by decide +kernel) rfl wl_L_96 wi_X3_rollback wv_X3_rollback hdd hd hw rfl hM kk
theorem wl_L_99 : Cond.methodLink RL 99 yL_look ∈ lw_g := lw_g_of (List.mem_append_right _ (List.mem_of_getElem? (i := 227) (by decide +kernel))) (by decide +kernel)
theorem ca_L_99 (X : sv_X G K cc RL nL d) {v0 v1 v2 : Value} (hdd : d2 + 1 ≤ d) (hd : decode cc pc = .ok (.invokestatic 99, 3)) (hw : (rest.map fun v => v.category).sum ≤ 8) (hM : sv_Ct G M_L_look d2 [v0, v1, v2] M none M1) (kk : sw_W G K nL (pc + 3) lo rest M1) : sw_W G K nL pc lo (v2 :: v1 :: v0 :: rest) M := sw_callS (As := [v0, v1, v2]) (n := 3) X mw_L_look (by decide +kernel) rfl wl_L_99 ws_L_look hdd hd hw rfl hM kk
theorem wl_L_103 : Cond.methodLink RL 103 yL_states ∈ lw_g := lw_g_of (List.mem_append_right _ (List.mem_of_getElem? (i := 230) (by decide +kernel))) (by decide +kernel)
theorem ca_L_103 (X : sv_X G K cc RL nL d) {v0 v1 v2 v3 v4 v5 v6 : Value} {rv : Value} (hdd : d2 + 1 ≤ d) (hd : decode cc pc = .ok (.invokestatic 103, 3)) (hw : (rest.map fun v => v.category).sum ≤ 8) (hM : sv_Ct G M_L_states d2 [v0, v1, v2, v3, v4, v5, v6] M (some rv) M1) (kk : sw_W G K nL (pc + 3) lo (rv :: rest) M1) : sw_W G K nL pc lo (v6 :: v5 :: v4 :: v3 :: v2 :: v1 :: v0 :: rest) M := sw_callS (As := [v0, v1, v2, v3, v4, v5, v6]) (n := 7) X mw_L_states (by decide +kernel) rfl wl_L_103 ws_L_states hdd hd hw rfl hM kk
theorem wl_L_107 : Cond.methodLink RL 107 yX3_savepoint ∈ lw_g := lw_g_of (List.mem_append_right _ (List.mem_of_getElem? (i := 385) (by decide +kernel))) (by decide +kernel)
theorem ca_L_107 (X : sv_X G K cc RL nL d) {v0 v1 : Value} {rv : Value} (hdd : d2 + 1 ≤ d) (hd : decode cc pc = .ok (.invokevirtual 107, 3)) (hw : (rest.map fun v => v.category).sum ≤ 8) (hM : sv_Ct G M_X3_savepoint d2 [.ref (sv_ad G 0 8 0), v0, v1] M (some rv) M1) (kk : sw_W G K nL (pc + 3) lo (rv :: rest) M1) : sw_W G K nL pc lo (v1 :: v0 :: .ref (sv_ad G 0 8 0) :: rest) M := sw_callV (As := [v0, v1]) (n := 2) X mw_X3_savepoint (by omega) (by rfl) (by rfl) rfl (by decide +kernel) rfl wl_L_107 wi_X3_savepoint wv_X3_savepoint hdd hd hw rfl hM kk
theorem wl_L_110 : Cond.methodLink RL 110 yL_undoes ∈ lw_g := lw_g_of (List.mem_append_right _ (List.mem_of_getElem? (i := 394) (by decide +kernel))) (by decide +kernel)
theorem ca_L_110 (X : sv_X G K cc RL nL d) {v0 v1 v2 v3 v4 v5 : Value} {rv : Value} (hdd : d2 + 1 ≤ d) (hd : decode cc pc = .ok (.invokestatic 110, 3)) (hw : (rest.map fun v => v.category).sum ≤ 8) (hM : sv_Ct G M_L_undoes d2 [v0, v1, v2, v3, v4, v5] M (some rv) M1) (kk : sw_W G K nL (pc + 3) lo (rv :: rest) M1) : sw_W G K nL pc lo (v5 :: v4 :: v3 :: v2 :: v1 :: v0 :: rest) M := sw_callS (As := [v0, v1, v2, v3, v4, v5]) (n := 6) X mw_L_undoes (by decide +kernel) rfl wl_L_110 ws_L_undoes hdd hd hw rfl hM kk
theorem wl_L_114 : Cond.methodLink RL 114 yX3_keep ∈ lw_g := lw_g_of (List.mem_append_right _ (List.mem_of_getElem? (i := 425) (by decide +kernel))) (by decide +kernel)
theorem ca_L_114 (X : sv_X G K cc RL nL d) {v0 : Value} {rv : Value} (hdd : d2 + 1 ≤ d) (hd : decode cc pc = .ok (.invokevirtual 114, 3)) (hw : (rest.map fun v => v.category).sum ≤ 8) (hM : sv_Ct G M_X3_keep d2 [.ref (sv_ad G 0 8 0), v0] M (some rv) M1) (kk : sw_W G K nL (pc + 3) lo (rv :: rest) M1) : sw_W G K nL pc lo (v0 :: .ref (sv_ad G 0 8 0) :: rest) M := sw_callV (As := [v0]) (n := 1) X mw_X3_keep (by omega) (by rfl) (by rfl) rfl (by decide +kernel) rfl wl_L_114 wi_X3_keep wv_X3_keep hdd hd hw rfl hM kk
theorem wl_L_118 : Cond.methodLink RL 118 yL_closes ∈ lw_g := lw_g_of (List.mem_append_right _ (List.mem_of_getElem? (i := 429) (by decide +kernel))) (by decide +kernel)
theorem ca_L_118 (X : sv_X G K cc RL nL d) {v0 v1 v2 v3 v4 : Value} {rv : Value} (hdd : d2 + 1 ≤ d) (hd : decode cc pc = .ok (.invokestatic 118, 3)) (hw : (rest.map fun v => v.category).sum ≤ 8) (hM : sv_Ct G M_L_closes d2 [v0, v1, v2, v3, v4] M (some rv) M1) (kk : sw_W G K nL (pc + 3) lo (rv :: rest) M1) : sw_W G K nL pc lo (v4 :: v3 :: v2 :: v1 :: v0 :: rest) M := sw_callS (As := [v0, v1, v2, v3, v4]) (n := 5) X mw_L_closes (by decide +kernel) rfl wl_L_118 ws_L_closes hdd hd hw rfl hM kk
theorem wl_L_122 : Cond.methodLink RL 122 yX3_begin ∈ lw_g := lw_g_of (List.mem_append_right _ (List.mem_of_getElem? (i := 452) (by decide +kernel))) (by decide +kernel)
theorem ca_L_122 (X : sv_X G K cc RL nL d) {v0 : Value} {rv : Value} (hdd : d2 + 1 ≤ d) (hd : decode cc pc = .ok (.invokevirtual 122, 3)) (hw : (rest.map fun v => v.category).sum ≤ 8) (hM : sv_Ct G M_X3_begin d2 [.ref (sv_ad G 0 8 0), v0] M (some rv) M1) (kk : sw_W G K nL (pc + 3) lo (rv :: rest) M1) : sw_W G K nL pc lo (v0 :: .ref (sv_ad G 0 8 0) :: rest) M := sw_callV (As := [v0]) (n := 1) X mw_X3_begin (by omega) (by rfl) (by rfl) rfl (by decide +kernel) rfl wl_L_122 wi_X3_begin wv_X3_begin hdd hd hw rfl hM kk
theorem wl_L_125 : Cond.methodLink RL 125 yX3_init ∈ lw_g := lw_g_of (List.mem_append_right _ (List.mem_of_getElem? (i := 10) (by decide +kernel))) (by decide +kernel)
theorem wl_L_126 : Cond.methodLink RL 126 yL_holds ∈ lw_g := lw_g_of (List.mem_append_right _ (List.mem_of_getElem? (i := 109) (by decide +kernel))) (by decide +kernel)
theorem ca_L_126 (X : sv_X G K cc RL nL d) {v0 : Value} {rv : Value} (hdd : d2 + 1 ≤ d) (hd : decode cc pc = .ok (.invokestatic 126, 3)) (hw : (rest.map fun v => v.category).sum ≤ 8) (hM : sv_Ct G M_L_holds d2 [v0] M (some rv) M1) (kk : sw_W G K nL (pc + 3) lo (rv :: rest) M1) : sw_W G K nL pc lo (v0 :: rest) M := sw_callS (As := [v0]) (n := 1) X mw_L_holds (by decide +kernel) rfl wl_L_126 ws_L_holds hdd hd hw rfl hM kk
theorem wl_L_130 : Cond.methodLink RL 130 yL_cell ∈ lw_g := lw_g_of (List.mem_append_right _ (List.mem_of_getElem? (i := 104) (by decide +kernel))) (by decide +kernel)
theorem ca_L_130 (X : sv_X G K cc RL nL d) {v0 v1 : Value} {rv : Value} (hdd : d2 + 1 ≤ d) (hd : decode cc pc = .ok (.invokestatic 130, 3)) (hw : (rest.map fun v => v.category).sum ≤ 8) (hM : sv_Ct G M_L_cell d2 [v0, v1] M (some rv) M1) (kk : sw_W G K nL (pc + 3) lo (rv :: rest) M1) : sw_W G K nL pc lo (v1 :: v0 :: rest) M := sw_callS (As := [v0, v1]) (n := 2) X mw_L_cell (by decide +kernel) rfl wl_L_130 ws_L_cell hdd hd hw rfl hM kk
theorem wl_L_134 : Cond.methodLink RL 134 yL_act ∈ lw_g := lw_g_of (List.mem_append_right _ (List.mem_of_getElem? (i := 220) (by decide +kernel))) (by decide +kernel)
theorem ca_L_134 (X : sv_X G K cc RL nL d) {v0 v1 v2 v3 : Value} {rv : Value} (hdd : d2 + 1 ≤ d) (hd : decode cc pc = .ok (.invokestatic 134, 3)) (hw : (rest.map fun v => v.category).sum ≤ 8) (hM : sv_Ct G M_L_act d2 [v0, v1, v2, v3] M (some rv) M1) (kk : sw_W G K nL (pc + 3) lo (rv :: rest) M1) : sw_W G K nL pc lo (v3 :: v2 :: v1 :: v0 :: rest) M := sw_callS (As := [v0, v1, v2, v3]) (n := 4) X mw_L_act (by decide +kernel) rfl wl_L_134 ws_L_act hdd hd hw rfl hM kk
theorem ia_4 {own : String} (X : sv_X G K cc own nL d) (hg : 0 < gn G) {x : Int32} {n : Nat} (hx : x = nI n) (hn : n < 1) (hd : decode cc pc = .ok (.iaload, 1)) (kk : sw_W G K nL (pc + 1) lo (.int (M 9 4 0 n) :: rest) M) : sw_W G K nL pc lo (.int x :: .ref (sv_ad G 4 9 0) :: rest) M := sw_iald X (by omega) (by rfl) hx hn (by omega) hd kk
theorem is_4 {own : String} (X : sv_X G K cc own nL d) (hg : 0 < gn G) {x v : Int32} {n : Nat} (hx : x = nI n) (hn : n < 1) (hd : decode cc pc = .ok (.iastore, 1)) (kk : sw_W G K nL (pc + 1) lo rest (sv_up M 9 4 0 n v)) : sw_W G K nL pc lo (.int v :: .int x :: .ref (sv_ad G 4 9 0) :: rest) M := sw_iast X (by omega) (fun M => by rfl) hx hn (by omega) hd kk
theorem ia_5 {own : String} (X : sv_X G K cc own nL d) (hg : 1 < gn G) {x : Int32} {n : Nat} (hx : x = nI n) (hn : n < 32) (hd : decode cc pc = .ok (.iaload, 1)) (kk : sw_W G K nL (pc + 1) lo (.int (M 9 5 0 n) :: rest) M) : sw_W G K nL pc lo (.int x :: .ref (sv_ad G 5 9 0) :: rest) M := sw_iald X (by omega) (by rfl) hx hn (by omega) hd kk
theorem is_5 {own : String} (X : sv_X G K cc own nL d) (hg : 1 < gn G) {x v : Int32} {n : Nat} (hx : x = nI n) (hn : n < 32) (hd : decode cc pc = .ok (.iastore, 1)) (kk : sw_W G K nL (pc + 1) lo rest (sv_up M 9 5 0 n v)) : sw_W G K nL pc lo (.int v :: .int x :: .ref (sv_ad G 5 9 0) :: rest) M := sw_iast X (by omega) (fun M => by rfl) hx hn (by omega) hd kk
theorem ia_6 {own : String} (X : sv_X G K cc own nL d) (hg : 2 < gn G) {x : Int32} {n : Nat} (hx : x = nI n) (hn : n < 48) (hd : decode cc pc = .ok (.iaload, 1)) (kk : sw_W G K nL (pc + 1) lo (.int (M 9 6 0 n) :: rest) M) : sw_W G K nL pc lo (.int x :: .ref (sv_ad G 6 9 0) :: rest) M := sw_iald X (by omega) (by rfl) hx hn (by omega) hd kk
theorem is_6 {own : String} (X : sv_X G K cc own nL d) (hg : 2 < gn G) {x v : Int32} {n : Nat} (hx : x = nI n) (hn : n < 48) (hd : decode cc pc = .ok (.iastore, 1)) (kk : sw_W G K nL (pc + 1) lo rest (sv_up M 9 6 0 n v)) : sw_W G K nL pc lo (.int v :: .int x :: .ref (sv_ad G 6 9 0) :: rest) M := sw_iast X (by omega) (fun M => by rfl) hx hn (by omega) hd kk
theorem ia_7 {own : String} (X : sv_X G K cc own nL d) (hg : 3 < gn G) {x : Int32} {n : Nat} (hx : x = nI n) (hn : n < 16) (hd : decode cc pc = .ok (.iaload, 1)) (kk : sw_W G K nL (pc + 1) lo (.int (M 9 7 0 n) :: rest) M) : sw_W G K nL pc lo (.int x :: .ref (sv_ad G 7 9 0) :: rest) M := sw_iald X (by omega) (by rfl) hx hn (by omega) hd kk
theorem is_7 {own : String} (X : sv_X G K cc own nL d) (hg : 3 < gn G) {x v : Int32} {n : Nat} (hx : x = nI n) (hn : n < 16) (hd : decode cc pc = .ok (.iastore, 1)) (kk : sw_W G K nL (pc + 1) lo rest (sv_up M 9 7 0 n v)) : sw_W G K nL pc lo (.int v :: .int x :: .ref (sv_ad G 7 9 0) :: rest) M := sw_iast X (by omega) (fun M => by rfl) hx hn (by omega) hd kk
theorem ia_11 {own : String} (X : sv_X G K cc own nL d) (hi : i < 8) {x : Int32} {n : Nat} (hx : x = nI n) (hn : n < 16) (hd : decode cc pc = .ok (.iaload, 1)) (kk : sw_W G K nL (pc + 1) lo (.int (M i 11 0 n) :: rest) M) : sw_W G K nL pc lo (.int x :: .ref (sv_ad G 11 i 0) :: rest) M := sw_iald X (by omega) (by rfl) hx hn (by omega) hd kk
theorem is_11 {own : String} (X : sv_X G K cc own nL d) (hi : i < 8) {x v : Int32} {n : Nat} (hx : x = nI n) (hn : n < 16) (hd : decode cc pc = .ok (.iastore, 1)) (kk : sw_W G K nL (pc + 1) lo rest (sv_up M i 11 0 n v)) : sw_W G K nL pc lo (.int v :: .int x :: .ref (sv_ad G 11 i 0) :: rest) M := sw_iast X (by omega) (fun M => by rfl) hx hn (by omega) hd kk
theorem ia_13 {own : String} (X : sv_X G K cc own nL d) (hi : i < 8) {x : Int32} {n : Nat} (hx : x = nI n) (hn : n < 7) (hd : decode cc pc = .ok (.iaload, 1)) (kk : sw_W G K nL (pc + 1) lo (.int (M i 13 0 n) :: rest) M) : sw_W G K nL pc lo (.int x :: .ref (sv_ad G 13 i 0) :: rest) M := sw_iald X (by omega) (by rfl) hx hn (by omega) hd kk
theorem is_13 {own : String} (X : sv_X G K cc own nL d) (hi : i < 8) {x v : Int32} {n : Nat} (hx : x = nI n) (hn : n < 7) (hd : decode cc pc = .ok (.iastore, 1)) (kk : sw_W G K nL (pc + 1) lo rest (sv_up M i 13 0 n v)) : sw_W G K nL pc lo (.int v :: .int x :: .ref (sv_ad G 13 i 0) :: rest) M := sw_iast X (by omega) (fun M => by rfl) hx hn (by omega) hd kk
theorem ia_15 {own : String} (X : sv_X G K cc own nL d) (hi : i < 8) (hj : j < 3) {x : Int32} {n : Nat} (hx : x = nI n) (hn : n < 14) (hd : decode cc pc = .ok (.iaload, 1)) (kk : sw_W G K nL (pc + 1) lo (.int (M i 15 j n) :: rest) M) : sw_W G K nL pc lo (.int x :: .ref (sv_ad G 15 i j) :: rest) M := sw_iald X (by omega) (by rfl) hx hn (by omega) hd kk
theorem is_15 {own : String} (X : sv_X G K cc own nL d) (hi : i < 8) (hj : j < 3) {x v : Int32} {n : Nat} (hx : x = nI n) (hn : n < 14) (hd : decode cc pc = .ok (.iastore, 1)) (kk : sw_W G K nL (pc + 1) lo rest (sv_up M i 15 j n v)) : sw_W G K nL pc lo (.int v :: .int x :: .ref (sv_ad G 15 i j) :: rest) M := sw_iast X (by omega) (fun M => by rfl) hx hn (by omega) hd kk
theorem ia_16 {own : String} (X : sv_X G K cc own nL d) (hi : i < 8) (hj : j < 3) {x : Int32} {n : Nat} (hx : x = nI n) (hn : n < 12) (hd : decode cc pc = .ok (.iaload, 1)) (kk : sw_W G K nL (pc + 1) lo (.int (M i 16 j n) :: rest) M) : sw_W G K nL pc lo (.int x :: .ref (sv_ad G 16 i j) :: rest) M := sw_iald X (by omega) (by rfl) hx hn (by omega) hd kk
theorem is_16 {own : String} (X : sv_X G K cc own nL d) (hi : i < 8) (hj : j < 3) {x v : Int32} {n : Nat} (hx : x = nI n) (hn : n < 12) (hd : decode cc pc = .ok (.iastore, 1)) (kk : sw_W G K nL (pc + 1) lo rest (sv_up M i 16 j n v)) : sw_W G K nL pc lo (.int v :: .int x :: .ref (sv_ad G 16 i j) :: rest) M := sw_iast X (by omega) (fun M => by rfl) hx hn (by omega) hd kk
theorem ia_17 {own : String} (X : sv_X G K cc own nL d) (hi : i < 8) (hj : j < 3) {x : Int32} {n : Nat} (hx : x = nI n) (hn : n < 14) (hd : decode cc pc = .ok (.iaload, 1)) (kk : sw_W G K nL (pc + 1) lo (.int (M i 17 j n) :: rest) M) : sw_W G K nL pc lo (.int x :: .ref (sv_ad G 17 i j) :: rest) M := sw_iald X (by omega) (by rfl) hx hn (by omega) hd kk
theorem is_17 {own : String} (X : sv_X G K cc own nL d) (hi : i < 8) (hj : j < 3) {x v : Int32} {n : Nat} (hx : x = nI n) (hn : n < 14) (hd : decode cc pc = .ok (.iastore, 1)) (kk : sw_W G K nL (pc + 1) lo rest (sv_up M i 17 j n v)) : sw_W G K nL pc lo (.int v :: .int x :: .ref (sv_ad G 17 i j) :: rest) M := sw_iast X (by omega) (fun M => by rfl) hx hn (by omega) hd kk
theorem ia_18 {own : String} (X : sv_X G K cc own nL d) (hi : i < 8) (hj : j < 3) {x : Int32} {n : Nat} (hx : x = nI n) (hn : n < 224) (hd : decode cc pc = .ok (.iaload, 1)) (kk : sw_W G K nL (pc + 1) lo (.int (M i 18 j n) :: rest) M) : sw_W G K nL pc lo (.int x :: .ref (sv_ad G 18 i j) :: rest) M := sw_iald X (by omega) (by rfl) hx hn (by omega) hd kk
theorem is_18 {own : String} (X : sv_X G K cc own nL d) (hi : i < 8) (hj : j < 3) {x v : Int32} {n : Nat} (hx : x = nI n) (hn : n < 224) (hd : decode cc pc = .ok (.iastore, 1)) (kk : sw_W G K nL (pc + 1) lo rest (sv_up M i 18 j n v)) : sw_W G K nL pc lo (.int v :: .int x :: .ref (sv_ad G 18 i j) :: rest) M := sw_iast X (by omega) (fun M => by rfl) hx hn (by omega) hd kk
theorem ia_3 {own : String} (X : sv_X G K cc own nL d) {x : Int32} {n : Nat} (hx : x = nI n) (hn : n < 80) (hd : decode cc pc = .ok (.caload, 1)) (kk : sw_W G K nL (pc + 1) lo (.int (M 8 3 0 n) :: rest) M) : sw_W G K nL pc lo (.int x :: .ref (sv_ad G 3 8 0) :: rest) M := sw_cald X (by omega) (by rfl) hx hn (by omega) hd kk
theorem is_3 {own : String} (X : sv_X G K cc own nL d) {x v : Int32} {n : Nat} (hx : x = nI n) (hn : n < 80) (hvn : vp_nar .char v = v) (hd : decode cc pc = .ok (.castore, 1)) (kk : sw_W G K nL (pc + 1) lo rest (sv_up M 8 3 0 n v)) : sw_W G K nL pc lo (.int v :: .int x :: .ref (sv_ad G 3 8 0) :: rest) M := sw_cast X (by omega) (fun M => by rfl) hx hn (by omega) hvn hd kk
end SITES
end
section
theorem pn_X0 : plainName RX0 = true := by decide +kernel
theorem pn_X1 : plainName RX1 = true := by decide +kernel
theorem pn_X2 : plainName RX2 = true := by decide +kernel
theorem pn_X3 : plainName RX3 = true := by decide +kernel
theorem pn_X4 : plainName RX4 = true := by decide +kernel
theorem pn_J6 : plainName RJ6 = true := by decide +kernel
theorem sv_nzB {b : Prop} [Decidable b] : narrow .boolean (.int (bI b)) = .int (bI b) := by unfold bI; split <;> rfl
theorem rb_t {b : Prop} [Decidable b] (h : b) : some (Value.int (bI b)) = some (.int (nI 1)) := by rw [bI_t h]
theorem rb_f {b : Prop} [Decidable b] (h : ¬ b) : some (Value.int (bI b)) = some (.int (nI 0)) := by rw [bI_f h]
theorem ri_of {x y : Int32} (h : x = y) : some (Value.int x) = some (.int y) := by rw [h]
theorem sv_ti {x : Int32} {c : Nat} (h : ¬ x = nI c) (hc : c < 2 ^ 31) : x.toInt ≠ (c : Int) := fun e => h (Int32.toInt_inj.mp (e.trans (nI_toInt hc).symm))
theorem sw_case {G : sv_G} {K : sv_K} {nL : Nat} {M : sv_Mem} {pc : Nat} {lo : List (Option Value)} {rest : List Value} {x v : Int32} (kt : x = v → sw_W G K nL pc lo (.int x :: rest) M) (kf : ¬ x = v → sw_W G K nL pc lo (.int x :: rest) M) : sw_W G K nL pc lo (.int x :: rest) M := by
  by_cases h : x = v
  · exact kt h
  · exact kf h
theorem sw_tabInV {G : sv_G} {K : sv_K} {cc : ByteArray} {own : String} {nL d : Nat} {M : sv_Mem} {pc : Nat} {lo : List (Option Value)} {rest : List Value} (X : sv_X G K cc own nL d) {dflt a b : Int} {offs : Array Int} {len : Nat} {x v : Int32} {q : Nat} (tgt : Nat) (hd : decode cc pc = .ok (.tableswitch dflt a b offs, len)) (h : x = v) (hv : v.toInt = a + (q : Int) ∧ a + (q : Int) ≤ b) (ho : offs[q]?.map (fun o => (pc : Int) + o) = some (tgt : Int)) (k : sw_W G K nL tgt lo rest M) : sw_W G K nL pc lo (.int x :: rest) M := by
  subst h
  obtain ⟨h1, h2⟩ := hv
  cases hq : offs[q]? with
  | none => rw [hq] at ho; cases ho
  | some off =>
    rw [hq] at ho
    exact sw_tabIn X tgt hd (by omega) (by omega) (off := off) (by rw [h1, show a + (q : Int) - a = (q : Int) by omega]; exact hq) (Option.some.inj ho) k
theorem sw_lookupV {G : sv_G} {K : sv_K} {cc : ByteArray} {own : String} {nL d : Nat} {M : sv_Mem} {pc : Nat} {lo : List (Option Value)} {rest : List Value} (X : sv_X G K cc own nL d) {dflt : Int} {ps : Array (Int × Int)} {len : Nat} {x v : Int32} (tgt : Nat) (hd : decode cc pc = .ok (.lookupswitch dflt ps, len)) (hp : (ps.toList.zip (ps.toList.drop 1)).all (fun (a, next) => a.1 < next.1) = true) (h : x = v) (ho : (pc : Int) + Op.lookupswitch.offset ps.toList dflt v.toInt = (tgt : Int)) (k : sw_W G K nL tgt lo rest M) : sw_W G K nL pc lo (.int x :: rest) M := by
  subst h
  exact sw_lookup X tgt hd hp rfl ho k
/-- bit k of a set -/
def bt (x : Int32) (k : Nat) : Bool := x.toBitVec.getLsbD k
/-- the mode of key k in a word of modes -/
def md (x : Int32) (k : Nat) : Int32 := (x >>> (nI (2 * k) &&& 31)) &&& nI 3
/-- a word of modes with another mode of key k -/
def sm (x : Int32) (k : Nat) (v : Int32) : Int32 := (x &&& ((nI 3 <<< (nI (2 * k) &&& 31)) ^^^ (-1))) ||| (v <<< (nI (2 * k) &&& 31))
/-- a set with key k in it -/
def sb (x : Int32) (k : Nat) : Int32 := x ||| (nI 1 <<< (nI k &&& 31))
theorem sv_tn {n : Nat} (h : n < 2 ^ 32) : (nI n).toBitVec.toNat = n := pk_tn h
theorem sv_and31 {k : Nat} (h : k < 32) : nI k &&& 31 = nI k := by
  rw [pk_andN (n := k) (by omega) 5 rfl, Nat.mod_eq_of_lt (by omega)]
theorem sv_smod {k : Nat} (h : k < 32) : ((nI k).toBitVec.smod 32).toNat = k := by
  have : ∀ k, k < 32 → ((nI k).toBitVec.smod 32).toNat = k := by decide +kernel
  exact this k h
theorem sv_shr_bv (x : Int32) {k : Nat} (h : k < 32) : (x >>> (nI k &&& 31)).toBitVec = x.toBitVec.sshiftRight k := by
  rw [sv_and31 h, Int32.toBitVec_shiftRight, BitVec.sshiftRight_eq', sv_smod h]
theorem sv_shl_bv (x : Int32) {k : Nat} (h : k < 32) : (x <<< (nI k &&& 31)).toBitVec = x.toBitVec <<< k := by
  rw [sv_and31 h, Int32.toBitVec_shiftLeft, BitVec.shiftLeft_eq', sv_smod h]
theorem bt_shr1 (x : Int32) {k : Nat} (h : k < 32) : (x >>> (nI k &&& 31)) &&& nI 1 = if bt x k then nI 1 else nI 0 := by
  apply Int32.toBitVec_inj.mp
  apply BitVec.eq_of_getLsbD_eq
  intro i hi
  rw [Int32.toBitVec_and, sv_shr_bv x h, BitVec.getLsbD_and, BitVec.getLsbD_sshiftRight]
  have e1 : (nI 1).toBitVec.getLsbD i = decide (i = 0) := by
    have : ∀ i, i < 32 → (nI 1).toBitVec.getLsbD i = decide (i = 0) := by decide +kernel
    exact this i hi
  rw [e1]
  by_cases hi0 : i = 0
  · subst hi0
    simp only [decide_true, Bool.and_true, Nat.add_zero]
    unfold bt
    rw [if_pos (by omega)]
    cases x.toBitVec.getLsbD k <;> simp <;> decide
  · simp only [decide_eq_false hi0, Bool.and_false]
    split <;> simp [e1, hi0]
    have : ∀ i, i < 32 → (nI 0).toBitVec.getLsbD i = false := by decide +kernel
    exact this i hi
theorem bt_has (x : Int32) {k : Nat} (h : k < 32) : ((x >>> (nI k &&& 31)) &&& nI 1 = nI 1) ↔ bt x k = true := by
  rw [bt_shr1 x h]
  cases bt x k <;> simp
  decide
theorem bt_has0 (x : Int32) {k : Nat} (h : k < 32) : ((x >>> (nI k &&& 31)) &&& nI 1 = 0) ↔ bt x k = false := by
  rw [bt_shr1 x h]
  cases bt x k <;> simp
  · rfl
  · decide
theorem bt_shl (k : Nat) (hk : k < 32) (i : Nat) (hi : i < 32) : (nI 1 <<< (nI k &&& 31)).toBitVec.getLsbD i = decide (i = k) := by
  rw [sv_shl_bv _ hk, BitVec.getLsbD_shiftLeft]
  have e1 : ∀ i, i < 32 → (nI 1).toBitVec.getLsbD i = decide (i = 0) := by decide +kernel
  by_cases h : i < k
  · simp [h]; omega
  · rw [e1 (i - k) (by omega)]
    simp [h, hi]
    omega
theorem bt_sb (x : Int32) {k i : Nat} (hk : k < 32) (hi : i < 32) : bt (sb x k) i = (bt x i || decide (i = k)) := by
  unfold bt sb
  rw [Int32.toBitVec_or, BitVec.getLsbD_or, bt_shl k hk i hi]
theorem bt_and0 (x : Int32) {k : Nat} (hk : k < 32) : (x &&& (nI 1 <<< (nI k &&& 31)) = 0) ↔ bt x k = false := by
  constructor
  · intro h
    have h2 := congrArg (fun z : Int32 => z.toBitVec.getLsbD k) h
    simp only [Int32.toBitVec_and, BitVec.getLsbD_and, bt_shl k hk k hk] at h2
    unfold bt
    simpa using h2
  · intro h
    apply Int32.toBitVec_inj.mp
    apply BitVec.eq_of_getLsbD_eq
    intro i hi
    rw [Int32.toBitVec_and, BitVec.getLsbD_and, bt_shl k hk i hi]
    by_cases hik : i = k
    · subst hik
      unfold bt at h
      rw [h]
      simp
    · simp [hik]
theorem bt_or (x y : Int32) (i : Nat) : bt (x ||| y) i = (bt x i || bt y i) := by
  unfold bt
  rw [Int32.toBitVec_or, BitVec.getLsbD_or]
theorem bt_0 (i : Nat) : bt (nI 0) i = false := by
  unfold bt nI
  simp
theorem bt_ext {x y : Int32} (h : ∀ i, i < 32 → bt x i = bt y i) : x = y := Int32.toBitVec_inj.mp (BitVec.eq_of_getLsbD_eq (fun i hi => h i hi))
theorem md_bt (x : Int32) {k i : Nat} (hk : k < 16) (hi : i < 32) : bt (md x k) i = (decide (i < 2) && bt x (2 * k + i)) := by
  unfold md bt
  rw [Int32.toBitVec_and, BitVec.getLsbD_and, sv_shr_bv x (by omega), BitVec.getLsbD_sshiftRight]
  have e3 : ∀ i, i < 32 → (nI 3).toBitVec.getLsbD i = decide (i < 2) := by decide +kernel
  rw [e3 i hi]
  by_cases h : i < 2
  · rw [if_pos (by omega)]
    simp [h, hi]
  · simp [h]
theorem md_ushr (x : Int32) {k : Nat} (hk : k < 16) : sv_ushr x (nI (2 * k)) &&& nI 3 = md x k := by
  apply bt_ext
  intro i hi
  rw [md_bt x hk hi]
  have h31 : (UInt32.toBitVec ((nI (2 * k)).toUInt32 &&& Int32.toUInt32 31) % 32).toNat = 2 * k := by
    have : ∀ k, k < 16 → (UInt32.toBitVec ((nI (2 * k)).toUInt32 &&& Int32.toUInt32 31) % 32).toNat = 2 * k := by decide +kernel
    exact this k hk
  have e3 : ∀ i, i < 32 → (nI 3).toBitVec.getLsbD i = decide (i < 2) := by decide +kernel
  unfold bt sv_ushr
  rw [Int32.toBitVec_and, BitVec.getLsbD_and, e3 i hi]
  have e4 : (UInt32.toInt32 (x.toUInt32 >>> ((nI (2 * k)).toUInt32 &&& Int32.toUInt32 31))).toBitVec = x.toBitVec >>> (2 * k) := by
    show (x.toUInt32 >>> ((nI (2 * k)).toUInt32 &&& Int32.toUInt32 31)).toBitVec = _
    rw [UInt32.toBitVec_shiftRight, BitVec.ushiftRight_eq', h31]
    rfl
  rw [e4, BitVec.getLsbD_ushiftRight]
  exact Bool.and_comm _ _
theorem sm_bt (x v : Int32) {k i : Nat} (hk : k < 16) (hi : i < 32) (hv : ∀ i, i < 32 → 2 ≤ i → bt v i = false) : bt (sm x k v) i = if 2 * k ≤ i ∧ i < 2 * k + 2 then bt v (i - 2 * k) else bt x i := by
  have e3 : ∀ i, i < 32 → (nI 3).toBitVec.getLsbD i = decide (i < 2) := by decide +kernel
  have em : ∀ i, i < 32 → (-1 : Int32).toBitVec.getLsbD i = true := by decide +kernel
  unfold sm
  unfold bt at hv ⊢
  rw [Int32.toBitVec_or, BitVec.getLsbD_or, Int32.toBitVec_and, BitVec.getLsbD_and, Int32.toBitVec_xor, BitVec.getLsbD_xor, em i hi, sv_shl_bv _ (show 2 * k < 32 by omega), sv_shl_bv _ (show 2 * k < 32 by omega), BitVec.getLsbD_shiftLeft, BitVec.getLsbD_shiftLeft]
  by_cases h1 : i < 2 * k
  · rw [if_neg (by omega)]
    simp [h1]
  · rw [e3 (i - 2 * k) (by omega)]
    by_cases h2 : i < 2 * k + 2
    · rw [if_pos ⟨by omega, h2⟩]
      simp [h1, hi, show i - 2 * k < 2 by omega]
    · rw [if_neg (by omega), hv (i - 2 * k) (by omega) (by omega)]
      simp [h1, hi, show ¬ i - 2 * k < 2 by omega]
/-- a mode: 0 to 3 -/
def isMd (v : Int32) : Prop := ∀ i, i < 32 → 2 ≤ i → bt v i = false
theorem isMd_md (x : Int32) {k : Nat} (hk : k < 16) : isMd (md x k) := fun i hi h2 => by rw [md_bt x hk hi]; simp; omega
theorem isMd_c : isMd (nI 0) ∧ isMd (nI 1) ∧ isMd (nI 2) := by
  have : ∀ i, i < 32 → 2 ≤ i → (bt (nI 0) i = false ∧ bt (nI 1) i = false ∧ bt (nI 2) i = false) := by decide +kernel
  exact ⟨fun i h1 h2 => (this i h1 h2).1, fun i h1 h2 => (this i h1 h2).2.1, fun i h1 h2 => (this i h1 h2).2.2⟩
theorem md_sm (x v : Int32) {k q : Nat} (hk : k < 16) (hq : q < 16) (hv : isMd v) : md (sm x k v) q = if q = k then v else md x q := by
  apply bt_ext
  intro i hi
  rw [md_bt _ hq hi]
  by_cases h2 : i < 2
  · rw [sm_bt x v hk (by omega) hv]
    by_cases hqk : q = k
    · subst hqk
      rw [if_pos (by omega), if_pos rfl]
      simp [h2]
    · rw [if_neg (by omega), if_neg hqk, md_bt _ hq hi]
  · simp only [h2, decide_false, Bool.false_and]
    by_cases hqk : q = k
    · rw [if_pos hqk]
      exact (hv i hi (by omega)).symm
    · rw [if_neg hqk]
      exact (isMd_md x hq i hi (by omega)).symm
theorem md_ext {x y : Int32} (h : ∀ k, k < 16 → md x k = md y k) : x = y := by
  apply bt_ext
  intro i hi
  have h1 := congrArg (fun z => bt z (i % 2)) (h (i / 2) (by omega))
  simp only [md_bt _ (show i / 2 < 16 by omega) (show i % 2 < 32 by omega)] at h1
  rw [show 2 * (i / 2) + i % 2 = i by omega] at h1
  simpa [show i % 2 < 2 by omega] using h1

section SWI
variable {G : sv_G} {K : sv_K} {cc : ByteArray} {own : String} {nL d : Nat} {M : sv_Mem} {pc : Nat} {lo : List (Option Value)} {rest : List Value}
theorem sw_inc1_0 (X : sv_X G K cc own nL d) {t : List (Option Value)} {r : Nat} (hd : decode cc pc = .ok (.iinc 0 1, 3)) (k : sw_W G K nL (pc + 3) (some (.int (nI (r + 1))) :: t) rest M) : sw_W G K nL pc (some (.int (nI r)) :: t) rest M := sw_iinc_0 X (nI (r + 1)) hd (nI_succ r).symm k
theorem sw_inc1_1 (X : sv_X G K cc own nL d) {v0 : Option Value} {t : List (Option Value)} {r : Nat} (hd : decode cc pc = .ok (.iinc 1 1, 3)) (h1 : sv_c1 v0) (k : sw_W G K nL (pc + 3) (v0 :: some (.int (nI (r + 1))) :: t) rest M) : sw_W G K nL pc (v0 :: some (.int (nI r)) :: t) rest M := sw_iinc_1 X (nI (r + 1)) hd (nI_succ r).symm h1 k
theorem sw_inc1_2 (X : sv_X G K cc own nL d) {v0 v1 : Option Value} {t : List (Option Value)} {r : Nat} (hd : decode cc pc = .ok (.iinc 2 1, 3)) (h1 : sv_c1 v1) (k : sw_W G K nL (pc + 3) (v0 :: v1 :: some (.int (nI (r + 1))) :: t) rest M) : sw_W G K nL pc (v0 :: v1 :: some (.int (nI r)) :: t) rest M := sw_iinc_2 X (nI (r + 1)) hd (nI_succ r).symm h1 k
theorem sw_inc1_3 (X : sv_X G K cc own nL d) {v0 v1 v2 : Option Value} {t : List (Option Value)} {r : Nat} (hd : decode cc pc = .ok (.iinc 3 1, 3)) (h1 : sv_c1 v2) (k : sw_W G K nL (pc + 3) (v0 :: v1 :: v2 :: some (.int (nI (r + 1))) :: t) rest M) : sw_W G K nL pc (v0 :: v1 :: v2 :: some (.int (nI r)) :: t) rest M := sw_iinc_3 X (nI (r + 1)) hd (nI_succ r).symm h1 k
theorem sw_inc1_4 (X : sv_X G K cc own nL d) {v0 v1 v2 v3 : Option Value} {t : List (Option Value)} {r : Nat} (hd : decode cc pc = .ok (.iinc 4 1, 3)) (h1 : sv_c1 v3) (k : sw_W G K nL (pc + 3) (v0 :: v1 :: v2 :: v3 :: some (.int (nI (r + 1))) :: t) rest M) : sw_W G K nL pc (v0 :: v1 :: v2 :: v3 :: some (.int (nI r)) :: t) rest M := sw_iinc_4 X (nI (r + 1)) hd (nI_succ r).symm h1 k
theorem sw_inc1_5 (X : sv_X G K cc own nL d) {v0 v1 v2 v3 v4 : Option Value} {t : List (Option Value)} {r : Nat} (hd : decode cc pc = .ok (.iinc 5 1, 3)) (h1 : sv_c1 v4) (k : sw_W G K nL (pc + 3) (v0 :: v1 :: v2 :: v3 :: v4 :: some (.int (nI (r + 1))) :: t) rest M) : sw_W G K nL pc (v0 :: v1 :: v2 :: v3 :: v4 :: some (.int (nI r)) :: t) rest M := sw_iinc_5 X (nI (r + 1)) hd (nI_succ r).symm h1 k
theorem sw_inc1_6 (X : sv_X G K cc own nL d) {v0 v1 v2 v3 v4 v5 : Option Value} {t : List (Option Value)} {r : Nat} (hd : decode cc pc = .ok (.iinc 6 1, 3)) (h1 : sv_c1 v5) (k : sw_W G K nL (pc + 3) (v0 :: v1 :: v2 :: v3 :: v4 :: v5 :: some (.int (nI (r + 1))) :: t) rest M) : sw_W G K nL pc (v0 :: v1 :: v2 :: v3 :: v4 :: v5 :: some (.int (nI r)) :: t) rest M := sw_iinc_6 X (nI (r + 1)) hd (nI_succ r).symm h1 k
theorem sw_inc1_7 (X : sv_X G K cc own nL d) {v0 v1 v2 v3 v4 v5 v6 : Option Value} {t : List (Option Value)} {r : Nat} (hd : decode cc pc = .ok (.iinc 7 1, 3)) (h1 : sv_c1 v6) (k : sw_W G K nL (pc + 3) (v0 :: v1 :: v2 :: v3 :: v4 :: v5 :: v6 :: some (.int (nI (r + 1))) :: t) rest M) : sw_W G K nL pc (v0 :: v1 :: v2 :: v3 :: v4 :: v5 :: v6 :: some (.int (nI r)) :: t) rest M := sw_iinc_7 X (nI (r + 1)) hd (nI_succ r).symm h1 k
theorem sw_inc1_8 (X : sv_X G K cc own nL d) {v0 v1 v2 v3 v4 v5 v6 v7 : Option Value} {t : List (Option Value)} {r : Nat} (hd : decode cc pc = .ok (.iinc 8 1, 3)) (h1 : sv_c1 v7) (k : sw_W G K nL (pc + 3) (v0 :: v1 :: v2 :: v3 :: v4 :: v5 :: v6 :: v7 :: some (.int (nI (r + 1))) :: t) rest M) : sw_W G K nL pc (v0 :: v1 :: v2 :: v3 :: v4 :: v5 :: v6 :: v7 :: some (.int (nI r)) :: t) rest M := sw_iinc_8 X (nI (r + 1)) hd (nI_succ r).symm h1 k
theorem sw_inc1_9 (X : sv_X G K cc own nL d) {v0 v1 v2 v3 v4 v5 v6 v7 v8 : Option Value} {t : List (Option Value)} {r : Nat} (hd : decode cc pc = .ok (.iinc 9 1, 3)) (h1 : sv_c1 v8) (k : sw_W G K nL (pc + 3) (v0 :: v1 :: v2 :: v3 :: v4 :: v5 :: v6 :: v7 :: v8 :: some (.int (nI (r + 1))) :: t) rest M) : sw_W G K nL pc (v0 :: v1 :: v2 :: v3 :: v4 :: v5 :: v6 :: v7 :: v8 :: some (.int (nI r)) :: t) rest M := sw_iinc_9 X (nI (r + 1)) hd (nI_succ r).symm h1 k
theorem sw_inc1_10 (X : sv_X G K cc own nL d) {v0 v1 v2 v3 v4 v5 v6 v7 v8 v9 : Option Value} {t : List (Option Value)} {r : Nat} (hd : decode cc pc = .ok (.iinc 10 1, 3)) (h1 : sv_c1 v9) (k : sw_W G K nL (pc + 3) (v0 :: v1 :: v2 :: v3 :: v4 :: v5 :: v6 :: v7 :: v8 :: v9 :: some (.int (nI (r + 1))) :: t) rest M) : sw_W G K nL pc (v0 :: v1 :: v2 :: v3 :: v4 :: v5 :: v6 :: v7 :: v8 :: v9 :: some (.int (nI r)) :: t) rest M := sw_iinc_10 X (nI (r + 1)) hd (nI_succ r).symm h1 k
theorem sw_inc1_11 (X : sv_X G K cc own nL d) {v0 v1 v2 v3 v4 v5 v6 v7 v8 v9 v10 : Option Value} {t : List (Option Value)} {r : Nat} (hd : decode cc pc = .ok (.iinc 11 1, 3)) (h1 : sv_c1 v10) (k : sw_W G K nL (pc + 3) (v0 :: v1 :: v2 :: v3 :: v4 :: v5 :: v6 :: v7 :: v8 :: v9 :: v10 :: some (.int (nI (r + 1))) :: t) rest M) : sw_W G K nL pc (v0 :: v1 :: v2 :: v3 :: v4 :: v5 :: v6 :: v7 :: v8 :: v9 :: v10 :: some (.int (nI r)) :: t) rest M := sw_iinc_11 X (nI (r + 1)) hd (nI_succ r).symm h1 k
theorem sw_inc1_12 (X : sv_X G K cc own nL d) {v0 v1 v2 v3 v4 v5 v6 v7 v8 v9 v10 v11 : Option Value} {t : List (Option Value)} {r : Nat} (hd : decode cc pc = .ok (.iinc 12 1, 3)) (h1 : sv_c1 v11) (k : sw_W G K nL (pc + 3) (v0 :: v1 :: v2 :: v3 :: v4 :: v5 :: v6 :: v7 :: v8 :: v9 :: v10 :: v11 :: some (.int (nI (r + 1))) :: t) rest M) : sw_W G K nL pc (v0 :: v1 :: v2 :: v3 :: v4 :: v5 :: v6 :: v7 :: v8 :: v9 :: v10 :: v11 :: some (.int (nI r)) :: t) rest M := sw_iinc_12 X (nI (r + 1)) hd (nI_succ r).symm h1 k
end SWI
end
