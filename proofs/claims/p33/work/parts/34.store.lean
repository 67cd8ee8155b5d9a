/-! the class: the store -/
def mY (M : sv_Mem) (n : Nat) (v : Int32) : sv_Mem := sv_upA M 8 0 0 (va_up (M 8 0 0) n v)
theorem upY (M : sv_Mem) (n : Nat) (v : Int32) : sv_up M 8 0 0 n v = mY M n v := rfl
theorem mY_y (M : sv_Mem) (n : Nat) (v : Int32) : mY M n v 8 0 0 = va_up (M 8 0 0) n v := sv_upA_at ..
theorem mY_i (M : sv_Mem) (n : Nat) (v : Int32) {i : Nat} (h : i ≠ 8) : mY M n v i = M i := by
  unfold mY sv_upA
  exact va_up_ne _ _ h
theorem mY_o (M : sv_Mem) (n : Nat) (v : Int32) {i k j : Nat} (h : ¬ (k = 0 ∧ i = 8 ∧ j = 0)) : mY M n v i k j = M i k j := sv_upA_get M _ h
/-- the ring of the history: its oldest slot, its length; how many moments the transactions have -/
def hsOk (M : sv_Mem) (o t : Nat) (cs : Nat → Nat) : Prop := M 8 0 0 4 = nI o ∧ o < 6 ∧ M 8 0 0 5 = nI t ∧ t ≤ 5 ∧ csOk (M 0) cs 13 ∧ (M 0 10 0 0 = nI 0 ∨ M 0 10 0 0 = nI 1)
theorem csOk.w {T : sv_T} {cs : Nat → Nat} {a b : Nat} (h : csOk T cs a) (hb : a ≤ b) : csOk T cs b := fun j hj => ⟨(h j hj).1, Nat.le_trans (h j hj).2 hb⟩
/-- the remembered state; the recorded one -/
def rmM (M : sv_Mem) (o t : Nat) (cs : Nat → Nat) : sv_Mem := sT M ((o + t) % 6 + 2) (cpS (M ((o + t) % 6 + 2)) (M 0) cs)
def rcY (M : sv_Mem) (o t : Nat) : sv_Mem := if t < 5 then mY M 5 (nI (t + 1)) else mY M 4 (nI ((o + 1) % 6))
theorem rmM_8 (M : sv_Mem) (o t : Nat) (cs : Nat → Nat) : rmM M o t cs 8 = M 8 := sT_ne _ _ (by omega)
theorem rmM_0 (M : sv_Mem) (o t : Nat) (cs : Nat → Nat) : rmM M o t cs 0 = M 0 := sT_ne _ _ (by omega)

set_option maxHeartbeats 4000000 in
set_option maxRecDepth 100000 in
theorem c_X3_slotBehindHistory {G : sv_G} {M : sv_Mem} {o t : Nat} (ho : M 8 0 0 4 = nI o) (ho2 : o < 6) (ht : M 8 0 0 5 = nI t) (ht2 : t ≤ 5) : sv_Ct G M_X3_slotBehindHistory 0 [.ref (sv_ad G 0 8 0)] M (some (.int (nI ((o + t) % 6)))) (M) := by
  refine sv_Ct_of (lo := [some (.ref (sv_ad G 0 8 0))]) (pn_X3) rfl (Nat.le_of_ble_eq_true rfl) rfl (fun K X Y => ?_)
  replace X : sv_X G K cX3_slotBehindHistory RX3 1 0 := X
  replace Y : sv_Y G K (some .int) _ _ := Y
  show sw_W G K 1 0 _ _ _
  refine sw_aload_0 X dX3_slotBehindHistory_0 ?_
  refine gf_X3_190 X dX3_slotBehindHistory_1 ?_
  refine sw_tope ho ?_
  refine sw_aload_0 X dX3_slotBehindHistory_4 ?_
  refine gf_X3_99 X dX3_slotBehindHistory_5 ?_
  refine sw_tope ht ?_
  refine sw_iadd X dX3_slotBehindHistory_8 ?_
  try refine sw_tope (nI_add _ _) ?_
  refine sw_bipush X (nI 6) dX3_slotBehindHistory_9 (by decide) ?_
  refine sw_irem X (by decide) dX3_slotBehindHistory_11 ?_
  refine sw_tope (v2 := nI ((o + t) % 6)) (pk_rem (by omega) (by omega) (by omega)) ?_
  exact sw_iret X Y dX3_slotBehindHistory_12 (rfl) (rfl)
set_option maxHeartbeats 4000000 in
set_option maxRecDepth 100000 in
theorem c_X3_rememberState {G : sv_G} {M : sv_Mem} {o t : Nat} {cs : Nat → Nat} (hH : hsOk M o t cs) : sv_Ct G M_X3_rememberState 3 [.ref (sv_ad G 0 8 0)] M (none) (rmM M o t cs) := by
  obtain ⟨ho, ho2, ht, ht2, hcs, hK⟩ := id hH
  refine sv_Ct_of (lo := [some (.ref (sv_ad G 0 8 0))]) (pn_X3) rfl (Nat.le_of_ble_eq_true rfl) rfl (fun K X Y => ?_)
  replace X : sv_X G K cX3_rememberState RX3 1 3 := X
  replace Y : sv_Y G K none _ _ := Y
  show sw_W G K 1 0 _ _ _
  refine sw_aload_0 X dX3_rememberState_0 ?_
  refine gf_X3_19 X dX3_rememberState_1 ?_
  refine sw_aload_0 X dX3_rememberState_4 ?_
  refine ca_X3_102 X (by decide) dX3_rememberState_5 (Nat.le_of_ble_eq_true rfl) (c_X3_slotBehindHistory ho ho2 ht ht2) ?_
  refine sw_aaldS X rfl (by omega) dX3_rememberState_8 ?_
  refine sw_aload_0 X dX3_rememberState_9 ?_
  refine gf_X3_12 X dX3_rememberState_10 ?_
  refine ca_X3_105 X (by omega) (by decide) dX3_rememberState_13 (Nat.le_of_ble_eq_true rfl) (c_X1_copyFrom (i := (o + t) % 6 + 2) (i2 := 0) (by omega) (by decide) (by omega) (hcs.w (by omega)) hK) ?_
  exact sw_vret X Y dX3_rememberState_16 rfl (rfl)
set_option maxHeartbeats 4000000 in
set_option maxRecDepth 100000 in
theorem c_X3_recordUnlessError_e {G : sv_G} {M : sv_Mem} {v : Int32} (hv : isEr v) : sv_Ct G M_X3_recordUnlessError 1 [.ref (sv_ad G 0 8 0), .int v] M (some (.int v)) (M) := by
  refine sv_Ct_of (lo := [some (.ref (sv_ad G 0 8 0)), some (.int v)]) (pn_X3) rfl (Nat.le_of_ble_eq_true rfl) rfl (fun K X Y => ?_)
  replace X : sv_X G K cX3_recordUnlessError RX3 2 1 := X
  replace Y : sv_Y G K (some .int) _ _ := Y
  show sw_W G K 2 0 _ _ _
  refine sw_iload_1 X dX3_recordUnlessError_0 ?_
  refine ca_X3_96 X (by decide) dX3_recordUnlessError_1 (Nat.le_of_ble_eq_true rfl) c_X3_isError ?_
  refine sw_ifB_eq X 9 dX3_recordUnlessError_4 (by decide) (fun h4 => ?_) (fun h4 => ?_)
  ·
    exact absurd hv h4
  ·
    refine sw_iload_1 X dX3_recordUnlessError_7 ?_
    exact sw_iret X Y dX3_recordUnlessError_8 (rfl) (rfl)
set_option maxHeartbeats 4000000 in
set_option maxRecDepth 100000 in
theorem c_X3_recordUnlessError_y {G : sv_G} {M : sv_Mem} {o t : Nat} (ho : M 8 0 0 4 = nI o) (ho2 : o < 6) (ht : M 8 0 0 5 = nI t) (ht2 : t ≤ 5) {v : Int32} (hv : ¬ isEr v) : sv_Ct G M_X3_recordUnlessError 1 [.ref (sv_ad G 0 8 0), .int v] M (some (.int v)) (rcY M o t) := by
  refine sv_Ct_of (lo := [some (.ref (sv_ad G 0 8 0)), some (.int v)]) (pn_X3) rfl (Nat.le_of_ble_eq_true rfl) rfl (fun K X Y => ?_)
  replace X : sv_X G K cX3_recordUnlessError RX3 2 1 := X
  replace Y : sv_Y G K (some .int) _ _ := Y
  show sw_W G K 2 0 _ _ _
  refine sw_iload_1 X dX3_recordUnlessError_0 ?_
  refine ca_X3_96 X (by decide) dX3_recordUnlessError_1 (Nat.le_of_ble_eq_true rfl) c_X3_isError ?_
  refine sw_ifB_eq X 9 dX3_recordUnlessError_4 (by decide) (fun h4 => ?_) (fun h4 => ?_)
  ·
    refine sw_aload_0 X dX3_recordUnlessError_9 ?_
    refine gf_X3_99 X dX3_recordUnlessError_10 ?_
    refine sw_tope ht ?_
    refine sw_iconst X (nI 5) dX3_recordUnlessError_13 (by decide) ?_
    refine sw_icmp_ge X 30 dX3_recordUnlessError_14 (by decide) (fun h14 => ?_) (fun h14 => ?_)
    ·
      have h5 : ¬ t < 5 := fun z => absurd ((nI_leI (a := 5) (b := t) (by omega) (by omega)).mp h14) (by omega)
      refine sw_aload_0 X dX3_recordUnlessError_30 ?_
      refine sw_aload_0 X dX3_recordUnlessError_31 ?_
      refine gf_X3_190 X dX3_recordUnlessError_32 ?_
      refine sw_tope ho ?_
      refine sw_iconst X (nI 1) dX3_recordUnlessError_35 (by decide) ?_
      refine sw_iadd X dX3_recordUnlessError_36 ?_
      try refine sw_tope (nI_add _ _) ?_
      refine sw_bipush X (nI 6) dX3_recordUnlessError_37 (by decide) ?_
      refine sw_irem X (by decide) dX3_recordUnlessError_39 ?_
      refine sw_tope (v2 := nI ((o + 1) % 6)) (pk_rem (by omega) (by omega) (by omega)) ?_
      refine pf_X3_190 X dX3_recordUnlessError_40 ?_
      refine sw_iload_1 X dX3_recordUnlessError_43 ?_
      exact sw_iret X Y dX3_recordUnlessError_44 (rfl) (by unfold rcY; first | (rw [if_pos h5]; rfl) | (rw [if_neg h5]; rfl))
    ·
      have h5 : t < 5 := by have := mt (nI_leI (a := 5) (b := t) (by omega) (by omega)).mpr h14; omega
      refine sw_aload_0 X dX3_recordUnlessError_17 ?_
      refine sw_dup X dX3_recordUnlessError_18 rfl ?_
      refine gf_X3_99 X dX3_recordUnlessError_19 ?_
      refine sw_tope ht ?_
      refine sw_iconst X (nI 1) dX3_recordUnlessError_22 (by decide) ?_
      refine sw_iadd X dX3_recordUnlessError_23 ?_
      try refine sw_tope (nI_add _ _) ?_
      refine pf_X3_99 X dX3_recordUnlessError_24 ?_
      refine sw_goto X 43 dX3_recordUnlessError_27 (by decide) ?_
      refine sw_iload_1 X dX3_recordUnlessError_43 ?_
      exact sw_iret X Y dX3_recordUnlessError_44 (rfl) (by unfold rcY; first | (rw [if_pos h5]; rfl) | (rw [if_neg h5]; rfl))
  ·
    exact absurd h4 hv
set_option maxHeartbeats 4000000 in
set_option maxRecDepth 100000 in
theorem c_X3_begin_e {G : sv_G} {M : sv_Mem} {v r : Int32} {M2 : sv_Mem} {o t : Nat} {cs : Nat → Nat} (hH : hsOk M o t cs) (hOp : sv_Ct G M_X1_openTransaction 1 [.ref (sv_ad G 10 0 0), .int v] (rmM M o t cs) (some (.int r)) M2) (hr : isEr r) : sv_Ct G M_X3_begin 4 [.ref (sv_ad G 0 8 0), .int v] M (some (.int r)) (M2) := by
  refine sv_Ct_of (lo := [some (.ref (sv_ad G 0 8 0)), some (.int v)]) (pn_X3) rfl (Nat.le_of_ble_eq_true rfl) rfl (fun K X Y => ?_)
  replace X : sv_X G K cX3_begin RX3 2 4 := X
  replace Y : sv_Y G K (some .int) _ _ := Y
  show sw_W G K 2 0 _ _ _
  refine sw_aload_0 X dX3_begin_0 ?_
  refine ca_X3_30 X (by decide) dX3_begin_1 (Nat.le_of_ble_eq_true rfl) (c_X3_rememberState hH) ?_
  refine sw_aload_0 X dX3_begin_4 ?_
  refine sw_aload_0 X dX3_begin_5 ?_
  refine gf_X3_12 X dX3_begin_6 ?_
  refine sw_iload_1 X dX3_begin_9 ?_
  refine ca_X3_41 X (by decide) (by decide) dX3_begin_10 (Nat.le_of_ble_eq_true rfl) hOp ?_
  refine ca_X3_37 X (by decide) dX3_begin_13 (Nat.le_of_ble_eq_true rfl) (c_X3_recordUnlessError_e hr) ?_
  exact sw_iret X Y dX3_begin_16 (rfl) (rfl)
set_option maxHeartbeats 4000000 in
set_option maxRecDepth 100000 in
theorem c_X3_begin_y {G : sv_G} {M : sv_Mem} {v r : Int32} {M2 : sv_Mem} {o t : Nat} {cs : Nat → Nat} (hH : hsOk M o t cs) (hOp : sv_Ct G M_X1_openTransaction 1 [.ref (sv_ad G 10 0 0), .int v] (rmM M o t cs) (some (.int r)) M2) (hr : ¬ isEr r) (h8 : M2 8 0 0 = M 8 0 0) : sv_Ct G M_X3_begin 4 [.ref (sv_ad G 0 8 0), .int v] M (some (.int r)) (rcY M2 o t) := by
  obtain ⟨ho, ho2, ht, ht2, hcs, hK⟩ := id hH
  refine sv_Ct_of (lo := [some (.ref (sv_ad G 0 8 0)), some (.int v)]) (pn_X3) rfl (Nat.le_of_ble_eq_true rfl) rfl (fun K X Y => ?_)
  replace X : sv_X G K cX3_begin RX3 2 4 := X
  replace Y : sv_Y G K (some .int) _ _ := Y
  show sw_W G K 2 0 _ _ _
  refine sw_aload_0 X dX3_begin_0 ?_
  refine ca_X3_30 X (by decide) dX3_begin_1 (Nat.le_of_ble_eq_true rfl) (c_X3_rememberState hH) ?_
  refine sw_aload_0 X dX3_begin_4 ?_
  refine sw_aload_0 X dX3_begin_5 ?_
  refine gf_X3_12 X dX3_begin_6 ?_
  refine sw_iload_1 X dX3_begin_9 ?_
  refine ca_X3_41 X (by decide) (by decide) dX3_begin_10 (Nat.le_of_ble_eq_true rfl) hOp ?_
  refine ca_X3_37 X (by decide) dX3_begin_13 (Nat.le_of_ble_eq_true rfl) (c_X3_recordUnlessError_y (by rw [h8]; exact ho) ho2 (by rw [h8]; exact ht) ht2 hr) ?_
  exact sw_iret X Y dX3_begin_16 (rfl) (rfl)
set_option maxHeartbeats 4000000 in
set_option maxRecDepth 100000 in
theorem c_X3_commit_e {G : sv_G} {M : sv_Mem} {v r : Int32} {M2 : sv_Mem} {o t : Nat} {cs : Nat → Nat} (hH : hsOk M o t cs) (hOp : sv_Ct G M_X1_commitTransaction 2 [.ref (sv_ad G 10 0 0), .int v] (rmM M o t cs) (some (.int r)) M2) (hr : isEr r) : sv_Ct G M_X3_commit 4 [.ref (sv_ad G 0 8 0), .int v] M (some (.int r)) (M2) := by
  refine sv_Ct_of (lo := [some (.ref (sv_ad G 0 8 0)), some (.int v)]) (pn_X3) rfl (Nat.le_of_ble_eq_true rfl) rfl (fun K X Y => ?_)
  replace X : sv_X G K cX3_commit RX3 2 4 := X
  replace Y : sv_Y G K (some .int) _ _ := Y
  show sw_W G K 2 0 _ _ _
  refine sw_aload_0 X dX3_commit_0 ?_
  refine ca_X3_30 X (by decide) dX3_commit_1 (Nat.le_of_ble_eq_true rfl) (c_X3_rememberState hH) ?_
  refine sw_aload_0 X dX3_commit_4 ?_
  refine sw_aload_0 X dX3_commit_5 ?_
  refine gf_X3_12 X dX3_commit_6 ?_
  refine sw_iload_1 X dX3_commit_9 ?_
  refine ca_X3_44 X (by decide) (by decide) dX3_commit_10 (Nat.le_of_ble_eq_true rfl) hOp ?_
  refine ca_X3_37 X (by decide) dX3_commit_13 (Nat.le_of_ble_eq_true rfl) (c_X3_recordUnlessError_e hr) ?_
  exact sw_iret X Y dX3_commit_16 (rfl) (rfl)
set_option maxHeartbeats 4000000 in
set_option maxRecDepth 100000 in
theorem c_X3_commit_y {G : sv_G} {M : sv_Mem} {v r : Int32} {M2 : sv_Mem} {o t : Nat} {cs : Nat → Nat} (hH : hsOk M o t cs) (hOp : sv_Ct G M_X1_commitTransaction 2 [.ref (sv_ad G 10 0 0), .int v] (rmM M o t cs) (some (.int r)) M2) (hr : ¬ isEr r) (h8 : M2 8 0 0 = M 8 0 0) : sv_Ct G M_X3_commit 4 [.ref (sv_ad G 0 8 0), .int v] M (some (.int r)) (rcY M2 o t) := by
  obtain ⟨ho, ho2, ht, ht2, hcs, hK⟩ := id hH
  refine sv_Ct_of (lo := [some (.ref (sv_ad G 0 8 0)), some (.int v)]) (pn_X3) rfl (Nat.le_of_ble_eq_true rfl) rfl (fun K X Y => ?_)
  replace X : sv_X G K cX3_commit RX3 2 4 := X
  replace Y : sv_Y G K (some .int) _ _ := Y
  show sw_W G K 2 0 _ _ _
  refine sw_aload_0 X dX3_commit_0 ?_
  refine ca_X3_30 X (by decide) dX3_commit_1 (Nat.le_of_ble_eq_true rfl) (c_X3_rememberState hH) ?_
  refine sw_aload_0 X dX3_commit_4 ?_
  refine sw_aload_0 X dX3_commit_5 ?_
  refine gf_X3_12 X dX3_commit_6 ?_
  refine sw_iload_1 X dX3_commit_9 ?_
  refine ca_X3_44 X (by decide) (by decide) dX3_commit_10 (Nat.le_of_ble_eq_true rfl) hOp ?_
  refine ca_X3_37 X (by decide) dX3_commit_13 (Nat.le_of_ble_eq_true rfl) (c_X3_recordUnlessError_y (by rw [h8]; exact ho) ho2 (by rw [h8]; exact ht) ht2 hr) ?_
  exact sw_iret X Y dX3_commit_16 (rfl) (rfl)
set_option maxHeartbeats 4000000 in
set_option maxRecDepth 100000 in
theorem c_X3_rollback_e {G : sv_G} {M : sv_Mem} {v r : Int32} {M2 : sv_Mem} {o t : Nat} {cs : Nat → Nat} (hH : hsOk M o t cs) (hOp : sv_Ct G M_X1_rollTransactionBack 3 [.ref (sv_ad G 10 0 0), .int v] (rmM M o t cs) (some (.int r)) M2) (hr : isEr r) : sv_Ct G M_X3_rollback 4 [.ref (sv_ad G 0 8 0), .int v] M (some (.int r)) (M2) := by
  refine sv_Ct_of (lo := [some (.ref (sv_ad G 0 8 0)), some (.int v)]) (pn_X3) rfl (Nat.le_of_ble_eq_true rfl) rfl (fun K X Y => ?_)
  replace X : sv_X G K cX3_rollback RX3 2 4 := X
  replace Y : sv_Y G K (some .int) _ _ := Y
  show sw_W G K 2 0 _ _ _
  refine sw_aload_0 X dX3_rollback_0 ?_
  refine ca_X3_30 X (by decide) dX3_rollback_1 (Nat.le_of_ble_eq_true rfl) (c_X3_rememberState hH) ?_
  refine sw_aload_0 X dX3_rollback_4 ?_
  refine sw_aload_0 X dX3_rollback_5 ?_
  refine gf_X3_12 X dX3_rollback_6 ?_
  refine sw_iload_1 X dX3_rollback_9 ?_
  refine ca_X3_47 X (by decide) (by decide) dX3_rollback_10 (Nat.le_of_ble_eq_true rfl) hOp ?_
  refine ca_X3_37 X (by decide) dX3_rollback_13 (Nat.le_of_ble_eq_true rfl) (c_X3_recordUnlessError_e hr) ?_
  exact sw_iret X Y dX3_rollback_16 (rfl) (rfl)
set_option maxHeartbeats 4000000 in
set_option maxRecDepth 100000 in
theorem c_X3_rollback_y {G : sv_G} {M : sv_Mem} {v r : Int32} {M2 : sv_Mem} {o t : Nat} {cs : Nat → Nat} (hH : hsOk M o t cs) (hOp : sv_Ct G M_X1_rollTransactionBack 3 [.ref (sv_ad G 10 0 0), .int v] (rmM M o t cs) (some (.int r)) M2) (hr : ¬ isEr r) (h8 : M2 8 0 0 = M 8 0 0) : sv_Ct G M_X3_rollback 4 [.ref (sv_ad G 0 8 0), .int v] M (some (.int r)) (rcY M2 o t) := by
  obtain ⟨ho, ho2, ht, ht2, hcs, hK⟩ := id hH
  refine sv_Ct_of (lo := [some (.ref (sv_ad G 0 8 0)), some (.int v)]) (pn_X3) rfl (Nat.le_of_ble_eq_true rfl) rfl (fun K X Y => ?_)
  replace X : sv_X G K cX3_rollback RX3 2 4 := X
  replace Y : sv_Y G K (some .int) _ _ := Y
  show sw_W G K 2 0 _ _ _
  refine sw_aload_0 X dX3_rollback_0 ?_
  refine ca_X3_30 X (by decide) dX3_rollback_1 (Nat.le_of_ble_eq_true rfl) (c_X3_rememberState hH) ?_
  refine sw_aload_0 X dX3_rollback_4 ?_
  refine sw_aload_0 X dX3_rollback_5 ?_
  refine gf_X3_12 X dX3_rollback_6 ?_
  refine sw_iload_1 X dX3_rollback_9 ?_
  refine ca_X3_47 X (by decide) (by decide) dX3_rollback_10 (Nat.le_of_ble_eq_true rfl) hOp ?_
  refine ca_X3_37 X (by decide) dX3_rollback_13 (Nat.le_of_ble_eq_true rfl) (c_X3_recordUnlessError_y (by rw [h8]; exact ho) ho2 (by rw [h8]; exact ht) ht2 hr) ?_
  exact sw_iret X Y dX3_rollback_16 (rfl) (rfl)
set_option maxHeartbeats 4000000 in
set_option maxRecDepth 100000 in
theorem c_X3_savepoint_e {G : sv_G} {M : sv_Mem} {v w r : Int32} {M2 : sv_Mem} {o t : Nat} {cs : Nat → Nat} (hH : hsOk M o t cs) (hOp : sv_Ct G M_X1_setSavepoint 2 [.ref (sv_ad G 10 0 0), .int v, .int w] (rmM M o t cs) (some (.int r)) M2) (hr : isEr r) : sv_Ct G M_X3_savepoint 4 [.ref (sv_ad G 0 8 0), .int v, .int w] M (some (.int r)) (M2) := by
  refine sv_Ct_of (lo := [some (.ref (sv_ad G 0 8 0)), some (.int v), some (.int w)]) (pn_X3) rfl (Nat.le_of_ble_eq_true rfl) rfl (fun K X Y => ?_)
  replace X : sv_X G K cX3_savepoint RX3 3 4 := X
  replace Y : sv_Y G K (some .int) _ _ := Y
  show sw_W G K 3 0 _ _ _
  refine sw_aload_0 X dX3_savepoint_0 ?_
  refine ca_X3_30 X (by decide) dX3_savepoint_1 (Nat.le_of_ble_eq_true rfl) (c_X3_rememberState hH) ?_
  refine sw_aload_0 X dX3_savepoint_4 ?_
  refine sw_aload_0 X dX3_savepoint_5 ?_
  refine gf_X3_12 X dX3_savepoint_6 ?_
  refine sw_iload_1 X dX3_savepoint_9 ?_
  refine sw_iload_2 X dX3_savepoint_10 ?_
  refine ca_X3_50 X (by decide) (by decide) dX3_savepoint_11 (Nat.le_of_ble_eq_true rfl) hOp ?_
  refine ca_X3_37 X (by decide) dX3_savepoint_14 (Nat.le_of_ble_eq_true rfl) (c_X3_recordUnlessError_e hr) ?_
  exact sw_iret X Y dX3_savepoint_17 (rfl) (rfl)
set_option maxHeartbeats 4000000 in
set_option maxRecDepth 100000 in
theorem c_X3_savepoint_y {G : sv_G} {M : sv_Mem} {v w r : Int32} {M2 : sv_Mem} {o t : Nat} {cs : Nat → Nat} (hH : hsOk M o t cs) (hOp : sv_Ct G M_X1_setSavepoint 2 [.ref (sv_ad G 10 0 0), .int v, .int w] (rmM M o t cs) (some (.int r)) M2) (hr : ¬ isEr r) (h8 : M2 8 0 0 = M 8 0 0) : sv_Ct G M_X3_savepoint 4 [.ref (sv_ad G 0 8 0), .int v, .int w] M (some (.int r)) (rcY M2 o t) := by
  obtain ⟨ho, ho2, ht, ht2, hcs, hK⟩ := id hH
  refine sv_Ct_of (lo := [some (.ref (sv_ad G 0 8 0)), some (.int v), some (.int w)]) (pn_X3) rfl (Nat.le_of_ble_eq_true rfl) rfl (fun K X Y => ?_)
  replace X : sv_X G K cX3_savepoint RX3 3 4 := X
  replace Y : sv_Y G K (some .int) _ _ := Y
  show sw_W G K 3 0 _ _ _
  refine sw_aload_0 X dX3_savepoint_0 ?_
  refine ca_X3_30 X (by decide) dX3_savepoint_1 (Nat.le_of_ble_eq_true rfl) (c_X3_rememberState hH) ?_
  refine sw_aload_0 X dX3_savepoint_4 ?_
  refine sw_aload_0 X dX3_savepoint_5 ?_
  refine gf_X3_12 X dX3_savepoint_6 ?_
  refine sw_iload_1 X dX3_savepoint_9 ?_
  refine sw_iload_2 X dX3_savepoint_10 ?_
  refine ca_X3_50 X (by decide) (by decide) dX3_savepoint_11 (Nat.le_of_ble_eq_true rfl) hOp ?_
  refine ca_X3_37 X (by decide) dX3_savepoint_14 (Nat.le_of_ble_eq_true rfl) (c_X3_recordUnlessError_y (by rw [h8]; exact ho) ho2 (by rw [h8]; exact ht) ht2 hr) ?_
  exact sw_iret X Y dX3_savepoint_17 (rfl) (rfl)
set_option maxHeartbeats 4000000 in
set_option maxRecDepth 100000 in
theorem c_X3_undoTo_e {G : sv_G} {M : sv_Mem} {v w r : Int32} {M2 : sv_Mem} {o t : Nat} {cs : Nat → Nat} (hH : hsOk M o t cs) (hOp : sv_Ct G M_X1_undoToName 4 [.ref (sv_ad G 10 0 0), .int v, .int w] (rmM M o t cs) (some (.int r)) M2) (hr : isEr r) : sv_Ct G M_X3_undoTo 5 [.ref (sv_ad G 0 8 0), .int v, .int w] M (some (.int r)) (M2) := by
  refine sv_Ct_of (lo := [some (.ref (sv_ad G 0 8 0)), some (.int v), some (.int w)]) (pn_X3) rfl (Nat.le_of_ble_eq_true rfl) rfl (fun K X Y => ?_)
  replace X : sv_X G K cX3_undoTo RX3 3 5 := X
  replace Y : sv_Y G K (some .int) _ _ := Y
  show sw_W G K 3 0 _ _ _
  refine sw_aload_0 X dX3_undoTo_0 ?_
  refine ca_X3_30 X (by decide) dX3_undoTo_1 (Nat.le_of_ble_eq_true rfl) (c_X3_rememberState hH) ?_
  refine sw_aload_0 X dX3_undoTo_4 ?_
  refine sw_aload_0 X dX3_undoTo_5 ?_
  refine gf_X3_12 X dX3_undoTo_6 ?_
  refine sw_iload_1 X dX3_undoTo_9 ?_
  refine sw_iload_2 X dX3_undoTo_10 ?_
  refine ca_X3_54 X (by decide) (by decide) dX3_undoTo_11 (Nat.le_of_ble_eq_true rfl) hOp ?_
  refine ca_X3_37 X (by decide) dX3_undoTo_14 (Nat.le_of_ble_eq_true rfl) (c_X3_recordUnlessError_e hr) ?_
  exact sw_iret X Y dX3_undoTo_17 (rfl) (rfl)
set_option maxHeartbeats 4000000 in
set_option maxRecDepth 100000 in
theorem c_X3_undoTo_y {G : sv_G} {M : sv_Mem} {v w r : Int32} {M2 : sv_Mem} {o t : Nat} {cs : Nat → Nat} (hH : hsOk M o t cs) (hOp : sv_Ct G M_X1_undoToName 4 [.ref (sv_ad G 10 0 0), .int v, .int w] (rmM M o t cs) (some (.int r)) M2) (hr : ¬ isEr r) (h8 : M2 8 0 0 = M 8 0 0) : sv_Ct G M_X3_undoTo 5 [.ref (sv_ad G 0 8 0), .int v, .int w] M (some (.int r)) (rcY M2 o t) := by
  obtain ⟨ho, ho2, ht, ht2, hcs, hK⟩ := id hH
  refine sv_Ct_of (lo := [some (.ref (sv_ad G 0 8 0)), some (.int v), some (.int w)]) (pn_X3) rfl (Nat.le_of_ble_eq_true rfl) rfl (fun K X Y => ?_)
  replace X : sv_X G K cX3_undoTo RX3 3 5 := X
  replace Y : sv_Y G K (some .int) _ _ := Y
  show sw_W G K 3 0 _ _ _
  refine sw_aload_0 X dX3_undoTo_0 ?_
  refine ca_X3_30 X (by decide) dX3_undoTo_1 (Nat.le_of_ble_eq_true rfl) (c_X3_rememberState hH) ?_
  refine sw_aload_0 X dX3_undoTo_4 ?_
  refine sw_aload_0 X dX3_undoTo_5 ?_
  refine gf_X3_12 X dX3_undoTo_6 ?_
  refine sw_iload_1 X dX3_undoTo_9 ?_
  refine sw_iload_2 X dX3_undoTo_10 ?_
  refine ca_X3_54 X (by decide) (by decide) dX3_undoTo_11 (Nat.le_of_ble_eq_true rfl) hOp ?_
  refine ca_X3_37 X (by decide) dX3_undoTo_14 (Nat.le_of_ble_eq_true rfl) (c_X3_recordUnlessError_y (by rw [h8]; exact ho) ho2 (by rw [h8]; exact ht) ht2 hr) ?_
  exact sw_iret X Y dX3_undoTo_17 (rfl) (rfl)
set_option maxHeartbeats 4000000 in
set_option maxRecDepth 100000 in
theorem c_X3_release_e {G : sv_G} {M : sv_Mem} {v w r : Int32} {M2 : sv_Mem} {o t : Nat} {cs : Nat → Nat} (hH : hsOk M o t cs) (hOp : sv_Ct G M_X1_releaseName 4 [.ref (sv_ad G 10 0 0), .int v, .int w] (rmM M o t cs) (some (.int r)) M2) (hr : isEr r) : sv_Ct G M_X3_release 5 [.ref (sv_ad G 0 8 0), .int v, .int w] M (some (.int r)) (M2) := by
  refine sv_Ct_of (lo := [some (.ref (sv_ad G 0 8 0)), some (.int v), some (.int w)]) (pn_X3) rfl (Nat.le_of_ble_eq_true rfl) rfl (fun K X Y => ?_)
  replace X : sv_X G K cX3_release RX3 3 5 := X
  replace Y : sv_Y G K (some .int) _ _ := Y
  show sw_W G K 3 0 _ _ _
  refine sw_aload_0 X dX3_release_0 ?_
  refine ca_X3_30 X (by decide) dX3_release_1 (Nat.le_of_ble_eq_true rfl) (c_X3_rememberState hH) ?_
  refine sw_aload_0 X dX3_release_4 ?_
  refine sw_aload_0 X dX3_release_5 ?_
  refine gf_X3_12 X dX3_release_6 ?_
  refine sw_iload_1 X dX3_release_9 ?_
  refine sw_iload_2 X dX3_release_10 ?_
  refine ca_X3_57 X (by decide) (by decide) dX3_release_11 (Nat.le_of_ble_eq_true rfl) hOp ?_
  refine ca_X3_37 X (by decide) dX3_release_14 (Nat.le_of_ble_eq_true rfl) (c_X3_recordUnlessError_e hr) ?_
  exact sw_iret X Y dX3_release_17 (rfl) (rfl)
set_option maxHeartbeats 4000000 in
set_option maxRecDepth 100000 in
theorem c_X3_release_y {G : sv_G} {M : sv_Mem} {v w r : Int32} {M2 : sv_Mem} {o t : Nat} {cs : Nat → Nat} (hH : hsOk M o t cs) (hOp : sv_Ct G M_X1_releaseName 4 [.ref (sv_ad G 10 0 0), .int v, .int w] (rmM M o t cs) (some (.int r)) M2) (hr : ¬ isEr r) (h8 : M2 8 0 0 = M 8 0 0) : sv_Ct G M_X3_release 5 [.ref (sv_ad G 0 8 0), .int v, .int w] M (some (.int r)) (rcY M2 o t) := by
  obtain ⟨ho, ho2, ht, ht2, hcs, hK⟩ := id hH
  refine sv_Ct_of (lo := [some (.ref (sv_ad G 0 8 0)), some (.int v), some (.int w)]) (pn_X3) rfl (Nat.le_of_ble_eq_true rfl) rfl (fun K X Y => ?_)
  replace X : sv_X G K cX3_release RX3 3 5 := X
  replace Y : sv_Y G K (some .int) _ _ := Y
  show sw_W G K 3 0 _ _ _
  refine sw_aload_0 X dX3_release_0 ?_
  refine ca_X3_30 X (by decide) dX3_release_1 (Nat.le_of_ble_eq_true rfl) (c_X3_rememberState hH) ?_
  refine sw_aload_0 X dX3_release_4 ?_
  refine sw_aload_0 X dX3_release_5 ?_
  refine gf_X3_12 X dX3_release_6 ?_
  refine sw_iload_1 X dX3_release_9 ?_
  refine sw_iload_2 X dX3_release_10 ?_
  refine ca_X3_57 X (by decide) (by decide) dX3_release_11 (Nat.le_of_ble_eq_true rfl) hOp ?_
  refine ca_X3_37 X (by decide) dX3_release_14 (Nat.le_of_ble_eq_true rfl) (c_X3_recordUnlessError_y (by rw [h8]; exact ho) ho2 (by rw [h8]; exact ht) ht2 hr) ?_
  exact sw_iret X Y dX3_release_17 (rfl) (rfl)
set_option maxHeartbeats 4000000 in
set_option maxRecDepth 100000 in
theorem c_X3_read_e {G : sv_G} {M : sv_Mem} {v w r : Int32} {M2 : sv_Mem} {o t : Nat} {cs : Nat → Nat} (hH : hsOk M o t cs) (hOp : sv_Ct G M_X1_readKey 4 [.ref (sv_ad G 10 0 0), .int v, .int w] (rmM M o t cs) (some (.int r)) M2) (hr : isEr r) : sv_Ct G M_X3_read 5 [.ref (sv_ad G 0 8 0), .int v, .int w] M (some (.int r)) (M2) := by
  refine sv_Ct_of (lo := [some (.ref (sv_ad G 0 8 0)), some (.int v), some (.int w)]) (pn_X3) rfl (Nat.le_of_ble_eq_true rfl) rfl (fun K X Y => ?_)
  replace X : sv_X G K cX3_read RX3 3 5 := X
  replace Y : sv_Y G K (some .int) _ _ := Y
  show sw_W G K 3 0 _ _ _
  refine sw_aload_0 X dX3_read_0 ?_
  refine ca_X3_30 X (by decide) dX3_read_1 (Nat.le_of_ble_eq_true rfl) (c_X3_rememberState hH) ?_
  refine sw_aload_0 X dX3_read_4 ?_
  refine sw_aload_0 X dX3_read_5 ?_
  refine gf_X3_12 X dX3_read_6 ?_
  refine sw_iload_1 X dX3_read_9 ?_
  refine sw_iload_2 X dX3_read_10 ?_
  refine ca_X3_60 X (by decide) (by decide) dX3_read_11 (Nat.le_of_ble_eq_true rfl) hOp ?_
  refine ca_X3_37 X (by decide) dX3_read_14 (Nat.le_of_ble_eq_true rfl) (c_X3_recordUnlessError_e hr) ?_
  exact sw_iret X Y dX3_read_17 (rfl) (rfl)
set_option maxHeartbeats 4000000 in
set_option maxRecDepth 100000 in
theorem c_X3_read_y {G : sv_G} {M : sv_Mem} {v w r : Int32} {M2 : sv_Mem} {o t : Nat} {cs : Nat → Nat} (hH : hsOk M o t cs) (hOp : sv_Ct G M_X1_readKey 4 [.ref (sv_ad G 10 0 0), .int v, .int w] (rmM M o t cs) (some (.int r)) M2) (hr : ¬ isEr r) (h8 : M2 8 0 0 = M 8 0 0) : sv_Ct G M_X3_read 5 [.ref (sv_ad G 0 8 0), .int v, .int w] M (some (.int r)) (rcY M2 o t) := by
  obtain ⟨ho, ho2, ht, ht2, hcs, hK⟩ := id hH
  refine sv_Ct_of (lo := [some (.ref (sv_ad G 0 8 0)), some (.int v), some (.int w)]) (pn_X3) rfl (Nat.le_of_ble_eq_true rfl) rfl (fun K X Y => ?_)
  replace X : sv_X G K cX3_read RX3 3 5 := X
  replace Y : sv_Y G K (some .int) _ _ := Y
  show sw_W G K 3 0 _ _ _
  refine sw_aload_0 X dX3_read_0 ?_
  refine ca_X3_30 X (by decide) dX3_read_1 (Nat.le_of_ble_eq_true rfl) (c_X3_rememberState hH) ?_
  refine sw_aload_0 X dX3_read_4 ?_
  refine sw_aload_0 X dX3_read_5 ?_
  refine gf_X3_12 X dX3_read_6 ?_
  refine sw_iload_1 X dX3_read_9 ?_
  refine sw_iload_2 X dX3_read_10 ?_
  refine ca_X3_60 X (by decide) (by decide) dX3_read_11 (Nat.le_of_ble_eq_true rfl) hOp ?_
  refine ca_X3_37 X (by decide) dX3_read_14 (Nat.le_of_ble_eq_true rfl) (c_X3_recordUnlessError_y (by rw [h8]; exact ho) ho2 (by rw [h8]; exact ht) ht2 hr) ?_
  exact sw_iret X Y dX3_read_17 (rfl) (rfl)
set_option maxHeartbeats 4000000 in
set_option maxRecDepth 100000 in
theorem c_X3_erase_e {G : sv_G} {M : sv_Mem} {v w r : Int32} {M2 : sv_Mem} {o t : Nat} {cs : Nat → Nat} (hH : hsOk M o t cs) (hOp : sv_Ct G M_X1_eraseKey 4 [.ref (sv_ad G 10 0 0), .int v, .int w] (rmM M o t cs) (some (.int r)) M2) (hr : isEr r) : sv_Ct G M_X3_erase 5 [.ref (sv_ad G 0 8 0), .int v, .int w] M (some (.int r)) (M2) := by
  refine sv_Ct_of (lo := [some (.ref (sv_ad G 0 8 0)), some (.int v), some (.int w)]) (pn_X3) rfl (Nat.le_of_ble_eq_true rfl) rfl (fun K X Y => ?_)
  replace X : sv_X G K cX3_erase RX3 3 5 := X
  replace Y : sv_Y G K (some .int) _ _ := Y
  show sw_W G K 3 0 _ _ _
  refine sw_aload_0 X dX3_erase_0 ?_
  refine ca_X3_30 X (by decide) dX3_erase_1 (Nat.le_of_ble_eq_true rfl) (c_X3_rememberState hH) ?_
  refine sw_aload_0 X dX3_erase_4 ?_
  refine sw_aload_0 X dX3_erase_5 ?_
  refine gf_X3_12 X dX3_erase_6 ?_
  refine sw_iload_1 X dX3_erase_9 ?_
  refine sw_iload_2 X dX3_erase_10 ?_
  refine ca_X3_67 X (by decide) (by decide) dX3_erase_11 (Nat.le_of_ble_eq_true rfl) hOp ?_
  refine ca_X3_37 X (by decide) dX3_erase_14 (Nat.le_of_ble_eq_true rfl) (c_X3_recordUnlessError_e hr) ?_
  exact sw_iret X Y dX3_erase_17 (rfl) (rfl)
set_option maxHeartbeats 4000000 in
set_option maxRecDepth 100000 in
theorem c_X3_erase_y {G : sv_G} {M : sv_Mem} {v w r : Int32} {M2 : sv_Mem} {o t : Nat} {cs : Nat → Nat} (hH : hsOk M o t cs) (hOp : sv_Ct G M_X1_eraseKey 4 [.ref (sv_ad G 10 0 0), .int v, .int w] (rmM M o t cs) (some (.int r)) M2) (hr : ¬ isEr r) (h8 : M2 8 0 0 = M 8 0 0) : sv_Ct G M_X3_erase 5 [.ref (sv_ad G 0 8 0), .int v, .int w] M (some (.int r)) (rcY M2 o t) := by
  obtain ⟨ho, ho2, ht, ht2, hcs, hK⟩ := id hH
  refine sv_Ct_of (lo := [some (.ref (sv_ad G 0 8 0)), some (.int v), some (.int w)]) (pn_X3) rfl (Nat.le_of_ble_eq_true rfl) rfl (fun K X Y => ?_)
  replace X : sv_X G K cX3_erase RX3 3 5 := X
  replace Y : sv_Y G K (some .int) _ _ := Y
  show sw_W G K 3 0 _ _ _
  refine sw_aload_0 X dX3_erase_0 ?_
  refine ca_X3_30 X (by decide) dX3_erase_1 (Nat.le_of_ble_eq_true rfl) (c_X3_rememberState hH) ?_
  refine sw_aload_0 X dX3_erase_4 ?_
  refine sw_aload_0 X dX3_erase_5 ?_
  refine gf_X3_12 X dX3_erase_6 ?_
  refine sw_iload_1 X dX3_erase_9 ?_
  refine sw_iload_2 X dX3_erase_10 ?_
  refine ca_X3_67 X (by decide) (by decide) dX3_erase_11 (Nat.le_of_ble_eq_true rfl) hOp ?_
  refine ca_X3_37 X (by decide) dX3_erase_14 (Nat.le_of_ble_eq_true rfl) (c_X3_recordUnlessError_y (by rw [h8]; exact ho) ho2 (by rw [h8]; exact ht) ht2 hr) ?_
  exact sw_iret X Y dX3_erase_17 (rfl) (rfl)
set_option maxHeartbeats 4000000 in
set_option maxRecDepth 100000 in
theorem c_X3_write_e {G : sv_G} {M : sv_Mem} {v w u r : Int32} {M2 : sv_Mem} {o t : Nat} {cs : Nat → Nat} (hH : hsOk M o t cs) (hOp : sv_Ct G M_X1_writeKey 4 [.ref (sv_ad G 10 0 0), .int v, .int w, .int u] (rmM M o t cs) (some (.int r)) M2) (hr : isEr r) : sv_Ct G M_X3_write 5 [.ref (sv_ad G 0 8 0), .int v, .int w, .int u] M (some (.int r)) (M2) := by
  refine sv_Ct_of (lo := [some (.ref (sv_ad G 0 8 0)), some (.int v), some (.int w), some (.int u)]) (pn_X3) rfl (Nat.le_of_ble_eq_true rfl) rfl (fun K X Y => ?_)
  replace X : sv_X G K cX3_write RX3 4 5 := X
  replace Y : sv_Y G K (some .int) _ _ := Y
  show sw_W G K 4 0 _ _ _
  refine sw_aload_0 X dX3_write_0 ?_
  refine ca_X3_30 X (by decide) dX3_write_1 (Nat.le_of_ble_eq_true rfl) (c_X3_rememberState hH) ?_
  refine sw_aload_0 X dX3_write_4 ?_
  refine sw_aload_0 X dX3_write_5 ?_
  refine gf_X3_12 X dX3_write_6 ?_
  refine sw_iload_1 X dX3_write_9 ?_
  refine sw_iload_2 X dX3_write_10 ?_
  refine sw_iload_3 X dX3_write_11 ?_
  refine ca_X3_63 X (by decide) (by decide) dX3_write_12 (Nat.le_of_ble_eq_true rfl) hOp ?_
  refine ca_X3_37 X (by decide) dX3_write_15 (Nat.le_of_ble_eq_true rfl) (c_X3_recordUnlessError_e hr) ?_
  exact sw_iret X Y dX3_write_18 (rfl) (rfl)
set_option maxHeartbeats 4000000 in
set_option maxRecDepth 100000 in
theorem c_X3_write_y {G : sv_G} {M : sv_Mem} {v w u r : Int32} {M2 : sv_Mem} {o t : Nat} {cs : Nat → Nat} (hH : hsOk M o t cs) (hOp : sv_Ct G M_X1_writeKey 4 [.ref (sv_ad G 10 0 0), .int v, .int w, .int u] (rmM M o t cs) (some (.int r)) M2) (hr : ¬ isEr r) (h8 : M2 8 0 0 = M 8 0 0) : sv_Ct G M_X3_write 5 [.ref (sv_ad G 0 8 0), .int v, .int w, .int u] M (some (.int r)) (rcY M2 o t) := by
  obtain ⟨ho, ho2, ht, ht2, hcs, hK⟩ := id hH
  refine sv_Ct_of (lo := [some (.ref (sv_ad G 0 8 0)), some (.int v), some (.int w), some (.int u)]) (pn_X3) rfl (Nat.le_of_ble_eq_true rfl) rfl (fun K X Y => ?_)
  replace X : sv_X G K cX3_write RX3 4 5 := X
  replace Y : sv_Y G K (some .int) _ _ := Y
  show sw_W G K 4 0 _ _ _
  refine sw_aload_0 X dX3_write_0 ?_
  refine ca_X3_30 X (by decide) dX3_write_1 (Nat.le_of_ble_eq_true rfl) (c_X3_rememberState hH) ?_
  refine sw_aload_0 X dX3_write_4 ?_
  refine sw_aload_0 X dX3_write_5 ?_
  refine gf_X3_12 X dX3_write_6 ?_
  refine sw_iload_1 X dX3_write_9 ?_
  refine sw_iload_2 X dX3_write_10 ?_
  refine sw_iload_3 X dX3_write_11 ?_
  refine ca_X3_63 X (by decide) (by decide) dX3_write_12 (Nat.le_of_ble_eq_true rfl) hOp ?_
  refine ca_X3_37 X (by decide) dX3_write_15 (Nat.le_of_ble_eq_true rfl) (c_X3_recordUnlessError_y (by rw [h8]; exact ho) ho2 (by rw [h8]; exact ht) ht2 hr) ?_
  exact sw_iret X Y dX3_write_18 (rfl) (rfl)
set_option maxHeartbeats 4000000 in
set_option maxRecDepth 100000 in
theorem c_X3_shift_e {G : sv_G} {M : sv_Mem} {v w u r : Int32} {M2 : sv_Mem} {o t : Nat} {cs : Nat → Nat} (hH : hsOk M o t cs) (hOp : sv_Ct G M_X1_shiftKeys 4 [.ref (sv_ad G 10 0 0), .int v, .int w, .int u] (rmM M o t cs) (some (.int r)) M2) (hr : isEr r) : sv_Ct G M_X3_shift 5 [.ref (sv_ad G 0 8 0), .int v, .int w, .int u] M (some (.int r)) (M2) := by
  refine sv_Ct_of (lo := [some (.ref (sv_ad G 0 8 0)), some (.int v), some (.int w), some (.int u)]) (pn_X3) rfl (Nat.le_of_ble_eq_true rfl) rfl (fun K X Y => ?_)
  replace X : sv_X G K cX3_shift RX3 4 5 := X
  replace Y : sv_Y G K (some .int) _ _ := Y
  show sw_W G K 4 0 _ _ _
  refine sw_aload_0 X dX3_shift_0 ?_
  refine ca_X3_30 X (by decide) dX3_shift_1 (Nat.le_of_ble_eq_true rfl) (c_X3_rememberState hH) ?_
  refine sw_aload_0 X dX3_shift_4 ?_
  refine sw_aload_0 X dX3_shift_5 ?_
  refine gf_X3_12 X dX3_shift_6 ?_
  refine sw_iload_1 X dX3_shift_9 ?_
  refine sw_iload_2 X dX3_shift_10 ?_
  refine sw_iload_3 X dX3_shift_11 ?_
  refine ca_X3_70 X (by decide) (by decide) dX3_shift_12 (Nat.le_of_ble_eq_true rfl) hOp ?_
  refine ca_X3_37 X (by decide) dX3_shift_15 (Nat.le_of_ble_eq_true rfl) (c_X3_recordUnlessError_e hr) ?_
  exact sw_iret X Y dX3_shift_18 (rfl) (rfl)
set_option maxHeartbeats 4000000 in
set_option maxRecDepth 100000 in
theorem c_X3_shift_y {G : sv_G} {M : sv_Mem} {v w u r : Int32} {M2 : sv_Mem} {o t : Nat} {cs : Nat → Nat} (hH : hsOk M o t cs) (hOp : sv_Ct G M_X1_shiftKeys 4 [.ref (sv_ad G 10 0 0), .int v, .int w, .int u] (rmM M o t cs) (some (.int r)) M2) (hr : ¬ isEr r) (h8 : M2 8 0 0 = M 8 0 0) : sv_Ct G M_X3_shift 5 [.ref (sv_ad G 0 8 0), .int v, .int w, .int u] M (some (.int r)) (rcY M2 o t) := by
  obtain ⟨ho, ho2, ht, ht2, hcs, hK⟩ := id hH
  refine sv_Ct_of (lo := [some (.ref (sv_ad G 0 8 0)), some (.int v), some (.int w), some (.int u)]) (pn_X3) rfl (Nat.le_of_ble_eq_true rfl) rfl (fun K X Y => ?_)
  replace X : sv_X G K cX3_shift RX3 4 5 := X
  replace Y : sv_Y G K (some .int) _ _ := Y
  show sw_W G K 4 0 _ _ _
  refine sw_aload_0 X dX3_shift_0 ?_
  refine ca_X3_30 X (by decide) dX3_shift_1 (Nat.le_of_ble_eq_true rfl) (c_X3_rememberState hH) ?_
  refine sw_aload_0 X dX3_shift_4 ?_
  refine sw_aload_0 X dX3_shift_5 ?_
  refine gf_X3_12 X dX3_shift_6 ?_
  refine sw_iload_1 X dX3_shift_9 ?_
  refine sw_iload_2 X dX3_shift_10 ?_
  refine sw_iload_3 X dX3_shift_11 ?_
  refine ca_X3_70 X (by decide) (by decide) dX3_shift_12 (Nat.le_of_ble_eq_true rfl) hOp ?_
  refine ca_X3_37 X (by decide) dX3_shift_15 (Nat.le_of_ble_eq_true rfl) (c_X3_recordUnlessError_y (by rw [h8]; exact ho) ho2 (by rw [h8]; exact ht) ht2 hr) ?_
  exact sw_iret X Y dX3_shift_18 (rfl) (rfl)
set_option maxHeartbeats 4000000 in
set_option maxRecDepth 100000 in
theorem c_X3_move_e {G : sv_G} {M : sv_Mem} {v w u z r : Int32} {M2 : sv_Mem} {o t : Nat} {cs : Nat → Nat} (hH : hsOk M o t cs) (hOp : sv_Ct G M_X1_moveAmount 4 [.ref (sv_ad G 10 0 0), .int v, .int w, .int u, .int z] (rmM M o t cs) (some (.int r)) M2) (hr : isEr r) : sv_Ct G M_X3_move 5 [.ref (sv_ad G 0 8 0), .int v, .int w, .int u, .int z] M (some (.int r)) (M2) := by
  refine sv_Ct_of (lo := [some (.ref (sv_ad G 0 8 0)), some (.int v), some (.int w), some (.int u), some (.int z)]) (pn_X3) rfl (Nat.le_of_ble_eq_true rfl) rfl (fun K X Y => ?_)
  replace X : sv_X G K cX3_move RX3 5 5 := X
  replace Y : sv_Y G K (some .int) _ _ := Y
  show sw_W G K 5 0 _ _ _
  refine sw_aload_0 X dX3_move_0 ?_
  refine ca_X3_30 X (by decide) dX3_move_1 (Nat.le_of_ble_eq_true rfl) (c_X3_rememberState hH) ?_
  refine sw_aload_0 X dX3_move_4 ?_
  refine sw_aload_0 X dX3_move_5 ?_
  refine gf_X3_12 X dX3_move_6 ?_
  refine sw_iload_1 X dX3_move_9 ?_
  refine sw_iload_2 X dX3_move_10 ?_
  refine sw_iload_3 X dX3_move_11 ?_
  refine sw_iload_4 X dX3_move_12 ?_
  refine ca_X3_73 X (by decide) (by decide) dX3_move_14 (Nat.le_of_ble_eq_true rfl) hOp ?_
  refine ca_X3_37 X (by decide) dX3_move_17 (Nat.le_of_ble_eq_true rfl) (c_X3_recordUnlessError_e hr) ?_
  exact sw_iret X Y dX3_move_20 (rfl) (rfl)
set_option maxHeartbeats 4000000 in
set_option maxRecDepth 100000 in
theorem c_X3_move_y {G : sv_G} {M : sv_Mem} {v w u z r : Int32} {M2 : sv_Mem} {o t : Nat} {cs : Nat → Nat} (hH : hsOk M o t cs) (hOp : sv_Ct G M_X1_moveAmount 4 [.ref (sv_ad G 10 0 0), .int v, .int w, .int u, .int z] (rmM M o t cs) (some (.int r)) M2) (hr : ¬ isEr r) (h8 : M2 8 0 0 = M 8 0 0) : sv_Ct G M_X3_move 5 [.ref (sv_ad G 0 8 0), .int v, .int w, .int u, .int z] M (some (.int r)) (rcY M2 o t) := by
  obtain ⟨ho, ho2, ht, ht2, hcs, hK⟩ := id hH
  refine sv_Ct_of (lo := [some (.ref (sv_ad G 0 8 0)), some (.int v), some (.int w), some (.int u), some (.int z)]) (pn_X3) rfl (Nat.le_of_ble_eq_true rfl) rfl (fun K X Y => ?_)
  replace X : sv_X G K cX3_move RX3 5 5 := X
  replace Y : sv_Y G K (some .int) _ _ := Y
  show sw_W G K 5 0 _ _ _
  refine sw_aload_0 X dX3_move_0 ?_
  refine ca_X3_30 X (by decide) dX3_move_1 (Nat.le_of_ble_eq_true rfl) (c_X3_rememberState hH) ?_
  refine sw_aload_0 X dX3_move_4 ?_
  refine sw_aload_0 X dX3_move_5 ?_
  refine gf_X3_12 X dX3_move_6 ?_
  refine sw_iload_1 X dX3_move_9 ?_
  refine sw_iload_2 X dX3_move_10 ?_
  refine sw_iload_3 X dX3_move_11 ?_
  refine sw_iload_4 X dX3_move_12 ?_
  refine ca_X3_73 X (by decide) (by decide) dX3_move_14 (Nat.le_of_ble_eq_true rfl) hOp ?_
  refine ca_X3_37 X (by decide) dX3_move_17 (Nat.le_of_ble_eq_true rfl) (c_X3_recordUnlessError_y (by rw [h8]; exact ho) ho2 (by rw [h8]; exact ht) ht2 hr) ?_
  exact sw_iret X Y dX3_move_20 (rfl) (rfl)
theorem nzB {b : Prop} [Decidable b] : bI b = nI 0 ∨ bI b = nI 1 := by
  unfold bI
  split
  · exact Or.inr rfl
  · exact Or.inl rfl
theorem er_n (n : Nat) (h : n < 2 ^ 31) : ¬ isEr (nI n) := fun z => nI_pos h z.1

set_option maxHeartbeats 4000000 in
set_option maxRecDepth 100000 in
theorem c_X3_keep {G : sv_G} {M : sv_Mem} {o t : Nat} {cs : Nat → Nat} (hH : hsOk M o t cs) {b : Prop} [Decidable b] : sv_Ct G M_X3_keep 4 [.ref (sv_ad G 0 8 0), .int (bI b)] M (some (.int (M 0 10 0 0))) (rcY (sT (rmM M o t cs) 0 (tu (M 0) 10 0 0 (bI b))) o t) := by
  obtain ⟨ho, ho2, ht, ht2, hcs, hK⟩ := id hH
  refine sv_Ct_of (lo := [some (.ref (sv_ad G 0 8 0)), some (.int (bI b)), none]) (pn_X3) rfl (Nat.le_of_ble_eq_true rfl) rfl (fun K X Y => ?_)
  replace X : sv_X G K cX3_keep RX3 3 4 := X
  replace Y : sv_Y G K (some .int) _ _ := Y
  show sw_W G K 3 0 _ _ _
  refine sw_aload_0 X dX3_keep_0 ?_
  refine ca_X3_30 X (by decide) dX3_keep_1 (Nat.le_of_ble_eq_true rfl) (c_X3_rememberState hH) ?_
  refine sw_aload_0 X dX3_keep_4 ?_
  refine gf_X3_12 X dX3_keep_5 ?_
  refine gf_X3_33 X (by decide) dX3_keep_8 ?_
  refine sw_tope (v2 := M 0 10 0 0) (by rw [rmM_0]) ?_
  refine sw_if_eq X 18 dX3_keep_11 (by decide) (fun h11 => ?_) (fun h11 => ?_)
  ·
    refine sw_iconst X (nI 0) dX3_keep_18 (by decide) ?_
    refine sw_tope (v2 := M 0 10 0 0) (by first | exact (hK.resolve_left h11).symm | exact (show M 0 10 0 0 = nI 0 from h11).symm) ?_
    refine sw_istore_2 X dX3_keep_19 trivial ?_
    refine sw_aload_0 X dX3_keep_20 ?_
    refine gf_X3_12 X dX3_keep_21 ?_
    refine sw_iload_1 X dX3_keep_24 ?_
    refine pf_X3_33 X (by decide) (nzK nzB).1 (nzK nzB).2 dX3_keep_25 ?_
    refine sw_mem (M2 := sT (rmM M o t cs) 0 (tu (M 0) 10 0 0 (bI b))) (by rw [upT, rmM_0]) ?_
    refine sw_aload_0 X dX3_keep_28 ?_
    refine sw_iload_2 X dX3_keep_29 ?_
    refine ca_X3_37 X (by decide) dX3_keep_30 (Nat.le_of_ble_eq_true rfl) (c_X3_recordUnlessError_y (by rw [sT_ne _ _ (by omega), rmM_8]; exact ho) ho2 (by rw [sT_ne _ _ (by omega), rmM_8]; exact ht) ht2 (by rcases hK with z | z <;> rw [z] <;> decide)) ?_
    exact sw_iret X Y dX3_keep_33 (rfl) (rfl)
  ·
    refine sw_iconst X (nI 1) dX3_keep_14 (by decide) ?_
    refine sw_goto X 19 dX3_keep_15 (by decide) ?_
    refine sw_tope (v2 := M 0 10 0 0) (by first | exact (hK.resolve_left h11).symm | exact (show M 0 10 0 0 = nI 0 from h11).symm) ?_
    refine sw_istore_2 X dX3_keep_19 trivial ?_
    refine sw_aload_0 X dX3_keep_20 ?_
    refine gf_X3_12 X dX3_keep_21 ?_
    refine sw_iload_1 X dX3_keep_24 ?_
    refine pf_X3_33 X (by decide) (nzK nzB).1 (nzK nzB).2 dX3_keep_25 ?_
    refine sw_mem (M2 := sT (rmM M o t cs) 0 (tu (M 0) 10 0 0 (bI b))) (by rw [upT, rmM_0]) ?_
    refine sw_aload_0 X dX3_keep_28 ?_
    refine sw_iload_2 X dX3_keep_29 ?_
    refine ca_X3_37 X (by decide) dX3_keep_30 (Nat.le_of_ble_eq_true rfl) (c_X3_recordUnlessError_y (by rw [sT_ne _ _ (by omega), rmM_8]; exact ho) ho2 (by rw [sT_ne _ _ (by omega), rmM_8]; exact ht) ht2 (by rcases hK with z | z <;> rw [z] <;> decide)) ?_
    exact sw_iret X Y dX3_keep_33 (rfl) (rfl)
set_option maxHeartbeats 4000000 in
set_option maxRecDepth 100000 in
theorem c_X3_value_y {G : sv_G} {M : sv_Mem} {k : Nat} (hk : k < 16) : sv_Ct G M_X3_value 1 [.ref (sv_ad G 0 8 0), .int (nI k)] M (some (.int (M 0 11 0 k))) (M) := by
  refine sv_Ct_of (lo := [some (.ref (sv_ad G 0 8 0)), some (.int (nI k))]) (pn_X3) rfl (Nat.le_of_ble_eq_true rfl) rfl (fun K X Y => ?_)
  replace X : sv_X G K cX3_value RX3 2 1 := X
  replace Y : sv_Y G K (some .int) _ _ := Y
  show sw_W G K 2 0 _ _ _
  refine sw_iload_1 X dX3_value_0 ?_
  refine ca_X3_115 X (by decide) dX3_value_1 (Nat.le_of_ble_eq_true rfl) c_X3_isKey ?_
  refine sw_ifB_eq X 19 dX3_value_4 (by decide) (fun h4 => ?_) (fun h4 => ?_)
  ·
    exact absurd (inR_lt (by omega) (by omega)) h4
  ·
    refine sw_aload_0 X dX3_value_7 ?_
    refine gf_X3_12 X dX3_value_8 ?_
    refine gf_X3_118 X (by decide) dX3_value_11 ?_
    refine sw_iload_1 X dX3_value_14 ?_
    refine ia_11 X (by decide) rfl (by omega) dX3_value_15 ?_
    refine sw_goto X 20 dX3_value_16 (by decide) ?_
    exact sw_iret X Y dX3_value_20 (rfl) (rfl)
set_option maxHeartbeats 4000000 in
set_option maxRecDepth 100000 in
theorem c_X3_value_x {G : sv_G} {M : sv_Mem} {v : Int32} (hv : ¬ inR v (nI 0) (nI 15)) : sv_Ct G M_X3_value 1 [.ref (sv_ad G 0 8 0), .int v] M (some (.int (-1))) (M) := by
  refine sv_Ct_of (lo := [some (.ref (sv_ad G 0 8 0)), some (.int v)]) (pn_X3) rfl (Nat.le_of_ble_eq_true rfl) rfl (fun K X Y => ?_)
  replace X : sv_X G K cX3_value RX3 2 1 := X
  replace Y : sv_Y G K (some .int) _ _ := Y
  show sw_W G K 2 0 _ _ _
  refine sw_iload_1 X dX3_value_0 ?_
  refine ca_X3_115 X (by decide) dX3_value_1 (Nat.le_of_ble_eq_true rfl) c_X3_isKey ?_
  refine sw_ifB_eq X 19 dX3_value_4 (by decide) (fun h4 => ?_) (fun h4 => ?_)
  ·
    refine sw_iconst X (-1) dX3_value_19 (by decide) ?_
    exact sw_iret X Y dX3_value_20 (rfl) (rfl)
  ·
    exact absurd h4 hv
set_option maxHeartbeats 4000000 in
set_option maxRecDepth 100000 in
theorem c_X3_committed_y {G : sv_G} {M : sv_Mem} {cs : Nat → Nat} (hcs : csOk (M 0) cs 13) {k : Nat} (hk : k < 16) : sv_Ct G M_X3_committed 3 [.ref (sv_ad G 0 8 0), .int (nI k)] M (some (.int (cvR (M 0) cs k 3))) (M) := by
  refine sv_Ct_of (lo := [some (.ref (sv_ad G 0 8 0)), some (.int (nI k))]) (pn_X3) rfl (Nat.le_of_ble_eq_true rfl) rfl (fun K X Y => ?_)
  replace X : sv_X G K cX3_committed RX3 2 3 := X
  replace Y : sv_Y G K (some .int) _ _ := Y
  show sw_W G K 2 0 _ _ _
  refine sw_iload_1 X dX3_committed_0 ?_
  refine ca_X3_115 X (by decide) dX3_committed_1 (Nat.le_of_ble_eq_true rfl) c_X3_isKey ?_
  refine sw_ifB_eq X 18 dX3_committed_4 (by decide) (fun h4 => ?_) (fun h4 => ?_)
  ·
    exact absurd (inR_lt (by omega) (by omega)) h4
  ·
    refine sw_aload_0 X dX3_committed_7 ?_
    refine gf_X3_12 X dX3_committed_8 ?_
    refine sw_iload_1 X dX3_committed_11 ?_
    refine ca_X3_122 X (by decide) (by decide) dX3_committed_12 (Nat.le_of_ble_eq_true rfl) (c_X1_committedValue (i := 0) (by decide) (hcs.w (by omega)) hk) ?_
    refine sw_goto X 19 dX3_committed_15 (by decide) ?_
    exact sw_iret X Y dX3_committed_19 (rfl) (rfl)
set_option maxHeartbeats 4000000 in
set_option maxRecDepth 100000 in
theorem c_X3_committed_x {G : sv_G} {M : sv_Mem} {v : Int32} (hv : ¬ inR v (nI 0) (nI 15)) : sv_Ct G M_X3_committed 3 [.ref (sv_ad G 0 8 0), .int v] M (some (.int (-1))) (M) := by
  refine sv_Ct_of (lo := [some (.ref (sv_ad G 0 8 0)), some (.int v)]) (pn_X3) rfl (Nat.le_of_ble_eq_true rfl) rfl (fun K X Y => ?_)
  replace X : sv_X G K cX3_committed RX3 2 3 := X
  replace Y : sv_Y G K (some .int) _ _ := Y
  show sw_W G K 2 0 _ _ _
  refine sw_iload_1 X dX3_committed_0 ?_
  refine ca_X3_115 X (by decide) dX3_committed_1 (Nat.le_of_ble_eq_true rfl) c_X3_isKey ?_
  refine sw_ifB_eq X 18 dX3_committed_4 (by decide) (fun h4 => ?_) (fun h4 => ?_)
  ·
    refine sw_iconst X (-1) dX3_committed_18 (by decide) ?_
    exact sw_iret X Y dX3_committed_19 (rfl) (rfl)
  ·
    exact absurd h4 hv
set_option maxHeartbeats 4000000 in
set_option maxRecDepth 100000 in
theorem c_X3_mode_y {G : sv_G} {M : sv_Mem} {q k : Nat} (hq : q < 3) (hk : k < 16) : sv_Ct G M_X3_mode 1 [.ref (sv_ad G 0 8 0), .int (nI q), .int (nI k)] M (some (.int (md (M 0 14 q 1) k))) (M) := by
  refine sv_Ct_of (lo := [some (.ref (sv_ad G 0 8 0)), some (.int (nI q)), some (.int (nI k))]) (pn_X3) rfl (Nat.le_of_ble_eq_true rfl) rfl (fun K X Y => ?_)
  replace X : sv_X G K cX3_mode RX3 3 1 := X
  replace Y : sv_Y G K (some .int) _ _ := Y
  show sw_W G K 3 0 _ _ _
  refine sw_iload_1 X dX3_mode_0 ?_
  refine ca_X3_125 X (by decide) dX3_mode_1 (Nat.le_of_ble_eq_true rfl) c_X3_isSession ?_
  refine sw_ifB_eq X 14 dX3_mode_4 (by decide) (fun h4 => ?_) (fun h4 => ?_)
  ·
    exact absurd (inR_lt (by omega) (by omega)) h4
  ·
    refine sw_iload_2 X dX3_mode_7 ?_
    refine ca_X3_115 X (by decide) dX3_mode_8 (Nat.le_of_ble_eq_true rfl) c_X3_isKey ?_
    refine sw_ifB_ne X 16 dX3_mode_11 (by decide) (fun h11 => ?_) (fun h11 => ?_)
    ·
      refine sw_aload_0 X dX3_mode_16 ?_
      refine gf_X3_12 X dX3_mode_17 ?_
      refine gf_X3_128 X (by decide) dX3_mode_20 ?_
      refine sw_iload_1 X dX3_mode_23 ?_
      refine sw_aaldT X (by decide) rfl hq dX3_mode_24 ?_
      refine sw_iload_2 X dX3_mode_25 ?_
      refine ca_X3_132 X (by decide) hq (by decide) dX3_mode_26 (Nat.le_of_ble_eq_true rfl) (c_X2_lockMode (i := 0) (by decide) hq hk) ?_
      exact sw_iret X Y dX3_mode_29 (rfl) (rfl)
    ·
      exact absurd (inR_lt (by omega) (by omega)) h11
set_option maxHeartbeats 4000000 in
set_option maxRecDepth 100000 in
theorem c_X3_mode_x {G : sv_G} {M : sv_Mem} {v w : Int32} (h : ¬ inR v (nI 0) (nI 2) ∨ ¬ inR w (nI 0) (nI 15)) : sv_Ct G M_X3_mode 1 [.ref (sv_ad G 0 8 0), .int v, .int w] M (some (.int (-1))) (M) := by
  refine sv_Ct_of (lo := [some (.ref (sv_ad G 0 8 0)), some (.int v), some (.int w)]) (pn_X3) rfl (Nat.le_of_ble_eq_true rfl) rfl (fun K X Y => ?_)
  replace X : sv_X G K cX3_mode RX3 3 1 := X
  replace Y : sv_Y G K (some .int) _ _ := Y
  show sw_W G K 3 0 _ _ _
  refine sw_iload_1 X dX3_mode_0 ?_
  refine ca_X3_125 X (by decide) dX3_mode_1 (Nat.le_of_ble_eq_true rfl) c_X3_isSession ?_
  refine sw_ifB_eq X 14 dX3_mode_4 (by decide) (fun h4 => ?_) (fun h4 => ?_)
  ·
    refine sw_iconst X (-1) dX3_mode_14 (by decide) ?_
    exact sw_iret X Y dX3_mode_15 (rfl) (rfl)
  ·
    refine sw_iload_2 X dX3_mode_7 ?_
    refine ca_X3_115 X (by decide) dX3_mode_8 (Nat.le_of_ble_eq_true rfl) c_X3_isKey ?_
    refine sw_ifB_ne X 16 dX3_mode_11 (by decide) (fun h11 => ?_) (fun h11 => ?_)
    ·
      exact absurd h (fun z => z.elim (fun w => w h4) (fun w => w h11))
    ·
      refine sw_iconst X (-1) dX3_mode_14 (by decide) ?_
      exact sw_iret X Y dX3_mode_15 (rfl) (rfl)
def bcS (T : sv_T) (k : Nat) (mode : Int32) : Nat → Int32
  | 0 => nI 0
  | q + 1 => if busyC T q k mode then sb (bcS T k mode q) q else bcS T k mode q

set_option maxHeartbeats 4000000 in
set_option maxRecDepth 100000 in
theorem c_X3_busyFor_y {G : sv_G} {M : sv_Mem} {k : Nat} {mode : Int32} (hk : k < 16) (hm : mode = nI 1 ∨ mode = nI 2) : sv_Ct G M_X3_busyFor 2 [.ref (sv_ad G 0 8 0), .int (nI k), .int mode] M (some (.int (bcS (M 0) k mode 3))) (M) := by
  refine sv_Ct_of (lo := [some (.ref (sv_ad G 0 8 0)), some (.int (nI k)), some (.int mode), none, none]) (pn_X3) rfl (Nat.le_of_ble_eq_true rfl) rfl (fun K X Y => ?_)
  replace X : sv_X G K cX3_busyFor RX3 5 2 := X
  replace Y : sv_Y G K (some .int) _ _ := Y
  show sw_W G K 5 0 _ _ _
  have L : ∀ r, r ≤ 3 → (fun r => ∀ x, x = bcS (M 0) k mode r → sw_W G K 5 27 [some (.ref (sv_ad G 0 8 0)), some (.int (nI k)), some (.int mode), some (.int x), some (.int (nI r))] [] M) r := by
    refine up_ind (N := 3) (P := fun r => ∀ x, x = bcS (M 0) k mode r → sw_W G K 5 27 [some (.ref (sv_ad G 0 8 0)), some (.int (nI k)), some (.int mode), some (.int x), some (.int (nI r))] [] M) ?_
    intro r hr3x ih x hx
    show sw_W _ _ _ _ _ _ _
    refine sw_iload_4 X dX3_busyFor_27 ?_
    refine sw_iconst X (nI 3) dX3_busyFor_29 (by decide) ?_
    refine sw_icmp_ge X 60 dX3_busyFor_30 (by decide) (fun h30 => ?_) (fun h30 => ?_)
    ·
      have e : r = 3 := by have := (nI_leI (by omega) (by omega)).mp h30; omega
      subst e
      refine sw_iload_3 X dX3_busyFor_60 ?_
      exact sw_iret X Y dX3_busyFor_61 (ri_of hx.symm) (rfl)
    ·
      have hr : r < 3 := by have := mt (nI_leI (by omega) (by omega)).mpr h30; omega
      refine sw_aload_0 X dX3_busyFor_33 ?_
      refine gf_X3_12 X dX3_busyFor_34 ?_
      refine sw_iload_4 X dX3_busyFor_37 ?_
      refine sw_iload_1 X dX3_busyFor_39 ?_
      refine sw_iload_2 X dX3_busyFor_40 ?_
      refine ca_X3_137 X (by decide) (by decide) dX3_busyFor_41 (Nat.le_of_ble_eq_true rfl) (c_X1_isBusy (i := 0) (by decide) hr hk) ?_
      refine sw_ifB_eq X 54 dX3_busyFor_44 (by decide) (fun h44 => ?_) (fun h44 => ?_)
      ·
        have hx2 : x = bcS (M 0) k mode (r + 1) := hx.trans (if_neg h44).symm
        first | refine sw_inc1_4 X dX3_busyFor_54 trivial ?_ | refine sw_iinc_4 X _ dX3_busyFor_54 rfl trivial ?_
        refine sw_goto X 27 dX3_busyFor_57 (by decide) ?_
        exact ih (r + 1) (by omega) (by omega) _ hx2
      ·
        have hx2 : sb x r = bcS (M 0) k mode (r + 1) := (congrArg (fun z => sb z r) hx).trans (if_pos h44).symm
        refine sw_iload_3 X dX3_busyFor_47 ?_
        refine sw_iconst X (nI 1) dX3_busyFor_48 (by decide) ?_
        refine sw_iload_4 X dX3_busyFor_49 ?_
        refine sw_ishl X dX3_busyFor_51 ?_
        refine sw_ior X dX3_busyFor_52 ?_
        refine sw_istore_3 X dX3_busyFor_53 trivial ?_
        first | refine sw_inc1_4 X dX3_busyFor_54 trivial ?_ | refine sw_iinc_4 X _ dX3_busyFor_54 rfl trivial ?_
        refine sw_goto X 27 dX3_busyFor_57 (by decide) ?_
        exact ih (r + 1) (by omega) (by omega) _ hx2
  refine sw_iload_1 X dX3_busyFor_0 ?_
  refine ca_X3_115 X (by decide) dX3_busyFor_1 (Nat.le_of_ble_eq_true rfl) c_X3_isKey ?_
  refine sw_ifB_ne X 9 dX3_busyFor_4 (by decide) (fun h4 => ?_) (fun h4 => ?_)
  ·
    refine sw_iload_2 X dX3_busyFor_9 ?_
    refine sw_iconst X (nI 1) dX3_busyFor_10 (by decide) ?_
    refine sw_icmp_eq X 22 dX3_busyFor_11 (by decide) (fun h11 => ?_) (fun h11 => ?_)
    ·
      refine sw_iconst X (nI 0) dX3_busyFor_22 (by decide) ?_
      refine sw_istore_3 X dX3_busyFor_23 trivial ?_
      refine sw_iconst X (nI 0) dX3_busyFor_24 (by decide) ?_
      refine sw_istore_4 X dX3_busyFor_25 trivial ?_
      exact L 0 (by omega) _ rfl
    ·
      refine sw_iload_2 X dX3_busyFor_14 ?_
      refine sw_iconst X (nI 2) dX3_busyFor_15 (by decide) ?_
      refine sw_icmp_eq X 22 dX3_busyFor_16 (by decide) (fun h16 => ?_) (fun h16 => ?_)
      ·
        refine sw_iconst X (nI 0) dX3_busyFor_22 (by decide) ?_
        refine sw_istore_3 X dX3_busyFor_23 trivial ?_
        refine sw_iconst X (nI 0) dX3_busyFor_24 (by decide) ?_
        refine sw_istore_4 X dX3_busyFor_25 trivial ?_
        exact L 0 (by omega) _ rfl
      ·
        exact absurd hm (fun z => z.elim h11 h16)
  ·
    exact absurd (inR_lt (by omega) (by omega)) h4
set_option maxHeartbeats 4000000 in
set_option maxRecDepth 100000 in
theorem c_X3_busyFor_b {G : sv_G} {M : sv_Mem} {k : Nat} {mode : Int32} (hk : k < 16) (hm : ¬ (mode = nI 1 ∨ mode = nI 2)) : sv_Ct G M_X3_busyFor 2 [.ref (sv_ad G 0 8 0), .int (nI k), .int mode] M (some (.int (-2))) (M) := by
  refine sv_Ct_of (lo := [some (.ref (sv_ad G 0 8 0)), some (.int (nI k)), some (.int mode), none, none]) (pn_X3) rfl (Nat.le_of_ble_eq_true rfl) rfl (fun K X Y => ?_)
  replace X : sv_X G K cX3_busyFor RX3 5 2 := X
  replace Y : sv_Y G K (some .int) _ _ := Y
  show sw_W G K 5 0 _ _ _
  refine sw_iload_1 X dX3_busyFor_0 ?_
  refine ca_X3_115 X (by decide) dX3_busyFor_1 (Nat.le_of_ble_eq_true rfl) c_X3_isKey ?_
  refine sw_ifB_ne X 9 dX3_busyFor_4 (by decide) (fun h4 => ?_) (fun h4 => ?_)
  ·
    refine sw_iload_2 X dX3_busyFor_9 ?_
    refine sw_iconst X (nI 1) dX3_busyFor_10 (by decide) ?_
    refine sw_icmp_eq X 22 dX3_busyFor_11 (by decide) (fun h11 => ?_) (fun h11 => ?_)
    ·
      exact absurd (Or.inl h11) hm
    ·
      refine sw_iload_2 X dX3_busyFor_14 ?_
      refine sw_iconst X (nI 2) dX3_busyFor_15 (by decide) ?_
      refine sw_icmp_eq X 22 dX3_busyFor_16 (by decide) (fun h16 => ?_) (fun h16 => ?_)
      ·
        exact absurd (Or.inr h16) hm
      ·
        refine sw_bipush X (-2) dX3_busyFor_19 (by decide) ?_
        exact sw_iret X Y dX3_busyFor_21 (rfl) (rfl)
  ·
    exact absurd (inR_lt (by omega) (by omega)) h4
set_option maxHeartbeats 4000000 in
set_option maxRecDepth 100000 in
theorem c_X3_busyFor_x {G : sv_G} {M : sv_Mem} {v mode : Int32} (hv : ¬ inR v (nI 0) (nI 15)) : sv_Ct G M_X3_busyFor 2 [.ref (sv_ad G 0 8 0), .int v, .int mode] M (some (.int (-1))) (M) := by
  refine sv_Ct_of (lo := [some (.ref (sv_ad G 0 8 0)), some (.int v), some (.int mode), none, none]) (pn_X3) rfl (Nat.le_of_ble_eq_true rfl) rfl (fun K X Y => ?_)
  replace X : sv_X G K cX3_busyFor RX3 5 2 := X
  replace Y : sv_Y G K (some .int) _ _ := Y
  show sw_W G K 5 0 _ _ _
  refine sw_iload_1 X dX3_busyFor_0 ?_
  refine ca_X3_115 X (by decide) dX3_busyFor_1 (Nat.le_of_ble_eq_true rfl) c_X3_isKey ?_
  refine sw_ifB_ne X 9 dX3_busyFor_4 (by decide) (fun h4 => ?_) (fun h4 => ?_)
  ·
    exact absurd h4 hv
  ·
    refine sw_iconst X (-1) dX3_busyFor_7 (by decide) ?_
    exact sw_iret X Y dX3_busyFor_8 (rfl) (rfl)
set_option maxHeartbeats 4000000 in
set_option maxRecDepth 100000 in
theorem c_X3_session_0 {G : sv_G} {M : sv_Mem} {q : Nat} (hq : q < 3) {c : Nat} (hc : M 0 14 q 0 = nI c) (hc2 : c ≤ 13)  : sv_Ct G M_X3_session 2 [.ref (sv_ad G 0 8 0), .int (nI q), .int (nI 0)] M (some (.int (bI (c ≠ 0)))) (M) := by
  refine sv_Ct_of (lo := [some (.ref (sv_ad G 0 8 0)), some (.int (nI q)), some (.int (nI 0)), none]) (pn_X3) rfl (Nat.le_of_ble_eq_true rfl) rfl (fun K X Y => ?_)
  replace X : sv_X G K cX3_session RX3 4 2 := X
  replace Y : sv_Y G K (some .int) _ _ := Y
  show sw_W G K 4 0 _ _ _
  refine sw_iload_1 X dX3_session_0 ?_
  refine ca_X3_125 X (by decide) dX3_session_1 (Nat.le_of_ble_eq_true rfl) c_X3_isSession ?_
  refine sw_ifB_ne X 9 dX3_session_4 (by decide) (fun h4 => ?_) (fun h4 => ?_)
  ·
    refine sw_aload_0 X dX3_session_9 ?_
    refine gf_X3_12 X dX3_session_10 ?_
    refine gf_X3_128 X (by decide) dX3_session_13 ?_
    refine sw_iload_1 X dX3_session_16 ?_
    refine sw_aaldT X (by decide) rfl hq dX3_session_17 ?_
    refine sw_astore_3 X dX3_session_18 trivial ?_
    refine sw_iload_2 X dX3_session_19 ?_
    refine sw_tabInV X 56 dX3_session_20 (q := 0) rfl (by decide) (by decide) ?_
    refine sw_aload_3 X dX3_session_56 ?_
    refine ca_X3_141 X (by decide) hq (by decide) dX3_session_57 (Nat.le_of_ble_eq_true rfl) (c_X2_isOpen (i := 0) (by decide) hq hc (by omega)) ?_
    refine sw_ifB_eq X 67 dX3_session_60 (by decide) (fun h60 => ?_) (fun h60 => ?_)
    ·
      refine sw_iconst X (nI 0) dX3_session_67 (by decide) ?_
      exact sw_iret X Y dX3_session_68 (by first | (rw [bI_t h60]; done) | (rw [bI_f h60]; done)) (rfl)
    ·
      refine sw_iconst X (nI 1) dX3_session_63 (by decide) ?_
      refine sw_goto X 68 dX3_session_64 (by decide) ?_
      exact sw_iret X Y dX3_session_68 (by first | (rw [bI_t h60]; done) | (rw [bI_f h60]; done)) (rfl)
  ·
    exact absurd (inR_lt (by omega) (by omega)) h4
set_option maxHeartbeats 4000000 in
set_option maxRecDepth 100000 in
theorem c_X3_session_1 {G : sv_G} {M : sv_Mem} {q : Nat} (hq : q < 3) {c : Nat} (hc : M 0 14 q 0 = nI c) (hc2 : c ≤ 13)  : sv_Ct G M_X3_session 2 [.ref (sv_ad G 0 8 0), .int (nI q), .int (nI 1)] M (some (.int (nI (c - 1)))) (M) := by
  refine sv_Ct_of (lo := [some (.ref (sv_ad G 0 8 0)), some (.int (nI q)), some (.int (nI 1)), none]) (pn_X3) rfl (Nat.le_of_ble_eq_true rfl) rfl (fun K X Y => ?_)
  replace X : sv_X G K cX3_session RX3 4 2 := X
  replace Y : sv_Y G K (some .int) _ _ := Y
  show sw_W G K 4 0 _ _ _
  refine sw_iload_1 X dX3_session_0 ?_
  refine ca_X3_125 X (by decide) dX3_session_1 (Nat.le_of_ble_eq_true rfl) c_X3_isSession ?_
  refine sw_ifB_ne X 9 dX3_session_4 (by decide) (fun h4 => ?_) (fun h4 => ?_)
  ·
    refine sw_aload_0 X dX3_session_9 ?_
    refine gf_X3_12 X dX3_session_10 ?_
    refine gf_X3_128 X (by decide) dX3_session_13 ?_
    refine sw_iload_1 X dX3_session_16 ?_
    refine sw_aaldT X (by decide) rfl hq dX3_session_17 ?_
    refine sw_astore_3 X dX3_session_18 trivial ?_
    refine sw_iload_2 X dX3_session_19 ?_
    refine sw_tabInV X 69 dX3_session_20 (q := 1) rfl (by decide) (by decide) ?_
    refine sw_aload_3 X dX3_session_69 ?_
    refine ca_X3_145 X (by decide) hq (by decide) dX3_session_70 (Nat.le_of_ble_eq_true rfl) (c_X2_savepointCount (i := 0) (by decide) hq hc (by omega)) ?_
    exact sw_iret X Y dX3_session_73 (rfl) (rfl)
  ·
    exact absurd (inR_lt (by omega) (by omega)) h4
set_option maxHeartbeats 4000000 in
set_option maxRecDepth 100000 in
theorem c_X3_session_2 {G : sv_G} {M : sv_Mem} {q : Nat} (hq : q < 3) {c : Nat} (hc : M 0 14 q 0 = nI c) (hc2 : c ≤ 13) {kn : Nat} (hkn : sncR (M 0 17 q) c 0 (nI 0) = nI kn) (hkl : kn < 65536) : sv_Ct G M_X3_session 2 [.ref (sv_ad G 0 8 0), .int (nI q), .int (nI 2)] M (some (.int (nI (pcn (nI kn))))) (M) := by
  refine sv_Ct_of (lo := [some (.ref (sv_ad G 0 8 0)), some (.int (nI q)), some (.int (nI 2)), none]) (pn_X3) rfl (Nat.le_of_ble_eq_true rfl) rfl (fun K X Y => ?_)
  replace X : sv_X G K cX3_session RX3 4 2 := X
  replace Y : sv_Y G K (some .int) _ _ := Y
  show sw_W G K 4 0 _ _ _
  refine sw_iload_1 X dX3_session_0 ?_
  refine ca_X3_125 X (by decide) dX3_session_1 (Nat.le_of_ble_eq_true rfl) c_X3_isSession ?_
  refine sw_ifB_ne X 9 dX3_session_4 (by decide) (fun h4 => ?_) (fun h4 => ?_)
  ·
    refine sw_aload_0 X dX3_session_9 ?_
    refine gf_X3_12 X dX3_session_10 ?_
    refine gf_X3_128 X (by decide) dX3_session_13 ?_
    refine sw_iload_1 X dX3_session_16 ?_
    refine sw_aaldT X (by decide) rfl hq dX3_session_17 ?_
    refine sw_astore_3 X dX3_session_18 trivial ?_
    refine sw_iload_2 X dX3_session_19 ?_
    refine sw_tabInV X 74 dX3_session_20 (q := 2) rfl (by decide) (by decide) ?_
    refine sw_aload_3 X dX3_session_74 ?_
    refine sw_iconst X (nI 0) dX3_session_75 (by decide) ?_
    refine ca_X3_148 X (by decide) hq (by decide) dX3_session_76 (Nat.le_of_ble_eq_true rfl) (c_X2_keysChangedSince (i := 0) (by decide) hq hc (by omega) (Nat.zero_le _)) ?_
    refine sw_tope (v2 := nI kn) hkn ?_
    refine ca_X3_151 X (by decide) dX3_session_79 (Nat.le_of_ble_eq_true rfl) (c_J6_bitCount_0f7a4 hkl) ?_
    exact sw_iret X Y dX3_session_82 (rfl) (rfl)
  ·
    exact absurd (inR_lt (by omega) (by omega)) h4
set_option maxHeartbeats 4000000 in
set_option maxRecDepth 100000 in
theorem c_X3_session_3 {G : sv_G} {M : sv_Mem} {q : Nat} (hq : q < 3) {c : Nat} (hc : M 0 14 q 0 = nI c) (hc2 : c ≤ 13)  : sv_Ct G M_X3_session 2 [.ref (sv_ad G 0 8 0), .int (nI q), .int (nI 3)] M (some (.int (nI (cnt (fun k => md (M 0 14 q 1) k = nI 1) 16)))) (M) := by
  refine sv_Ct_of (lo := [some (.ref (sv_ad G 0 8 0)), some (.int (nI q)), some (.int (nI 3)), none]) (pn_X3) rfl (Nat.le_of_ble_eq_true rfl) rfl (fun K X Y => ?_)
  replace X : sv_X G K cX3_session RX3 4 2 := X
  replace Y : sv_Y G K (some .int) _ _ := Y
  show sw_W G K 4 0 _ _ _
  refine sw_iload_1 X dX3_session_0 ?_
  refine ca_X3_125 X (by decide) dX3_session_1 (Nat.le_of_ble_eq_true rfl) c_X3_isSession ?_
  refine sw_ifB_ne X 9 dX3_session_4 (by decide) (fun h4 => ?_) (fun h4 => ?_)
  ·
    refine sw_aload_0 X dX3_session_9 ?_
    refine gf_X3_12 X dX3_session_10 ?_
    refine gf_X3_128 X (by decide) dX3_session_13 ?_
    refine sw_iload_1 X dX3_session_16 ?_
    refine sw_aaldT X (by decide) rfl hq dX3_session_17 ?_
    refine sw_astore_3 X dX3_session_18 trivial ?_
    refine sw_iload_2 X dX3_session_19 ?_
    refine sw_tabInV X 83 dX3_session_20 (q := 3) rfl (by decide) (by decide) ?_
    refine sw_aload_3 X dX3_session_83 ?_
    refine sw_iconst X (nI 1) dX3_session_84 (by decide) ?_
    refine ca_X3_156 X (by decide) hq (by decide) dX3_session_85 (Nat.le_of_ble_eq_true rfl) (c_X2_lockCount (i := 0) (by decide) hq) ?_
    exact sw_iret X Y dX3_session_88 (rfl) (rfl)
  ·
    exact absurd (inR_lt (by omega) (by omega)) h4
set_option maxHeartbeats 4000000 in
set_option maxRecDepth 100000 in
theorem c_X3_session_4 {G : sv_G} {M : sv_Mem} {q : Nat} (hq : q < 3) {c : Nat} (hc : M 0 14 q 0 = nI c) (hc2 : c ≤ 13)  : sv_Ct G M_X3_session 2 [.ref (sv_ad G 0 8 0), .int (nI q), .int (nI 4)] M (some (.int (nI (cnt (fun k => md (M 0 14 q 1) k = nI 2) 16)))) (M) := by
  refine sv_Ct_of (lo := [some (.ref (sv_ad G 0 8 0)), some (.int (nI q)), some (.int (nI 4)), none]) (pn_X3) rfl (Nat.le_of_ble_eq_true rfl) rfl (fun K X Y => ?_)
  replace X : sv_X G K cX3_session RX3 4 2 := X
  replace Y : sv_Y G K (some .int) _ _ := Y
  show sw_W G K 4 0 _ _ _
  refine sw_iload_1 X dX3_session_0 ?_
  refine ca_X3_125 X (by decide) dX3_session_1 (Nat.le_of_ble_eq_true rfl) c_X3_isSession ?_
  refine sw_ifB_ne X 9 dX3_session_4 (by decide) (fun h4 => ?_) (fun h4 => ?_)
  ·
    refine sw_aload_0 X dX3_session_9 ?_
    refine gf_X3_12 X dX3_session_10 ?_
    refine gf_X3_128 X (by decide) dX3_session_13 ?_
    refine sw_iload_1 X dX3_session_16 ?_
    refine sw_aaldT X (by decide) rfl hq dX3_session_17 ?_
    refine sw_astore_3 X dX3_session_18 trivial ?_
    refine sw_iload_2 X dX3_session_19 ?_
    refine sw_tabInV X 89 dX3_session_20 (q := 4) rfl (by decide) (by decide) ?_
    refine sw_aload_3 X dX3_session_89 ?_
    refine sw_iconst X (nI 2) dX3_session_90 (by decide) ?_
    refine ca_X3_156 X (by decide) hq (by decide) dX3_session_91 (Nat.le_of_ble_eq_true rfl) (c_X2_lockCount (i := 0) (by decide) hq) ?_
    exact sw_iret X Y dX3_session_94 (rfl) (rfl)
  ·
    exact absurd (inR_lt (by omega) (by omega)) h4
set_option maxHeartbeats 4000000 in
set_option maxRecDepth 100000 in
theorem c_X3_session_b {G : sv_G} {M : sv_Mem} {q : Nat} {w : Int32} (hq : q < 3) (hw : ∀ i, i < 5 → w ≠ nI i) : sv_Ct G M_X3_session 2 [.ref (sv_ad G 0 8 0), .int (nI q), .int w] M (some (.int (-2))) (M) := by
  refine sv_Ct_of (lo := [some (.ref (sv_ad G 0 8 0)), some (.int (nI q)), some (.int w), none]) (pn_X3) rfl (Nat.le_of_ble_eq_true rfl) rfl (fun K X Y => ?_)
  replace X : sv_X G K cX3_session RX3 4 2 := X
  replace Y : sv_Y G K (some .int) _ _ := Y
  show sw_W G K 4 0 _ _ _
  refine sw_iload_1 X dX3_session_0 ?_
  refine ca_X3_125 X (by decide) dX3_session_1 (Nat.le_of_ble_eq_true rfl) c_X3_isSession ?_
  refine sw_ifB_ne X 9 dX3_session_4 (by decide) (fun h4 => ?_) (fun h4 => ?_)
  ·
    refine sw_aload_0 X dX3_session_9 ?_
    refine gf_X3_12 X dX3_session_10 ?_
    refine gf_X3_128 X (by decide) dX3_session_13 ?_
    refine sw_iload_1 X dX3_session_16 ?_
    refine sw_aaldT X (by decide) rfl hq dX3_session_17 ?_
    refine sw_astore_3 X dX3_session_18 trivial ?_
    refine sw_iload_2 X dX3_session_19 ?_
    refine sw_case (v := nI 0) (fun h20 => ?_) (fun h20_0 => ?_)
    ·
      refine sw_tabInV X 56 dX3_session_20 (q := 0) h20 (by decide) (by decide) ?_
      exact absurd h20 (hw 0 (by omega))
    refine sw_case (v := nI 1) (fun h20 => ?_) (fun h20_1 => ?_)
    ·
      refine sw_tabInV X 69 dX3_session_20 (q := 1) h20 (by decide) (by decide) ?_
      exact absurd h20 (hw 1 (by omega))
    refine sw_case (v := nI 2) (fun h20 => ?_) (fun h20_2 => ?_)
    ·
      refine sw_tabInV X 74 dX3_session_20 (q := 2) h20 (by decide) (by decide) ?_
      exact absurd h20 (hw 2 (by omega))
    refine sw_case (v := nI 3) (fun h20 => ?_) (fun h20_3 => ?_)
    ·
      refine sw_tabInV X 83 dX3_session_20 (q := 3) h20 (by decide) (by decide) ?_
      exact absurd h20 (hw 3 (by omega))
    refine sw_case (v := nI 4) (fun h20 => ?_) (fun h20_4 => ?_)
    ·
      refine sw_tabInV X 89 dX3_session_20 (q := 4) h20 (by decide) (by decide) ?_
      exact absurd h20 (hw 4 (by omega))
    refine sw_tabOut X 95 dX3_session_20 (by have q0 := sv_ti h20_0 (by decide); have q1 := sv_ti h20_1 (by decide); have q2 := sv_ti h20_2 (by decide); have q3 := sv_ti h20_3 (by decide); have q4 := sv_ti h20_4 (by decide); omega) (by decide) ?_
    refine sw_bipush X (-2) dX3_session_95 (by decide) ?_
    exact sw_iret X Y dX3_session_97 (rfl) (rfl)
  ·
    exact absurd (inR_lt (by omega) (by omega)) h4
set_option maxHeartbeats 4000000 in
set_option maxRecDepth 100000 in
theorem c_X3_session_x {G : sv_G} {M : sv_Mem} {v w : Int32} (hv : ¬ inR v (nI 0) (nI 2)) : sv_Ct G M_X3_session 2 [.ref (sv_ad G 0 8 0), .int v, .int w] M (some (.int (-1))) (M) := by
  refine sv_Ct_of (lo := [some (.ref (sv_ad G 0 8 0)), some (.int v), some (.int w), none]) (pn_X3) rfl (Nat.le_of_ble_eq_true rfl) rfl (fun K X Y => ?_)
  replace X : sv_X G K cX3_session RX3 4 2 := X
  replace Y : sv_Y G K (some .int) _ _ := Y
  show sw_W G K 4 0 _ _ _
  refine sw_iload_1 X dX3_session_0 ?_
  refine ca_X3_125 X (by decide) dX3_session_1 (Nat.le_of_ble_eq_true rfl) c_X3_isSession ?_
  refine sw_ifB_ne X 9 dX3_session_4 (by decide) (fun h4 => ?_) (fun h4 => ?_)
  ·
    exact absurd h4 hv
  ·
    refine sw_iconst X (-1) dX3_session_7 (by decide) ?_
    exact sw_iret X Y dX3_session_8 (rfl) (rfl)
set_option maxHeartbeats 4000000 in
set_option maxRecDepth 100000 in
theorem c_X3_nameOf_y {G : sv_G} {M : sv_Mem} {q p : Nat} (hq : q < 3) {c : Nat} (hc : M 0 14 q 0 = nI c) (hc2 : c ≤ 13) (hp : p < c - 1) : sv_Ct G M_X3_nameOf 3 [.ref (sv_ad G 0 8 0), .int (nI q), .int (nI p)] M (some (.int (M 0 16 q p))) (M) := by
  refine sv_Ct_of (lo := [some (.ref (sv_ad G 0 8 0)), some (.int (nI q)), some (.int (nI p))]) (pn_X3) rfl (Nat.le_of_ble_eq_true rfl) rfl (fun K X Y => ?_)
  replace X : sv_X G K cX3_nameOf RX3 3 3 := X
  replace Y : sv_Y G K (some .int) _ _ := Y
  show sw_W G K 3 0 _ _ _
  refine sw_aload_0 X dX3_nameOf_0 ?_
  refine gf_X3_12 X dX3_nameOf_1 ?_
  refine sw_iload_1 X dX3_nameOf_4 ?_
  refine sw_iload_2 X dX3_nameOf_5 ?_
  refine ca_X3_159 X (by decide) (by decide) dX3_nameOf_6 (Nat.le_of_ble_eq_true rfl) (c_X1_hasSavepoint (i := 0) (by decide) hq hc (by omega)) ?_
  refine sw_ifB_ne X 14 dX3_nameOf_9 (by decide) (fun h9 => ?_) (fun h9 => ?_)
  ·
    refine sw_aload_0 X dX3_nameOf_14 ?_
    refine gf_X3_12 X dX3_nameOf_15 ?_
    refine gf_X3_128 X (by decide) dX3_nameOf_18 ?_
    refine sw_iload_1 X dX3_nameOf_21 ?_
    refine sw_aaldT X (by decide) rfl hq dX3_nameOf_22 ?_
    refine gf_X3_163 X (by decide) hq dX3_nameOf_23 ?_
    refine sw_iload_2 X dX3_nameOf_26 ?_
    refine ia_16 X (by decide) hq rfl (by omega) dX3_nameOf_27 ?_
    exact sw_iret X Y dX3_nameOf_28 (rfl) (rfl)
  ·
    exact absurd ⟨nI_pos (by omega), nI_lt hp (by omega)⟩ h9
set_option maxHeartbeats 4000000 in
set_option maxRecDepth 100000 in
theorem c_X3_nameOf_n {G : sv_G} {M : sv_Mem} {q : Nat} {p : Int32} (hq : q < 3) {c : Nat} (hc : M 0 14 q 0 = nI c) (hc2 : c ≤ 13) (hp : ¬ (¬ p < 0 ∧ p < nI (c - 1))) : sv_Ct G M_X3_nameOf 3 [.ref (sv_ad G 0 8 0), .int (nI q), .int p] M (some (.int (-1))) (M) := by
  refine sv_Ct_of (lo := [some (.ref (sv_ad G 0 8 0)), some (.int (nI q)), some (.int p)]) (pn_X3) rfl (Nat.le_of_ble_eq_true rfl) rfl (fun K X Y => ?_)
  replace X : sv_X G K cX3_nameOf RX3 3 3 := X
  replace Y : sv_Y G K (some .int) _ _ := Y
  show sw_W G K 3 0 _ _ _
  refine sw_aload_0 X dX3_nameOf_0 ?_
  refine gf_X3_12 X dX3_nameOf_1 ?_
  refine sw_iload_1 X dX3_nameOf_4 ?_
  refine sw_iload_2 X dX3_nameOf_5 ?_
  refine ca_X3_159 X (by decide) (by decide) dX3_nameOf_6 (Nat.le_of_ble_eq_true rfl) (c_X1_hasSavepoint (i := 0) (by decide) hq hc (by omega)) ?_
  refine sw_ifB_ne X 14 dX3_nameOf_9 (by decide) (fun h9 => ?_) (fun h9 => ?_)
  ·
    exact absurd h9 hp
  ·
    refine sw_iconst X (-1) dX3_nameOf_12 (by decide) ?_
    exact sw_iret X Y dX3_nameOf_13 (rfl) (rfl)
set_option maxHeartbeats 4000000 in
set_option maxRecDepth 100000 in
theorem c_X3_nameOf_x {G : sv_G} {M : sv_Mem} {v p : Int32} (hv : ¬ inR v (nI 0) (nI 2)) : sv_Ct G M_X3_nameOf 3 [.ref (sv_ad G 0 8 0), .int v, .int p] M (some (.int (-1))) (M) := by
  refine sv_Ct_of (lo := [some (.ref (sv_ad G 0 8 0)), some (.int v), some (.int p)]) (pn_X3) rfl (Nat.le_of_ble_eq_true rfl) rfl (fun K X Y => ?_)
  replace X : sv_X G K cX3_nameOf RX3 3 3 := X
  replace Y : sv_Y G K (some .int) _ _ := Y
  show sw_W G K 3 0 _ _ _
  refine sw_aload_0 X dX3_nameOf_0 ?_
  refine gf_X3_12 X dX3_nameOf_1 ?_
  refine sw_iload_1 X dX3_nameOf_4 ?_
  refine sw_iload_2 X dX3_nameOf_5 ?_
  refine ca_X3_159 X (by decide) (by decide) dX3_nameOf_6 (Nat.le_of_ble_eq_true rfl) (c_X1_hasSavepoint_x (i := 0) hv) ?_
  refine sw_ifB_ne X 14 dX3_nameOf_9 (by decide) (fun h9 => ?_) (fun h9 => ?_)
  ·
    exact absurd h9 id
  ·
    refine sw_iconst X (-1) dX3_nameOf_12 (by decide) ?_
    exact sw_iret X Y dX3_nameOf_13 (rfl) (rfl)
set_option maxHeartbeats 4000000 in
set_option maxRecDepth 100000 in
theorem c_X3_nearest_y {G : sv_G} {M : sv_Mem} {q : Nat} {nm : Int32} (hq : q < 3) (hn : inR nm (nI 0) (nI 7)) {c : Nat} (hc : M 0 14 q 0 = nI c) (hc2 : c ≤ 13) : sv_Ct G M_X3_nearest 3 [.ref (sv_ad G 0 8 0), .int (nI q), .int nm] M (some (.int (nrR (M 0 16 q) nm (c - 1)))) (M) := by
  refine sv_Ct_of (lo := [some (.ref (sv_ad G 0 8 0)), some (.int (nI q)), some (.int nm)]) (pn_X3) rfl (Nat.le_of_ble_eq_true rfl) rfl (fun K X Y => ?_)
  replace X : sv_X G K cX3_nearest RX3 3 3 := X
  replace Y : sv_Y G K (some .int) _ _ := Y
  show sw_W G K 3 0 _ _ _
  refine sw_iload_1 X dX3_nearest_0 ?_
  refine ca_X3_125 X (by decide) dX3_nearest_1 (Nat.le_of_ble_eq_true rfl) c_X3_isSession ?_
  refine sw_ifB_ne X 9 dX3_nearest_4 (by decide) (fun h4 => ?_) (fun h4 => ?_)
  ·
    refine sw_iload_2 X dX3_nearest_9 ?_
    refine ca_X3_166 X (by decide) dX3_nearest_10 (Nat.le_of_ble_eq_true rfl) c_X3_isName ?_
    refine sw_ifB_ne X 19 dX3_nearest_13 (by decide) (fun h13 => ?_) (fun h13 => ?_)
    ·
      refine sw_aload_0 X dX3_nearest_19 ?_
      refine gf_X3_12 X dX3_nearest_20 ?_
      refine gf_X3_128 X (by decide) dX3_nearest_23 ?_
      refine sw_iload_1 X dX3_nearest_26 ?_
      refine sw_aaldT X (by decide) rfl hq dX3_nearest_27 ?_
      refine sw_iload_2 X dX3_nearest_28 ?_
      refine ca_X3_169 X (by decide) hq (by decide) dX3_nearest_29 (Nat.le_of_ble_eq_true rfl) (c_X2_nearestSavepoint (i := 0) (by decide) hq hc hc2) ?_
      exact sw_iret X Y dX3_nearest_32 (rfl) (rfl)
    ·
      exact absurd hn h13
  ·
    exact absurd (inR_lt (by omega) (by omega)) h4
set_option maxHeartbeats 4000000 in
set_option maxRecDepth 100000 in
theorem c_X3_nearest_b {G : sv_G} {M : sv_Mem} {q : Nat} {nm : Int32} (hq : q < 3) (hn : ¬ inR nm (nI 0) (nI 7)) : sv_Ct G M_X3_nearest 3 [.ref (sv_ad G 0 8 0), .int (nI q), .int nm] M (some (.int (-2))) (M) := by
  refine sv_Ct_of (lo := [some (.ref (sv_ad G 0 8 0)), some (.int (nI q)), some (.int nm)]) (pn_X3) rfl (Nat.le_of_ble_eq_true rfl) rfl (fun K X Y => ?_)
  replace X : sv_X G K cX3_nearest RX3 3 3 := X
  replace Y : sv_Y G K (some .int) _ _ := Y
  show sw_W G K 3 0 _ _ _
  refine sw_iload_1 X dX3_nearest_0 ?_
  refine ca_X3_125 X (by decide) dX3_nearest_1 (Nat.le_of_ble_eq_true rfl) c_X3_isSession ?_
  refine sw_ifB_ne X 9 dX3_nearest_4 (by decide) (fun h4 => ?_) (fun h4 => ?_)
  ·
    refine sw_iload_2 X dX3_nearest_9 ?_
    refine ca_X3_166 X (by decide) dX3_nearest_10 (Nat.le_of_ble_eq_true rfl) c_X3_isName ?_
    refine sw_ifB_ne X 19 dX3_nearest_13 (by decide) (fun h13 => ?_) (fun h13 => ?_)
    ·
      exact absurd h13 hn
    ·
      refine sw_bipush X (-2) dX3_nearest_16 (by decide) ?_
      exact sw_iret X Y dX3_nearest_18 (rfl) (rfl)
  ·
    exact absurd (inR_lt (by omega) (by omega)) h4
set_option maxHeartbeats 4000000 in
set_option maxRecDepth 100000 in
theorem c_X3_nearest_x {G : sv_G} {M : sv_Mem} {v nm : Int32} (hv : ¬ inR v (nI 0) (nI 2)) : sv_Ct G M_X3_nearest 3 [.ref (sv_ad G 0 8 0), .int v, .int nm] M (some (.int (-1))) (M) := by
  refine sv_Ct_of (lo := [some (.ref (sv_ad G 0 8 0)), some (.int v), some (.int nm)]) (pn_X3) rfl (Nat.le_of_ble_eq_true rfl) rfl (fun K X Y => ?_)
  replace X : sv_X G K cX3_nearest RX3 3 3 := X
  replace Y : sv_Y G K (some .int) _ _ := Y
  show sw_W G K 3 0 _ _ _
  refine sw_iload_1 X dX3_nearest_0 ?_
  refine ca_X3_125 X (by decide) dX3_nearest_1 (Nat.le_of_ble_eq_true rfl) c_X3_isSession ?_
  refine sw_ifB_ne X 9 dX3_nearest_4 (by decide) (fun h4 => ?_) (fun h4 => ?_)
  ·
    exact absurd h4 hv
  ·
    refine sw_iconst X (-1) dX3_nearest_7 (by decide) ?_
    exact sw_iret X Y dX3_nearest_8 (rfl) (rfl)
set_option maxHeartbeats 4000000 in
set_option maxRecDepth 100000 in
theorem c_X3_changedSince_y {G : sv_G} {M : sv_Mem} {q p : Nat} {b : Prop} [Decidable b] (hq : q < 3) {c : Nat} (hc : M 0 14 q 0 = nI c) (hc2 : c ≤ 13) (hp : p < c - 1) : sv_Ct G M_X3_changedSince 3 [.ref (sv_ad G 0 8 0), .int (nI q), .int (nI p), .int (bI b)] M (some (.int (if b then lcS (M 0 15 q (p + 1) ^^^ M 0 14 q 1) 16 else sncR (M 0 17 q) (c - (p + 1)) (p + 1) (nI 0)))) (M) := by
  refine sv_Ct_of (lo := [some (.ref (sv_ad G 0 8 0)), some (.int (nI q)), some (.int (nI p)), some (.int (bI b)), none, none]) (pn_X3) rfl (Nat.le_of_ble_eq_true rfl) rfl (fun K X Y => ?_)
  replace X : sv_X G K cX3_changedSince RX3 6 3 := X
  replace Y : sv_Y G K (some .int) _ _ := Y
  show sw_W G K 6 0 _ _ _
  refine sw_aload_0 X dX3_changedSince_0 ?_
  refine gf_X3_12 X dX3_changedSince_1 ?_
  refine sw_iload_1 X dX3_changedSince_4 ?_
  refine sw_iload_2 X dX3_changedSince_5 ?_
  refine ca_X3_159 X (by decide) (by decide) dX3_changedSince_6 (Nat.le_of_ble_eq_true rfl) (c_X1_hasSavepoint (i := 0) (by decide) hq hc (by omega)) ?_
  refine sw_ifB_ne X 14 dX3_changedSince_9 (by decide) (fun h9 => ?_) (fun h9 => ?_)
  ·
    refine sw_aload_0 X dX3_changedSince_14 ?_
    refine gf_X3_12 X dX3_changedSince_15 ?_
    refine gf_X3_128 X (by decide) dX3_changedSince_18 ?_
    refine sw_iload_1 X dX3_changedSince_21 ?_
    refine sw_aaldT X (by decide) rfl hq dX3_changedSince_22 ?_
    refine sw_astore_4 X dX3_changedSince_23 trivial ?_
    refine sw_iload_2 X dX3_changedSince_25 ?_
    refine ca_X3_172 X (by decide) dX3_changedSince_26 (Nat.le_of_ble_eq_true rfl) c_X3_momentOf ?_
    refine sw_istore_5 X dX3_changedSince_29 trivial ?_
    refine sw_iload_3 X dX3_changedSince_31 ?_
    refine sw_ifB_eq X 45 dX3_changedSince_32 (by decide) (fun h32 => ?_) (fun h32 => ?_)
    ·
      refine sw_aload_4 X dX3_changedSince_45 ?_
      refine sw_iload_5 X dX3_changedSince_47 ?_
      refine ca_X3_148 X (by decide) hq (by decide) dX3_changedSince_49 (Nat.le_of_ble_eq_true rfl) (c_X2_keysChangedSince (i := 0) (by decide) hq hc (by omega) (by omega)) ?_
      exact sw_iret X Y dX3_changedSince_52 (by first | rw [if_pos h32] | rw [if_neg h32]) (rfl)
    ·
      refine sw_aload_4 X dX3_changedSince_35 ?_
      refine sw_iload_5 X dX3_changedSince_37 ?_
      refine ca_X3_175 X (by decide) hq (by decide) dX3_changedSince_39 (Nat.le_of_ble_eq_true rfl) (c_X2_locksChangedSince (i := 0) (by decide) hq hc (by omega) (by omega)) ?_
      refine sw_goto X 52 dX3_changedSince_42 (by decide) ?_
      exact sw_iret X Y dX3_changedSince_52 (by first | rw [if_pos h32] | rw [if_neg h32]) (rfl)
  ·
    exact absurd ⟨nI_pos (by omega), nI_lt hp (by omega)⟩ h9
set_option maxHeartbeats 4000000 in
set_option maxRecDepth 100000 in
theorem c_X3_changedSince_n {G : sv_G} {M : sv_Mem} {q : Nat} {p z : Int32} (hq : q < 3) {c : Nat} (hc : M 0 14 q 0 = nI c) (hc2 : c ≤ 13) (hp : ¬ (¬ p < 0 ∧ p < nI (c - 1))) : sv_Ct G M_X3_changedSince 3 [.ref (sv_ad G 0 8 0), .int (nI q), .int p, .int z] M (some (.int (-1))) (M) := by
  refine sv_Ct_of (lo := [some (.ref (sv_ad G 0 8 0)), some (.int (nI q)), some (.int p), some (.int z), none, none]) (pn_X3) rfl (Nat.le_of_ble_eq_true rfl) rfl (fun K X Y => ?_)
  replace X : sv_X G K cX3_changedSince RX3 6 3 := X
  replace Y : sv_Y G K (some .int) _ _ := Y
  show sw_W G K 6 0 _ _ _
  refine sw_aload_0 X dX3_changedSince_0 ?_
  refine gf_X3_12 X dX3_changedSince_1 ?_
  refine sw_iload_1 X dX3_changedSince_4 ?_
  refine sw_iload_2 X dX3_changedSince_5 ?_
  refine ca_X3_159 X (by decide) (by decide) dX3_changedSince_6 (Nat.le_of_ble_eq_true rfl) (c_X1_hasSavepoint (i := 0) (by decide) hq hc (by omega)) ?_
  refine sw_ifB_ne X 14 dX3_changedSince_9 (by decide) (fun h9 => ?_) (fun h9 => ?_)
  ·
    exact absurd h9 hp
  ·
    refine sw_iconst X (-1) dX3_changedSince_12 (by decide) ?_
    exact sw_iret X Y dX3_changedSince_13 (rfl) (rfl)
set_option maxHeartbeats 4000000 in
set_option maxRecDepth 100000 in
theorem c_X3_changedSince_x {G : sv_G} {M : sv_Mem} {v p z : Int32} (hv : ¬ inR v (nI 0) (nI 2)) : sv_Ct G M_X3_changedSince 3 [.ref (sv_ad G 0 8 0), .int v, .int p, .int z] M (some (.int (-1))) (M) := by
  refine sv_Ct_of (lo := [some (.ref (sv_ad G 0 8 0)), some (.int v), some (.int p), some (.int z), none, none]) (pn_X3) rfl (Nat.le_of_ble_eq_true rfl) rfl (fun K X Y => ?_)
  replace X : sv_X G K cX3_changedSince RX3 6 3 := X
  replace Y : sv_Y G K (some .int) _ _ := Y
  show sw_W G K 6 0 _ _ _
  refine sw_aload_0 X dX3_changedSince_0 ?_
  refine gf_X3_12 X dX3_changedSince_1 ?_
  refine sw_iload_1 X dX3_changedSince_4 ?_
  refine sw_iload_2 X dX3_changedSince_5 ?_
  refine ca_X3_159 X (by decide) (by decide) dX3_changedSince_6 (Nat.le_of_ble_eq_true rfl) (c_X1_hasSavepoint_x (i := 0) hv) ?_
  refine sw_ifB_ne X 14 dX3_changedSince_9 (by decide) (fun h9 => ?_) (fun h9 => ?_)
  ·
    exact absurd h9 id
  ·
    refine sw_iconst X (-1) dX3_changedSince_12 (by decide) ?_
    exact sw_iret X Y dX3_changedSince_13 (rfl) (rfl)
set_option maxHeartbeats 4000000 in
set_option maxRecDepth 100000 in
theorem c_X3_ifUndone_y {G : sv_G} {M : sv_Mem} {q p k : Nat} {nm : Int32} (hq : q < 3) (hk : k < 16) {c : Nat} (hc : M 0 14 q 0 = nI c) (hc2 : c ≤ 13) (hp : p + 1 < c) (hS : sv_Ct G M_X1_savepointOrError 3 [.ref (sv_ad G 10 0 0), .int (nI q), .int nm] M (some (.int (nI p))) M) : sv_Ct G M_X3_ifUndone 4 [.ref (sv_ad G 0 8 0), .int (nI q), .int nm, .int (nI k)] M (some (.int (vaR (M 0) q k (M 0 11 0 k) c (p + 1)))) (M) := by
  refine sv_Ct_of (lo := [some (.ref (sv_ad G 0 8 0)), some (.int (nI q)), some (.int nm), some (.int (nI k)), none]) (pn_X3) rfl (Nat.le_of_ble_eq_true rfl) rfl (fun K X Y => ?_)
  replace X : sv_X G K cX3_ifUndone RX3 5 4 := X
  replace Y : sv_Y G K (some .int) _ _ := Y
  show sw_W G K 5 0 _ _ _
  refine sw_iload_3 X dX3_ifUndone_0 ?_
  refine ca_X3_115 X (by decide) dX3_ifUndone_1 (Nat.le_of_ble_eq_true rfl) c_X3_isKey ?_
  refine sw_ifB_ne X 9 dX3_ifUndone_4 (by decide) (fun h4 => ?_) (fun h4 => ?_)
  ·
    refine sw_aload_0 X dX3_ifUndone_9 ?_
    refine gf_X3_12 X dX3_ifUndone_10 ?_
    refine sw_iload_1 X dX3_ifUndone_13 ?_
    refine sw_iload_2 X dX3_ifUndone_14 ?_
    refine ca_X3_178 X (by decide) (by decide) dX3_ifUndone_15 (Nat.le_of_ble_eq_true rfl) hS ?_
    refine sw_istore_4 X dX3_ifUndone_18 trivial ?_
    refine sw_iload_4 X dX3_ifUndone_20 ?_
    refine sw_if_ge X 28 dX3_ifUndone_22 (by decide) (fun h22 => ?_) (fun h22 => ?_)
    ·
      refine sw_aload_0 X dX3_ifUndone_28 ?_
      refine gf_X3_12 X dX3_ifUndone_29 ?_
      refine gf_X3_128 X (by decide) dX3_ifUndone_32 ?_
      refine sw_iload_1 X dX3_ifUndone_35 ?_
      refine sw_aaldT X (by decide) rfl hq dX3_ifUndone_36 ?_
      refine sw_iload_4 X dX3_ifUndone_37 ?_
      refine ca_X3_172 X (by decide) dX3_ifUndone_39 (Nat.le_of_ble_eq_true rfl) c_X3_momentOf ?_
      refine sw_iload_3 X dX3_ifUndone_42 ?_
      refine sw_aload_0 X dX3_ifUndone_43 ?_
      refine gf_X3_12 X dX3_ifUndone_44 ?_
      refine gf_X3_118 X (by decide) dX3_ifUndone_47 ?_
      refine sw_iload_3 X dX3_ifUndone_50 ?_
      refine ia_11 X (by decide) rfl (by omega) dX3_ifUndone_51 ?_
      refine ca_X3_181 X (by decide) hq (by decide) dX3_ifUndone_52 (Nat.le_of_ble_eq_true rfl) (c_X2_valueAt (i := 0) (by decide) hq hc (by omega) (by omega) hk) ?_
      exact sw_iret X Y dX3_ifUndone_55 (rfl) (rfl)
    ·
      exact absurd (nI_pos' (by omega)) h22
  ·
    exact absurd (inR_lt (by omega) (by omega)) h4
set_option maxHeartbeats 4000000 in
set_option maxRecDepth 100000 in
theorem c_X3_ifUndone_e {G : sv_G} {M : sv_Mem} {v nm e : Int32} {k : Nat} (hk : k < 16) (he : e < 0) (hS : sv_Ct G M_X1_savepointOrError 3 [.ref (sv_ad G 10 0 0), .int v, .int nm] M (some (.int e)) M) : sv_Ct G M_X3_ifUndone 4 [.ref (sv_ad G 0 8 0), .int v, .int nm, .int (nI k)] M (some (.int e)) (M) := by
  refine sv_Ct_of (lo := [some (.ref (sv_ad G 0 8 0)), some (.int v), some (.int nm), some (.int (nI k)), none]) (pn_X3) rfl (Nat.le_of_ble_eq_true rfl) rfl (fun K X Y => ?_)
  replace X : sv_X G K cX3_ifUndone RX3 5 4 := X
  replace Y : sv_Y G K (some .int) _ _ := Y
  show sw_W G K 5 0 _ _ _
  refine sw_iload_3 X dX3_ifUndone_0 ?_
  refine ca_X3_115 X (by decide) dX3_ifUndone_1 (Nat.le_of_ble_eq_true rfl) c_X3_isKey ?_
  refine sw_ifB_ne X 9 dX3_ifUndone_4 (by decide) (fun h4 => ?_) (fun h4 => ?_)
  ·
    refine sw_aload_0 X dX3_ifUndone_9 ?_
    refine gf_X3_12 X dX3_ifUndone_10 ?_
    refine sw_iload_1 X dX3_ifUndone_13 ?_
    refine sw_iload_2 X dX3_ifUndone_14 ?_
    refine ca_X3_178 X (by decide) (by decide) dX3_ifUndone_15 (Nat.le_of_ble_eq_true rfl) hS ?_
    refine sw_istore_4 X dX3_ifUndone_18 trivial ?_
    refine sw_iload_4 X dX3_ifUndone_20 ?_
    refine sw_if_ge X 28 dX3_ifUndone_22 (by decide) (fun h22 => ?_) (fun h22 => ?_)
    ·
      exact absurd he (Int32.not_lt.mpr h22)
    ·
      refine sw_iload_4 X dX3_ifUndone_25 ?_
      exact sw_iret X Y dX3_ifUndone_27 (rfl) (rfl)
  ·
    exact absurd (inR_lt (by omega) (by omega)) h4
set_option maxHeartbeats 4000000 in
set_option maxRecDepth 100000 in
theorem c_X3_ifUndone_x {G : sv_G} {M : sv_Mem} {v nm w : Int32} (h : ¬ inR w (nI 0) (nI 15)) : sv_Ct G M_X3_ifUndone 4 [.ref (sv_ad G 0 8 0), .int v, .int nm, .int w] M (some (.int (-1))) (M) := by
  refine sv_Ct_of (lo := [some (.ref (sv_ad G 0 8 0)), some (.int v), some (.int nm), some (.int w), none]) (pn_X3) rfl (Nat.le_of_ble_eq_true rfl) rfl (fun K X Y => ?_)
  replace X : sv_X G K cX3_ifUndone RX3 5 4 := X
  replace Y : sv_Y G K (some .int) _ _ := Y
  show sw_W G K 5 0 _ _ _
  refine sw_iload_3 X dX3_ifUndone_0 ?_
  refine ca_X3_115 X (by decide) dX3_ifUndone_1 (Nat.le_of_ble_eq_true rfl) c_X3_isKey ?_
  refine sw_ifB_ne X 9 dX3_ifUndone_4 (by decide) (fun h4 => ?_) (fun h4 => ?_)
  ·
    exact absurd h4 h
  ·
    refine sw_iconst X (-1) dX3_ifUndone_7 (by decide) ?_
    exact sw_iret X Y dX3_ifUndone_8 (rfl) (rfl)
set_option maxHeartbeats 4000000 in
set_option maxRecDepth 100000 in
theorem c_X3_total_y {G : sv_G} {M : sv_Mem} {w : Nat} (hw : w < 7) : sv_Ct G M_X3_total 0 [.ref (sv_ad G 0 8 0), .int (nI w)] M (some (.int (M 0 13 0 w))) (M) := by
  refine sv_Ct_of (lo := [some (.ref (sv_ad G 0 8 0)), some (.int (nI w))]) (pn_X3) rfl (Nat.le_of_ble_eq_true rfl) rfl (fun K X Y => ?_)
  replace X : sv_X G K cX3_total RX3 2 0 := X
  replace Y : sv_Y G K (some .int) _ _ := Y
  show sw_W G K 2 0 _ _ _
  refine sw_iload_1 X dX3_total_0 ?_
  refine sw_if_lt X 22 dX3_total_1 (by decide) (fun h1 => ?_) (fun h1 => ?_)
  ·
    exact absurd h1 (nI_pos (by omega))
  ·
    refine sw_iload_1 X dX3_total_4 ?_
    refine sw_bipush X (nI 7) dX3_total_5 (by decide) ?_
    refine sw_icmp_ge X 22 dX3_total_7 (by decide) (fun h7 => ?_) (fun h7 => ?_)
    ·
      exact absurd ((nI_leI (by omega) (by omega)).mp h7) (by omega)
    ·
      refine sw_aload_0 X dX3_total_10 ?_
      refine gf_X3_12 X dX3_total_11 ?_
      refine gf_X3_184 X (by decide) dX3_total_14 ?_
      refine sw_iload_1 X dX3_total_17 ?_
      refine ia_13 X (by decide) rfl (by omega) dX3_total_18 ?_
      refine sw_goto X 23 dX3_total_19 (by decide) ?_
      exact sw_iret X Y dX3_total_23 (rfl) (rfl)
set_option maxHeartbeats 4000000 in
set_option maxRecDepth 100000 in
theorem c_X3_total_x {G : sv_G} {M : sv_Mem} {v : Int32} (hv : ¬ inR v (nI 0) (nI 6)) : sv_Ct G M_X3_total 0 [.ref (sv_ad G 0 8 0), .int v] M (some (.int (-1))) (M) := by
  refine sv_Ct_of (lo := [some (.ref (sv_ad G 0 8 0)), some (.int v)]) (pn_X3) rfl (Nat.le_of_ble_eq_true rfl) rfl (fun K X Y => ?_)
  replace X : sv_X G K cX3_total RX3 2 0 := X
  replace Y : sv_Y G K (some .int) _ _ := Y
  show sw_W G K 2 0 _ _ _
  refine sw_iload_1 X dX3_total_0 ?_
  refine sw_if_lt X 22 dX3_total_1 (by decide) (fun h1 => ?_) (fun h1 => ?_)
  ·
    refine sw_iconst X (-1) dX3_total_22 (by decide) ?_
    exact sw_iret X Y dX3_total_23 (rfl) (rfl)
  ·
    refine sw_iload_1 X dX3_total_4 ?_
    refine sw_bipush X (nI 7) dX3_total_5 (by decide) ?_
    refine sw_icmp_ge X 22 dX3_total_7 (by decide) (fun h7 => ?_) (fun h7 => ?_)
    ·
      refine sw_iconst X (-1) dX3_total_22 (by decide) ?_
      exact sw_iret X Y dX3_total_23 (rfl) (rfl)
    ·
      exact absurd ⟨h1, fun z => h7 ((le_lt (a := 6) v (by omega)).mpr z)⟩ hv
set_option maxHeartbeats 4000000 in
set_option maxRecDepth 100000 in
theorem c_X3_mean {G : sv_G} {M : sv_Mem}  : sv_Ct G M_X3_mean 1 [.ref (sv_ad G 0 8 0)] M (some (.double (if cnt (fun k => M 0 11 0 k ≠ -5) 16 = 0 then FP.dconst0 else FP.ddiv (FP.i2d (vsR (M 0) 16)) (FP.i2d (nI (cnt (fun k => M 0 11 0 k ≠ -5) 16)))))) (M) := by
  have hle := cnt_le (fun k => M 0 11 0 k ≠ -5) 16
  refine sv_Ct_of (lo := [some (.ref (sv_ad G 0 8 0)), none]) (pn_X3) rfl (Nat.le_of_ble_eq_true rfl) rfl (fun K X Y => ?_)
  replace X : sv_X G K cX3_mean RX3 2 1 := X
  replace Y : sv_Y G K (some .double) _ _ := Y
  show sw_W G K 2 0 _ _ _
  refine sw_aload_0 X dX3_mean_0 ?_
  refine gf_X3_12 X dX3_mean_1 ?_
  refine ca_X3_112 X (by decide) (by decide) dX3_mean_4 (Nat.le_of_ble_eq_true rfl) (c_X1_valueCount (i := 0) (by decide)) ?_
  refine sw_istore_1 X dX3_mean_7 trivial ?_
  refine sw_iload_1 X dX3_mean_8 ?_
  refine sw_if_le X 26 dX3_mean_9 (by decide) (fun h9 => ?_) (fun h9 => ?_)
  ·
    have hv0 : cnt (fun k => M 0 11 0 k ≠ -5) 16 = 0 := by have := (nI_leI (b := 0) (by omega) (by omega)).mp h9; omega
    refine sw_dconst0 X dX3_mean_26 ?_
    exact sw_dret X Y dX3_mean_27 (by first | rw [if_pos hv0] | rw [if_neg hv0]) (rfl)
  ·
    have hv0 : ¬ cnt (fun k => M 0 11 0 k ≠ -5) 16 = 0 := fun z => h9 (by rw [z]; decide)
    refine sw_aload_0 X dX3_mean_12 ?_
    refine gf_X3_12 X dX3_mean_13 ?_
    refine ca_X3_187 X (by decide) (by decide) dX3_mean_16 (Nat.le_of_ble_eq_true rfl) (c_X1_valueSum (i := 0) (by decide)) ?_
    refine sw_i2d X dX3_mean_19 ?_
    refine sw_iload_1 X dX3_mean_20 ?_
    refine sw_i2d X dX3_mean_21 ?_
    refine sw_ddiv X (q_mean _ hv0 hle) dX3_mean_22 ?_
    refine sw_goto X 27 dX3_mean_23 (by decide) ?_
    exact sw_dret X Y dX3_mean_27 (by first | rw [if_pos hv0] | rw [if_neg hv0]) (rfl)
