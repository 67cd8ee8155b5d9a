theorem aM_0 {T : sv_T} {q c : Nat} (j : Nat) {cs : Nat → Nat} (h : T 14 j 0 = nI (cs j)) : aM T q c 14 j 0 = nI (va_up cs q (c + 1) j) := by
  unfold aM
  by_cases e : j = q
  · subst e
    rw [tu_self, va_up_self]
  · rw [tu_ne _ _ _ (by omega), tu_ne _ _ _ (by omega), tu_ne _ _ _ (by omega), va_up_ne _ _ e, h]
theorem aM_ne {T : sv_T} {q c k2 j2 n : Nat} (h1 : ¬ ((k2 = 15 ∨ k2 = 17) ∧ j2 = q)) (h2 : ¬ (k2 = 14 ∧ j2 = q ∧ n = 0)) : aM T q c k2 j2 n = T k2 j2 n := by
  unfold aM
  by_cases e : k2 = 14 ∧ j2 = q
  · obtain ⟨rfl, rfl⟩ := e
    rw [tu_n _ _ (by omega), tu_ne _ _ _ (by omega), tu_ne _ _ _ (by omega)]
  · rw [tu_ne _ _ _ e, tu_ne _ _ _ (by omega), tu_ne _ _ _ (by omega)]

set_option maxHeartbeats 4000000 in
set_option maxRecDepth 100000 in
theorem c_X1_openTransaction_y {G : sv_G} {M : sv_Mem} {i : Nat} (hi : i < 8) {q : Nat} (hq : q < 3) {cs : Nat → Nat} (hcs : csOk (M i) cs 13) (h0 : M i 14 q 0 = nI 0) : sv_Ct G M_X1_openTransaction 1 [.ref (sv_ad G 10 i 0), .int (nI q)] M (some (.int (nI (cnt (fun j => va_up cs q 1 j ≠ 0) 3)))) (sT M i (aM (M i) q 0)) := by
  refine sv_Ct_of (lo := [some (.ref (sv_ad G 10 i 0)), some (.int (nI q)), none, none]) (pn_X1) rfl (Nat.le_of_ble_eq_true rfl) rfl (fun K X Y => ?_)
  replace X : sv_X G K cX1_openTransaction RX1 4 1 := X
  replace Y : sv_Y G K (some .int) _ _ := Y
  show sw_W G K 4 0 _ _ _
  have L : ∀ r, r ≤ 3 → (fun r => ∀ x, x = nI (cnt (fun j => va_up cs q 1 j ≠ 0) r) → sw_W G K 4 37 [some (.ref (sv_ad G 10 i 0)), some (.int (nI q)), some (.int x), some (.int (nI r))] [] (sT M i (aM (M i) q 0))) r := by
    refine up_ind (N := 3) (P := fun r => ∀ x, x = nI (cnt (fun j => va_up cs q 1 j ≠ 0) r) → sw_W G K 4 37 [some (.ref (sv_ad G 10 i 0)), some (.int (nI q)), some (.int x), some (.int (nI r))] [] (sT M i (aM (M i) q 0))) ?_
    intro r hr3x ih x hx
    show sw_W _ _ _ _ _ _ _
    refine sw_iload_3 X dX1_openTransaction_37 ?_
    refine sw_iconst X (nI 3) dX1_openTransaction_38 (by decide) ?_
    refine sw_icmp_ge X 63 dX1_openTransaction_39 (by decide) (fun h39 => ?_) (fun h39 => ?_)
    ·
      have e : r = 3 := by have := (nI_leI (by omega) (by omega)).mp h39; omega
      subst e
      refine sw_iload_2 X dX1_openTransaction_63 ?_
      exact sw_iret X Y dX1_openTransaction_64 (ri_of hx.symm) (rfl)
    ·
      have hr : r < 3 := by have := mt (nI_leI (by omega) (by omega)).mpr h39; omega
      refine sw_aload_0 X dX1_openTransaction_42 ?_
      refine gf_X1_17 X hi dX1_openTransaction_43 ?_
      refine sw_iload_3 X dX1_openTransaction_46 ?_
      refine sw_aaldT X hi rfl hr dX1_openTransaction_47 ?_
      refine ca_X1_51 X hi hr (by decide) dX1_openTransaction_48 (Nat.le_of_ble_eq_true rfl) (c_X2_isOpen hi hr (c := va_up cs q 1 r) (by rw [sT_at]; exact aM_0 r (hcs r hr).1) (by unfold va_up; have := (hcs r hr).2; split <;> omega)) ?_
      refine sw_ifB_eq X 57 dX1_openTransaction_51 (by decide) (fun h51 => ?_) (fun h51 => ?_)
      ·
        have hx2 := congrArg nI (cnt_f (p := fun j => va_up cs q 1 j ≠ 0) (n := r) h51).symm
        rw [hx]
        first | refine sw_inc1_3 X dX1_openTransaction_57 trivial ?_ | refine sw_iinc_3 X _ dX1_openTransaction_57 rfl trivial ?_
        refine sw_goto X 37 dX1_openTransaction_60 (by decide) ?_
        exact ih (r + 1) (by omega) (by omega) _ hx2
      ·
        have hx2 := congrArg nI (cnt_t (p := fun j => va_up cs q 1 j ≠ 0) (n := r) h51).symm
        rw [hx]
        first | refine sw_inc1_2 X dX1_openTransaction_54 trivial ?_ | refine sw_iinc_2 X _ dX1_openTransaction_54 rfl trivial ?_
        first | refine sw_inc1_3 X dX1_openTransaction_57 trivial ?_ | refine sw_iinc_3 X _ dX1_openTransaction_57 rfl trivial ?_
        refine sw_goto X 37 dX1_openTransaction_60 (by decide) ?_
        exact ih (r + 1) (by omega) (by omega) _ hx2
  refine sw_iload_1 X dX1_openTransaction_0 ?_
  refine ca_X1_43 X (by decide) dX1_openTransaction_1 (Nat.le_of_ble_eq_true rfl) c_X3_isSession ?_
  refine sw_ifB_ne X 9 dX1_openTransaction_4 (by decide) (fun h4 => ?_) (fun h4 => ?_)
  ·
    refine sw_aload_0 X dX1_openTransaction_9 ?_
    refine gf_X1_17 X hi dX1_openTransaction_10 ?_
    refine sw_iload_1 X dX1_openTransaction_13 ?_
    refine sw_aaldT X hi rfl hq dX1_openTransaction_14 ?_
    refine ca_X1_51 X hi hq (by decide) dX1_openTransaction_15 (Nat.le_of_ble_eq_true rfl) (c_X2_isOpen hi hq h0 (by omega)) ?_
    refine sw_ifB_eq X 24 dX1_openTransaction_18 (by decide) (fun h18 => ?_) (fun h18 => ?_)
    ·
      refine sw_aload_0 X dX1_openTransaction_24 ?_
      refine gf_X1_17 X hi dX1_openTransaction_25 ?_
      refine sw_iload_1 X dX1_openTransaction_28 ?_
      refine sw_aaldT X hi rfl hq dX1_openTransaction_29 ?_
      refine ca_X1_55 X hi hq (by decide) dX1_openTransaction_30 (Nat.le_of_ble_eq_true rfl) (c_X2_addMoment hi hq h0 (by omega)) ?_
      refine sw_iconst X (nI 0) dX1_openTransaction_33 (by decide) ?_
      refine sw_istore_2 X dX1_openTransaction_34 trivial ?_
      refine sw_iconst X (nI 0) dX1_openTransaction_35 (by decide) ?_
      refine sw_istore_3 X dX1_openTransaction_36 trivial ?_
      exact L 0 (by omega) _ rfl
    ·
      exact absurd rfl h18
  ·
    exact absurd (inR_lt (by omega) (by omega)) h4
set_option maxHeartbeats 4000000 in
set_option maxRecDepth 100000 in
theorem c_X1_openTransaction_n {G : sv_G} {M : sv_Mem} {i : Nat} (hi : i < 8) {q : Nat} (hq : q < 3) {c : Nat} (hc : M i 14 q 0 = nI c) (hc2 : c ≤ 14) (h0 : c ≠ 0) : sv_Ct G M_X1_openTransaction 1 [.ref (sv_ad G 10 i 0), .int (nI q)] M (some (.int (-4))) (M) := by
  refine sv_Ct_of (lo := [some (.ref (sv_ad G 10 i 0)), some (.int (nI q)), none, none]) (pn_X1) rfl (Nat.le_of_ble_eq_true rfl) rfl (fun K X Y => ?_)
  replace X : sv_X G K cX1_openTransaction RX1 4 1 := X
  replace Y : sv_Y G K (some .int) _ _ := Y
  show sw_W G K 4 0 _ _ _
  refine sw_iload_1 X dX1_openTransaction_0 ?_
  refine ca_X1_43 X (by decide) dX1_openTransaction_1 (Nat.le_of_ble_eq_true rfl) c_X3_isSession ?_
  refine sw_ifB_ne X 9 dX1_openTransaction_4 (by decide) (fun h4 => ?_) (fun h4 => ?_)
  ·
    refine sw_aload_0 X dX1_openTransaction_9 ?_
    refine gf_X1_17 X hi dX1_openTransaction_10 ?_
    refine sw_iload_1 X dX1_openTransaction_13 ?_
    refine sw_aaldT X hi rfl hq dX1_openTransaction_14 ?_
    refine ca_X1_51 X hi hq (by decide) dX1_openTransaction_15 (Nat.le_of_ble_eq_true rfl) (c_X2_isOpen hi hq hc hc2) ?_
    refine sw_ifB_eq X 24 dX1_openTransaction_18 (by decide) (fun h18 => ?_) (fun h18 => ?_)
    ·
      exact absurd h0 h18
    ·
      refine sw_bipush X (-4) dX1_openTransaction_21 (by decide) ?_
      exact sw_iret X Y dX1_openTransaction_23 (rfl) (rfl)
  ·
    exact absurd (inR_lt (by omega) (by omega)) h4
set_option maxHeartbeats 4000000 in
set_option maxRecDepth 100000 in
theorem c_X1_openTransaction_x {G : sv_G} {M : sv_Mem} {v : Int32} (hv : ¬ inR v (nI 0) (nI 2)) {i : Nat} : sv_Ct G M_X1_openTransaction 1 [.ref (sv_ad G 10 i 0), .int v] M (some (.int (-1))) (M) := by
  refine sv_Ct_of (lo := [some (.ref (sv_ad G 10 i 0)), some (.int v), none, none]) (pn_X1) rfl (Nat.le_of_ble_eq_true rfl) rfl (fun K X Y => ?_)
  replace X : sv_X G K cX1_openTransaction RX1 4 1 := X
  replace Y : sv_Y G K (some .int) _ _ := Y
  show sw_W G K 4 0 _ _ _
  refine sw_iload_1 X dX1_openTransaction_0 ?_
  refine ca_X1_43 X (by decide) dX1_openTransaction_1 (Nat.le_of_ble_eq_true rfl) c_X3_isSession ?_
  refine sw_ifB_ne X 9 dX1_openTransaction_4 (by decide) (fun h4 => ?_) (fun h4 => ?_)
  ·
    exact absurd h4 hv
  ·
    refine sw_iconst X (-1) dX1_openTransaction_7 (by decide) ?_
    exact sw_iret X Y dX1_openTransaction_8 (rfl) (rfl)
set_option maxHeartbeats 4000000 in
set_option maxRecDepth 100000 in
theorem c_X1_commitTransaction_e {G : sv_G} {M : sv_Mem} {v e : Int32} {i : Nat} (hi : i < 8) (he : e ≠ 0) (hW : sv_Ct G M_X1_whyImpossible 1 [.ref (sv_ad G 10 i 0), .int v, .int (nI 1), .int (nI 1)] M (some (.int e)) M) : sv_Ct G M_X1_commitTransaction 2 [.ref (sv_ad G 10 i 0), .int v] M (some (.int e)) (M) := by
  refine sv_Ct_of (lo := [some (.ref (sv_ad G 10 i 0)), some (.int v), none, none, none]) (pn_X1) rfl (Nat.le_of_ble_eq_true rfl) rfl (fun K X Y => ?_)
  replace X : sv_X G K cX1_commitTransaction RX1 5 2 := X
  replace Y : sv_Y G K (some .int) _ _ := Y
  show sw_W G K 5 0 _ _ _
  refine sw_aload_0 X dX1_commitTransaction_0 ?_
  refine sw_iload_1 X dX1_commitTransaction_1 ?_
  refine sw_iconst X (nI 1) dX1_commitTransaction_2 (by decide) ?_
  refine sw_iconst X (nI 1) dX1_commitTransaction_3 (by decide) ?_
  refine ca_X1_58 X hi (by decide) dX1_commitTransaction_4 (Nat.le_of_ble_eq_true rfl) hW ?_
  refine sw_istore_2 X dX1_commitTransaction_7 trivial ?_
  refine sw_iload_2 X dX1_commitTransaction_8 ?_
  refine sw_if_eq X 14 dX1_commitTransaction_9 (by decide) (fun h9 => ?_) (fun h9 => ?_)
  ·
    exact absurd h9 he
  ·
    refine sw_iload_2 X dX1_commitTransaction_12 ?_
    exact sw_iret X Y dX1_commitTransaction_13 (rfl) (rfl)
set_option maxHeartbeats 4000000 in
set_option maxRecDepth 100000 in
theorem c_X1_rollTransactionBack_e {G : sv_G} {M : sv_Mem} {v e : Int32} {i : Nat} (hi : i < 8) (he : e ≠ 0) (hW : sv_Ct G M_X1_whyImpossible 1 [.ref (sv_ad G 10 i 0), .int v, .int (nI 1), .int (nI 1)] M (some (.int e)) M) : sv_Ct G M_X1_rollTransactionBack 3 [.ref (sv_ad G 10 i 0), .int v] M (some (.int e)) (M) := by
  refine sv_Ct_of (lo := [some (.ref (sv_ad G 10 i 0)), some (.int v), none, none]) (pn_X1) rfl (Nat.le_of_ble_eq_true rfl) rfl (fun K X Y => ?_)
  replace X : sv_X G K cX1_rollTransactionBack RX1 4 3 := X
  replace Y : sv_Y G K (some .int) _ _ := Y
  show sw_W G K 4 0 _ _ _
  refine sw_aload_0 X dX1_rollTransactionBack_0 ?_
  refine sw_iload_1 X dX1_rollTransactionBack_1 ?_
  refine sw_iconst X (nI 1) dX1_rollTransactionBack_2 (by decide) ?_
  refine sw_iconst X (nI 1) dX1_rollTransactionBack_3 (by decide) ?_
  refine ca_X1_58 X hi (by decide) dX1_rollTransactionBack_4 (Nat.le_of_ble_eq_true rfl) hW ?_
  refine sw_istore_2 X dX1_rollTransactionBack_7 trivial ?_
  refine sw_iload_2 X dX1_rollTransactionBack_8 ?_
  refine sw_if_eq X 14 dX1_rollTransactionBack_9 (by decide) (fun h9 => ?_) (fun h9 => ?_)
  ·
    exact absurd h9 he
  ·
    refine sw_iload_2 X dX1_rollTransactionBack_12 ?_
    exact sw_iret X Y dX1_rollTransactionBack_13 (rfl) (rfl)
set_option maxHeartbeats 4000000 in
set_option maxRecDepth 100000 in
theorem c_X1_setSavepoint_e {G : sv_G} {M : sv_Mem} {v nm e : Int32} {i : Nat} (hi : i < 8) (he : e ≠ 0) (hW : sv_Ct G M_X1_whyImpossible 1 [.ref (sv_ad G 10 i 0), .int v, .int (nI 1), .int (bI (inR nm (nI 0) (nI 7)))] M (some (.int e)) M) : sv_Ct G M_X1_setSavepoint 2 [.ref (sv_ad G 10 i 0), .int v, .int nm] M (some (.int e)) (M) := by
  refine sv_Ct_of (lo := [some (.ref (sv_ad G 10 i 0)), some (.int v), some (.int nm), none, none, none]) (pn_X1) rfl (Nat.le_of_ble_eq_true rfl) rfl (fun K X Y => ?_)
  replace X : sv_X G K cX1_setSavepoint RX1 6 2 := X
  replace Y : sv_Y G K (some .int) _ _ := Y
  show sw_W G K 6 0 _ _ _
  refine sw_aload_0 X dX1_setSavepoint_0 ?_
  refine sw_iload_1 X dX1_setSavepoint_1 ?_
  refine sw_iconst X (nI 1) dX1_setSavepoint_2 (by decide) ?_
  refine sw_iload_2 X dX1_setSavepoint_3 ?_
  refine ca_X1_69 X (by decide) dX1_setSavepoint_4 (Nat.le_of_ble_eq_true rfl) c_X3_isName ?_
  refine ca_X1_58 X hi (by decide) dX1_setSavepoint_7 (Nat.le_of_ble_eq_true rfl) hW ?_
  refine sw_istore_3 X dX1_setSavepoint_10 trivial ?_
  refine sw_iload_3 X dX1_setSavepoint_11 ?_
  refine sw_if_eq X 17 dX1_setSavepoint_12 (by decide) (fun h12 => ?_) (fun h12 => ?_)
  ·
    exact absurd h12 he
  ·
    refine sw_iload_3 X dX1_setSavepoint_15 ?_
    exact sw_iret X Y dX1_setSavepoint_16 (rfl) (rfl)
set_option maxHeartbeats 4000000 in
set_option maxRecDepth 100000 in
theorem c_X1_savepointOrError_e {G : sv_G} {M : sv_Mem} {v nm e : Int32} {i : Nat} (hi : i < 8) (he : e ≠ 0) (hW : sv_Ct G M_X1_whyImpossible 1 [.ref (sv_ad G 10 i 0), .int v, .int (nI 1), .int (bI (inR nm (nI 0) (nI 7)))] M (some (.int e)) M) : sv_Ct G M_X1_savepointOrError 3 [.ref (sv_ad G 10 i 0), .int v, .int nm] M (some (.int e)) (M) := by
  refine sv_Ct_of (lo := [some (.ref (sv_ad G 10 i 0)), some (.int v), some (.int nm), none, none]) (pn_X1) rfl (Nat.le_of_ble_eq_true rfl) rfl (fun K X Y => ?_)
  replace X : sv_X G K cX1_savepointOrError RX1 5 3 := X
  replace Y : sv_Y G K (some .int) _ _ := Y
  show sw_W G K 5 0 _ _ _
  refine sw_aload_0 X dX1_savepointOrError_0 ?_
  refine sw_iload_1 X dX1_savepointOrError_1 ?_
  refine sw_iconst X (nI 1) dX1_savepointOrError_2 (by decide) ?_
  refine sw_iload_2 X dX1_savepointOrError_3 ?_
  refine ca_X1_69 X (by decide) dX1_savepointOrError_4 (Nat.le_of_ble_eq_true rfl) c_X3_isName ?_
  refine ca_X1_58 X hi (by decide) dX1_savepointOrError_7 (Nat.le_of_ble_eq_true rfl) hW ?_
  refine sw_istore_3 X dX1_savepointOrError_10 trivial ?_
  refine sw_iload_3 X dX1_savepointOrError_11 ?_
  refine sw_if_eq X 17 dX1_savepointOrError_12 (by decide) (fun h12 => ?_) (fun h12 => ?_)
  ·
    exact absurd h12 he
  ·
    refine sw_iload_3 X dX1_savepointOrError_15 ?_
    exact sw_iret X Y dX1_savepointOrError_16 (rfl) (rfl)
set_option maxHeartbeats 4000000 in
set_option maxRecDepth 100000 in
theorem c_X1_readKey_e {G : sv_G} {M : sv_Mem} {v kv e : Int32} {i : Nat} (hi : i < 8) (he : e ≠ 0) (hW : sv_Ct G M_X1_whyImpossible 1 [.ref (sv_ad G 10 i 0), .int v, .int (bI (inR kv (nI 0) (nI 15))), .int (nI 1)] M (some (.int e)) M) : sv_Ct G M_X1_readKey 4 [.ref (sv_ad G 10 i 0), .int v, .int kv] M (some (.int e)) (M) := by
  refine sv_Ct_of (lo := [some (.ref (sv_ad G 10 i 0)), some (.int v), some (.int kv), none, none]) (pn_X1) rfl (Nat.le_of_ble_eq_true rfl) rfl (fun K X Y => ?_)
  replace X : sv_X G K cX1_readKey RX1 5 4 := X
  replace Y : sv_Y G K (some .int) _ _ := Y
  show sw_W G K 5 0 _ _ _
  refine sw_aload_0 X dX1_readKey_0 ?_
  refine sw_iload_1 X dX1_readKey_1 ?_
  refine sw_iload_2 X dX1_readKey_2 ?_
  refine ca_X1_90 X (by decide) dX1_readKey_3 (Nat.le_of_ble_eq_true rfl) c_X3_isKey ?_
  refine sw_iconst X (nI 1) dX1_readKey_6 (by decide) ?_
  refine ca_X1_58 X hi (by decide) dX1_readKey_7 (Nat.le_of_ble_eq_true rfl) hW ?_
  refine sw_istore_3 X dX1_readKey_10 trivial ?_
  refine sw_iload_3 X dX1_readKey_11 ?_
  refine sw_if_eq X 17 dX1_readKey_12 (by decide) (fun h12 => ?_) (fun h12 => ?_)
  ·
    exact absurd h12 he
  ·
    refine sw_iload_3 X dX1_readKey_15 ?_
    exact sw_iret X Y dX1_readKey_16 (rfl) (rfl)
set_option maxHeartbeats 4000000 in
set_option maxRecDepth 100000 in
theorem c_X1_eraseKey_e {G : sv_G} {M : sv_Mem} {v kv e : Int32} {i : Nat} (hi : i < 8) (he : e ≠ 0) (hW : sv_Ct G M_X1_whyImpossible 1 [.ref (sv_ad G 10 i 0), .int v, .int (bI (inR kv (nI 0) (nI 15))), .int (nI 1)] M (some (.int e)) M) : sv_Ct G M_X1_eraseKey 4 [.ref (sv_ad G 10 i 0), .int v, .int kv] M (some (.int e)) (M) := by
  refine sv_Ct_of (lo := [some (.ref (sv_ad G 10 i 0)), some (.int v), some (.int kv), none]) (pn_X1) rfl (Nat.le_of_ble_eq_true rfl) rfl (fun K X Y => ?_)
  replace X : sv_X G K cX1_eraseKey RX1 4 4 := X
  replace Y : sv_Y G K (some .int) _ _ := Y
  show sw_W G K 4 0 _ _ _
  refine sw_aload_0 X dX1_eraseKey_0 ?_
  refine sw_iload_1 X dX1_eraseKey_1 ?_
  refine sw_iload_2 X dX1_eraseKey_2 ?_
  refine ca_X1_90 X (by decide) dX1_eraseKey_3 (Nat.le_of_ble_eq_true rfl) c_X3_isKey ?_
  refine sw_iconst X (nI 1) dX1_eraseKey_6 (by decide) ?_
  refine ca_X1_58 X hi (by decide) dX1_eraseKey_7 (Nat.le_of_ble_eq_true rfl) hW ?_
  refine sw_istore_3 X dX1_eraseKey_10 trivial ?_
  refine sw_iload_3 X dX1_eraseKey_11 ?_
  refine sw_if_eq X 17 dX1_eraseKey_12 (by decide) (fun h12 => ?_) (fun h12 => ?_)
  ·
    exact absurd h12 he
  ·
    refine sw_iload_3 X dX1_eraseKey_15 ?_
    exact sw_iret X Y dX1_eraseKey_16 (rfl) (rfl)
set_option maxHeartbeats 4000000 in
set_option maxRecDepth 100000 in
theorem c_X1_writeKey_e {G : sv_G} {M : sv_Mem} {v kv w e : Int32} {i : Nat} (hi : i < 8) (he : e ≠ 0) (hW : sv_Ct G M_X1_whyImpossible 1 [.ref (sv_ad G 10 i 0), .int v, .int (bI (inR kv (nI 0) (nI 15))), .int (bI (inR w (nI 0) (nI 9999)))] M (some (.int e)) M) : sv_Ct G M_X1_writeKey 4 [.ref (sv_ad G 10 i 0), .int v, .int kv, .int w] M (some (.int e)) (M) := by
  refine sv_Ct_of (lo := [some (.ref (sv_ad G 10 i 0)), some (.int v), some (.int kv), some (.int w), none]) (pn_X1) rfl (Nat.le_of_ble_eq_true rfl) rfl (fun K X Y => ?_)
  replace X : sv_X G K cX1_writeKey RX1 5 4 := X
  replace Y : sv_Y G K (some .int) _ _ := Y
  show sw_W G K 5 0 _ _ _
  refine sw_aload_0 X dX1_writeKey_0 ?_
  refine sw_iload_1 X dX1_writeKey_1 ?_
  refine sw_iload_2 X dX1_writeKey_2 ?_
  refine ca_X1_90 X (by decide) dX1_writeKey_3 (Nat.le_of_ble_eq_true rfl) c_X3_isKey ?_
  refine sw_iload_3 X dX1_writeKey_6 ?_
  refine ca_X1_100 X (by decide) dX1_writeKey_7 (Nat.le_of_ble_eq_true rfl) c_X3_isValue ?_
  refine ca_X1_58 X hi (by decide) dX1_writeKey_10 (Nat.le_of_ble_eq_true rfl) hW ?_
  refine sw_istore_4 X dX1_writeKey_13 trivial ?_
  refine sw_iload_4 X dX1_writeKey_15 ?_
  refine sw_if_eq X 23 dX1_writeKey_17 (by decide) (fun h17 => ?_) (fun h17 => ?_)
  ·
    exact absurd h17 he
  ·
    refine sw_iload_4 X dX1_writeKey_20 ?_
    exact sw_iret X Y dX1_writeKey_22 (rfl) (rfl)
set_option maxHeartbeats 4000000 in
set_option maxRecDepth 100000 in
theorem c_X1_commitTransaction_y {G : sv_G} {M : sv_Mem} {i : Nat} (hi : i < 8) {q : Nat} (hq : q < 3) {c : Nat} (hc : M i 14 q 0 = nI c) (hc2 : c ≤ 14) (hW : sv_Ct G M_X1_whyImpossible 1 [.ref (sv_ad G 10 i 0), .int (nI q), .int (nI 1), .int (nI 1)] M (some (.int (nI 0))) M) : sv_Ct G M_X1_commitTransaction 2 [.ref (sv_ad G 10 i 0), .int (nI q)] M (some (.int (nI (cnt (difP (M i) q 0 c) 16)))) (sT M i (inc (clT (M i) q) 0)) := by
  refine sv_Ct_of (lo := [some (.ref (sv_ad G 10 i 0)), some (.int (nI q)), none, none, none]) (pn_X1) rfl (Nat.le_of_ble_eq_true rfl) rfl (fun K X Y => ?_)
  replace X : sv_X G K cX1_commitTransaction RX1 5 2 := X
  replace Y : sv_Y G K (some .int) _ _ := Y
  show sw_W G K 5 0 _ _ _
  have L : ∀ r, r ≤ 16 → (fun r => ∀ x, x = nI (cnt (difP (M i) q 0 c) r) → sw_W G K 5 19 [some (.ref (sv_ad G 10 i 0)), some (.int (nI q)), some (.int (nI 0)), some (.int x), some (.int (nI r))] [] M) r := by
    refine up_ind (N := 16) (P := fun r => ∀ x, x = nI (cnt (difP (M i) q 0 c) r) → sw_W G K 5 19 [some (.ref (sv_ad G 10 i 0)), some (.int (nI q)), some (.int (nI 0)), some (.int x), some (.int (nI r))] [] M) ?_
    intro r hr3x ih x hx
    show sw_W _ _ _ _ _ _ _
    refine sw_iload_4 X dX1_commitTransaction_19 ?_
    refine sw_bipush X (nI 16) dX1_commitTransaction_21 (by decide) ?_
    refine sw_icmp_ge X 64 dX1_commitTransaction_23 (by decide) (fun h23 => ?_) (fun h23 => ?_)
    ·
      have e : r = 16 := by have := (nI_leI (by omega) (by omega)).mp h23; omega
      subst e
      refine sw_aload_0 X dX1_commitTransaction_64 ?_
      refine gf_X1_17 X hi dX1_commitTransaction_65 ?_
      refine sw_iload_1 X dX1_commitTransaction_68 ?_
      refine sw_aaldT X hi rfl hq dX1_commitTransaction_69 ?_
      refine ca_X1_62 X hi hq (by decide) dX1_commitTransaction_70 (Nat.le_of_ble_eq_true rfl) (c_X2_close hi hq) ?_
      refine sw_aload_0 X dX1_commitTransaction_73 ?_
      refine gf_X1_21 X hi dX1_commitTransaction_74 ?_
      refine sw_iconst X (nI 0) dX1_commitTransaction_77 (by decide) ?_
      refine sw_dup2 X dX1_commitTransaction_78 rfl rfl ?_
      refine ia_13 X hi rfl (by omega) dX1_commitTransaction_79 ?_
      refine sw_iconst X (nI 1) dX1_commitTransaction_80 (by decide) ?_
      refine sw_iadd X dX1_commitTransaction_81 ?_
      refine is_13 X hi rfl (by omega) dX1_commitTransaction_82 ?_
      refine sw_iload_3 X dX1_commitTransaction_83 ?_
      exact sw_iret X Y dX1_commitTransaction_84 (ri_of hx.symm) (by rw [upT, sT_sT, sT_at]; rfl)
    ·
      have hr : r < 16 := by have := mt (nI_leI (by omega) (by omega)).mpr h23; omega
      refine sw_aload_0 X dX1_commitTransaction_26 ?_
      refine gf_X1_17 X hi dX1_commitTransaction_27 ?_
      refine sw_iload_1 X dX1_commitTransaction_30 ?_
      refine sw_aaldT X hi rfl hq dX1_commitTransaction_31 ?_
      refine sw_iconst X (nI 0) dX1_commitTransaction_32 (by decide) ?_
      refine sw_iload_4 X dX1_commitTransaction_33 ?_
      refine sw_aload_0 X dX1_commitTransaction_35 ?_
      refine gf_X1_9 X hi dX1_commitTransaction_36 ?_
      refine sw_iload_4 X dX1_commitTransaction_39 ?_
      refine ia_11 X hi rfl (by omega) dX1_commitTransaction_41 ?_
      refine ca_X1_39 X hi hq (by decide) dX1_commitTransaction_42 (Nat.le_of_ble_eq_true rfl) (c_X2_valueAt hi hq hc hc2 (Nat.zero_le _) hr) ?_
      refine sw_aload_0 X dX1_commitTransaction_45 ?_
      refine gf_X1_9 X hi dX1_commitTransaction_46 ?_
      refine sw_iload_4 X dX1_commitTransaction_49 ?_
      refine ia_11 X hi rfl (by omega) dX1_commitTransaction_51 ?_
      refine sw_icmp_eq X 58 dX1_commitTransaction_52 (by decide) (fun h52 => ?_) (fun h52 => ?_)
      ·
        have hx2 := congrArg nI (cnt_f (p := difP (M i) q 0 c) (n := r) (fun z => z h52)).symm
        rw [hx]
        first | refine sw_inc1_4 X dX1_commitTransaction_58 trivial ?_ | refine sw_iinc_4 X _ dX1_commitTransaction_58 rfl trivial ?_
        refine sw_goto X 19 dX1_commitTransaction_61 (by decide) ?_
        exact ih (r + 1) (by omega) (by omega) _ hx2
      ·
        have hx2 := congrArg nI (cnt_t (p := difP (M i) q 0 c) (n := r) h52).symm
        rw [hx]
        first | refine sw_inc1_3 X dX1_commitTransaction_55 trivial ?_ | refine sw_iinc_3 X _ dX1_commitTransaction_55 rfl trivial ?_
        first | refine sw_inc1_4 X dX1_commitTransaction_58 trivial ?_ | refine sw_iinc_4 X _ dX1_commitTransaction_58 rfl trivial ?_
        refine sw_goto X 19 dX1_commitTransaction_61 (by decide) ?_
        exact ih (r + 1) (by omega) (by omega) _ hx2
  refine sw_aload_0 X dX1_commitTransaction_0 ?_
  refine sw_iload_1 X dX1_commitTransaction_1 ?_
  refine sw_iconst X (nI 1) dX1_commitTransaction_2 (by decide) ?_
  refine sw_iconst X (nI 1) dX1_commitTransaction_3 (by decide) ?_
  refine ca_X1_58 X hi (by decide) dX1_commitTransaction_4 (Nat.le_of_ble_eq_true rfl) hW ?_
  refine sw_istore_2 X dX1_commitTransaction_7 trivial ?_
  refine sw_iload_2 X dX1_commitTransaction_8 ?_
  refine sw_if_eq X 14 dX1_commitTransaction_9 (by decide) (fun h9 => ?_) (fun h9 => ?_)
  ·
    refine sw_iconst X (nI 0) dX1_commitTransaction_14 (by decide) ?_
    refine sw_istore_3 X dX1_commitTransaction_15 trivial ?_
    refine sw_iconst X (nI 0) dX1_commitTransaction_16 (by decide) ?_
    refine sw_istore_4 X dX1_commitTransaction_17 trivial ?_
    exact L 0 (by omega) _ rfl
  ·
    exact absurd rfl h9
set_option maxHeartbeats 4000000 in
set_option maxRecDepth 100000 in
theorem c_X1_rollTransactionBack_y {G : sv_G} {M : sv_Mem} {i : Nat} (hi : i < 8) {q : Nat} (hq : q < 3) {c : Nat} (hc : M i 14 q 0 = nI c) (hc2 : c ≤ 14) (h0 : c ≠ 0) (hW : sv_Ct G M_X1_whyImpossible 1 [.ref (sv_ad G 10 i 0), .int (nI q), .int (nI 1), .int (nI 1)] M (some (.int (nI 0))) M) : sv_Ct G M_X1_rollTransactionBack 3 [.ref (sv_ad G 10 i 0), .int (nI q)] M (some (.int (nI (cnt (difP (M i) q 0 c) 16)))) (sT M i (inc (clT (unT (M i) q 0 c) q) 1)) := by
  refine sv_Ct_of (lo := [some (.ref (sv_ad G 10 i 0)), some (.int (nI q)), none, none]) (pn_X1) rfl (Nat.le_of_ble_eq_true rfl) rfl (fun K X Y => ?_)
  replace X : sv_X G K cX1_rollTransactionBack RX1 4 3 := X
  replace Y : sv_Y G K (some .int) _ _ := Y
  show sw_W G K 4 0 _ _ _
  refine sw_aload_0 X dX1_rollTransactionBack_0 ?_
  refine sw_iload_1 X dX1_rollTransactionBack_1 ?_
  refine sw_iconst X (nI 1) dX1_rollTransactionBack_2 (by decide) ?_
  refine sw_iconst X (nI 1) dX1_rollTransactionBack_3 (by decide) ?_
  refine ca_X1_58 X hi (by decide) dX1_rollTransactionBack_4 (Nat.le_of_ble_eq_true rfl) hW ?_
  refine sw_istore_2 X dX1_rollTransactionBack_7 trivial ?_
  refine sw_iload_2 X dX1_rollTransactionBack_8 ?_
  refine sw_if_eq X 14 dX1_rollTransactionBack_9 (by decide) (fun h9 => ?_) (fun h9 => ?_)
  ·
    refine sw_aload_0 X dX1_rollTransactionBack_14 ?_
    refine sw_aload_0 X dX1_rollTransactionBack_15 ?_
    refine gf_X1_17 X hi dX1_rollTransactionBack_16 ?_
    refine sw_iload_1 X dX1_rollTransactionBack_19 ?_
    refine sw_aaldT X hi rfl hq dX1_rollTransactionBack_20 ?_
    refine sw_iconst X (nI 0) dX1_rollTransactionBack_21 (by decide) ?_
    refine ca_X1_65 X hi (by decide) dX1_rollTransactionBack_22 (Nat.le_of_ble_eq_true rfl) (c_X1_undoToMoment hi hq hc hc2 (by omega)) ?_
    refine sw_istore_3 X dX1_rollTransactionBack_25 trivial ?_
    refine sw_aload_0 X dX1_rollTransactionBack_26 ?_
    refine gf_X1_17 X hi dX1_rollTransactionBack_27 ?_
    refine sw_iload_1 X dX1_rollTransactionBack_30 ?_
    refine sw_aaldT X hi rfl hq dX1_rollTransactionBack_31 ?_
    refine ca_X1_62 X hi hq (by decide) dX1_rollTransactionBack_32 (Nat.le_of_ble_eq_true rfl) (c_X2_close hi hq) ?_
    refine sw_aload_0 X dX1_rollTransactionBack_35 ?_
    refine gf_X1_21 X hi dX1_rollTransactionBack_36 ?_
    refine sw_iconst X (nI 1) dX1_rollTransactionBack_39 (by decide) ?_
    refine sw_dup2 X dX1_rollTransactionBack_40 rfl rfl ?_
    refine ia_13 X hi rfl (by omega) dX1_rollTransactionBack_41 ?_
    refine sw_iconst X (nI 1) dX1_rollTransactionBack_42 (by decide) ?_
    refine sw_iadd X dX1_rollTransactionBack_43 ?_
    refine is_13 X hi rfl (by omega) dX1_rollTransactionBack_44 ?_
    refine sw_iload_3 X dX1_rollTransactionBack_45 ?_
    exact sw_iret X Y dX1_rollTransactionBack_46 (rfl) (by simp only [upT, sT_sT, sT_at]; rfl)
  ·
    exact absurd rfl h9
set_option maxHeartbeats 4000000 in
set_option maxRecDepth 100000 in
theorem c_X1_setSavepoint_y {G : sv_G} {M : sv_Mem} {i : Nat} (hi : i < 8) {q : Nat} (hq : q < 3) {mq : Nat} {nm : Int32} (hc : M i 14 q 0 = nI (mq + 1)) (hmq : mq < 12) (hW : sv_Ct G M_X1_whyImpossible 1 [.ref (sv_ad G 10 i 0), .int (nI q), .int (nI 1), .int (bI (inR nm (nI 0) (nI 7)))] M (some (.int (nI 0))) M) : sv_Ct G M_X1_setSavepoint 2 [.ref (sv_ad G 10 i 0), .int (nI q), .int nm] M (some (.int (nI mq))) (sT M i (inc (aM (tu (M i) 16 q mq nm) q (mq + 1)) 6)) := by
  refine sv_Ct_of (lo := [some (.ref (sv_ad G 10 i 0)), some (.int (nI q)), some (.int nm), none, none, none]) (pn_X1) rfl (Nat.le_of_ble_eq_true rfl) rfl (fun K X Y => ?_)
  replace X : sv_X G K cX1_setSavepoint RX1 6 2 := X
  replace Y : sv_Y G K (some .int) _ _ := Y
  show sw_W G K 6 0 _ _ _
  refine sw_aload_0 X dX1_setSavepoint_0 ?_
  refine sw_iload_1 X dX1_setSavepoint_1 ?_
  refine sw_iconst X (nI 1) dX1_setSavepoint_2 (by decide) ?_
  refine sw_iload_2 X dX1_setSavepoint_3 ?_
  refine ca_X1_69 X (by decide) dX1_setSavepoint_4 (Nat.le_of_ble_eq_true rfl) c_X3_isName ?_
  refine ca_X1_58 X hi (by decide) dX1_setSavepoint_7 (Nat.le_of_ble_eq_true rfl) hW ?_
  refine sw_istore_3 X dX1_setSavepoint_10 trivial ?_
  refine sw_iload_3 X dX1_setSavepoint_11 ?_
  refine sw_if_eq X 17 dX1_setSavepoint_12 (by decide) (fun h12 => ?_) (fun h12 => ?_)
  ·
    refine sw_aload_0 X dX1_setSavepoint_17 ?_
    refine gf_X1_17 X hi dX1_setSavepoint_18 ?_
    refine sw_iload_1 X dX1_setSavepoint_21 ?_
    refine sw_aaldT X hi rfl hq dX1_setSavepoint_22 ?_
    refine sw_astore_4 X dX1_setSavepoint_23 trivial ?_
    refine sw_aload_4 X dX1_setSavepoint_25 ?_
    refine ca_X1_47 X hi hq (by decide) dX1_setSavepoint_27 (Nat.le_of_ble_eq_true rfl) (c_X2_savepointCount hi hq hc (by omega)) ?_
    refine sw_tope (v2 := nI mq) rfl ?_
    refine sw_istore_5 X dX1_setSavepoint_30 trivial ?_
    refine sw_iload_5 X dX1_setSavepoint_32 ?_
    refine sw_bipush X (nI 12) dX1_setSavepoint_34 (by decide) ?_
    refine sw_icmp_lt X 42 dX1_setSavepoint_36 (by decide) (fun h36 => ?_) (fun h36 => ?_)
    ·
      refine sw_aload_4 X dX1_setSavepoint_42 ?_
      refine gf_X1_72 X hi hq dX1_setSavepoint_44 ?_
      refine sw_iload_5 X dX1_setSavepoint_47 ?_
      refine sw_iload_2 X dX1_setSavepoint_49 ?_
      refine is_16 X hi hq rfl (by omega) dX1_setSavepoint_50 ?_
      refine sw_aload_4 X dX1_setSavepoint_51 ?_
      refine ca_X1_55 X hi hq (by decide) dX1_setSavepoint_53 (Nat.le_of_ble_eq_true rfl) (c_X2_addMoment hi hq (c := mq + 1) (by rw [upT, sT_at, tu_ne _ _ _ (by omega)]; exact hc) (by omega)) ?_
      refine sw_aload_0 X dX1_setSavepoint_56 ?_
      refine gf_X1_21 X hi dX1_setSavepoint_57 ?_
      refine sw_bipush X (nI 6) dX1_setSavepoint_60 (by decide) ?_
      refine sw_dup2 X dX1_setSavepoint_62 rfl rfl ?_
      refine ia_13 X hi rfl (by omega) dX1_setSavepoint_63 ?_
      refine sw_iconst X (nI 1) dX1_setSavepoint_64 (by decide) ?_
      refine sw_iadd X dX1_setSavepoint_65 ?_
      refine is_13 X hi rfl (by omega) dX1_setSavepoint_66 ?_
      refine sw_iload_5 X dX1_setSavepoint_67 ?_
      exact sw_iret X Y dX1_setSavepoint_69 (rfl) (by simp only [upT, sT_sT, sT_at]; rfl)
    ·
      exact absurd ((nI_ltI (a := mq) (b := 12) (by omega) (by omega)).mpr hmq) (by first | exact h36 | exact Int32.not_lt.mpr (by first | exact h36 | exact Int32.not_lt.mp h36))
  ·
    exact absurd rfl h12
set_option maxHeartbeats 4000000 in
set_option maxRecDepth 100000 in
theorem c_X1_setSavepoint_f {G : sv_G} {M : sv_Mem} {i : Nat} (hi : i < 8) {q : Nat} (hq : q < 3) {nm : Int32} (hc : M i 14 q 0 = nI 13) (hW : sv_Ct G M_X1_whyImpossible 1 [.ref (sv_ad G 10 i 0), .int (nI q), .int (nI 1), .int (bI (inR nm (nI 0) (nI 7)))] M (some (.int (nI 0))) M) : sv_Ct G M_X1_setSavepoint 2 [.ref (sv_ad G 10 i 0), .int (nI q), .int nm] M (some (.int (-3))) (M) := by
  refine sv_Ct_of (lo := [some (.ref (sv_ad G 10 i 0)), some (.int (nI q)), some (.int nm), none, none, none]) (pn_X1) rfl (Nat.le_of_ble_eq_true rfl) rfl (fun K X Y => ?_)
  replace X : sv_X G K cX1_setSavepoint RX1 6 2 := X
  replace Y : sv_Y G K (some .int) _ _ := Y
  show sw_W G K 6 0 _ _ _
  refine sw_aload_0 X dX1_setSavepoint_0 ?_
  refine sw_iload_1 X dX1_setSavepoint_1 ?_
  refine sw_iconst X (nI 1) dX1_setSavepoint_2 (by decide) ?_
  refine sw_iload_2 X dX1_setSavepoint_3 ?_
  refine ca_X1_69 X (by decide) dX1_setSavepoint_4 (Nat.le_of_ble_eq_true rfl) c_X3_isName ?_
  refine ca_X1_58 X hi (by decide) dX1_setSavepoint_7 (Nat.le_of_ble_eq_true rfl) hW ?_
  refine sw_istore_3 X dX1_setSavepoint_10 trivial ?_
  refine sw_iload_3 X dX1_setSavepoint_11 ?_
  refine sw_if_eq X 17 dX1_setSavepoint_12 (by decide) (fun h12 => ?_) (fun h12 => ?_)
  ·
    refine sw_aload_0 X dX1_setSavepoint_17 ?_
    refine gf_X1_17 X hi dX1_setSavepoint_18 ?_
    refine sw_iload_1 X dX1_setSavepoint_21 ?_
    refine sw_aaldT X hi rfl hq dX1_setSavepoint_22 ?_
    refine sw_astore_4 X dX1_setSavepoint_23 trivial ?_
    refine sw_aload_4 X dX1_setSavepoint_25 ?_
    refine ca_X1_47 X hi hq (by decide) dX1_setSavepoint_27 (Nat.le_of_ble_eq_true rfl) (c_X2_savepointCount hi hq hc (by omega)) ?_
    refine sw_istore_5 X dX1_setSavepoint_30 trivial ?_
    refine sw_iload_5 X dX1_setSavepoint_32 ?_
    refine sw_bipush X (nI 12) dX1_setSavepoint_34 (by decide) ?_
    refine sw_icmp_lt X 42 dX1_setSavepoint_36 (by decide) (fun h36 => ?_) (fun h36 => ?_)
    ·
      exact absurd h36 (by decide)
    ·
      refine sw_bipush X (-3) dX1_setSavepoint_39 (by decide) ?_
      exact sw_iret X Y dX1_setSavepoint_41 (rfl) (rfl)
  ·
    exact absurd rfl h12
set_option maxHeartbeats 4000000 in
set_option maxRecDepth 100000 in
theorem c_X1_savepointOrError_y {G : sv_G} {M : sv_Mem} {i : Nat} (hi : i < 8) {q : Nat} (hq : q < 3) {c p : Nat} {nm : Int32} (hc : M i 14 q 0 = nI c) (hc2 : c ≤ 13) (hp : nrR (M i 16 q) nm (c - 1) = nI p) (hp2 : p < 2 ^ 30) (hW : sv_Ct G M_X1_whyImpossible 1 [.ref (sv_ad G 10 i 0), .int (nI q), .int (nI 1), .int (bI (inR nm (nI 0) (nI 7)))] M (some (.int (nI 0))) M) : sv_Ct G M_X1_savepointOrError 3 [.ref (sv_ad G 10 i 0), .int (nI q), .int nm] M (some (.int (nI p))) (M) := by
  refine sv_Ct_of (lo := [some (.ref (sv_ad G 10 i 0)), some (.int (nI q)), some (.int nm), none, none]) (pn_X1) rfl (Nat.le_of_ble_eq_true rfl) rfl (fun K X Y => ?_)
  replace X : sv_X G K cX1_savepointOrError RX1 5 3 := X
  replace Y : sv_Y G K (some .int) _ _ := Y
  show sw_W G K 5 0 _ _ _
  refine sw_aload_0 X dX1_savepointOrError_0 ?_
  refine sw_iload_1 X dX1_savepointOrError_1 ?_
  refine sw_iconst X (nI 1) dX1_savepointOrError_2 (by decide) ?_
  refine sw_iload_2 X dX1_savepointOrError_3 ?_
  refine ca_X1_69 X (by decide) dX1_savepointOrError_4 (Nat.le_of_ble_eq_true rfl) c_X3_isName ?_
  refine ca_X1_58 X hi (by decide) dX1_savepointOrError_7 (Nat.le_of_ble_eq_true rfl) hW ?_
  refine sw_istore_3 X dX1_savepointOrError_10 trivial ?_
  refine sw_iload_3 X dX1_savepointOrError_11 ?_
  refine sw_if_eq X 17 dX1_savepointOrError_12 (by decide) (fun h12 => ?_) (fun h12 => ?_)
  ·
    refine sw_aload_0 X dX1_savepointOrError_17 ?_
    refine gf_X1_17 X hi dX1_savepointOrError_18 ?_
    refine sw_iload_1 X dX1_savepointOrError_21 ?_
    refine sw_aaldT X hi rfl hq dX1_savepointOrError_22 ?_
    refine sw_iload_2 X dX1_savepointOrError_23 ?_
    refine ca_X1_87 X hi hq (by decide) dX1_savepointOrError_24 (Nat.le_of_ble_eq_true rfl) (c_X2_nearestSavepoint hi hq hc hc2) ?_
    refine sw_tope hp ?_
    refine sw_istore_4 X dX1_savepointOrError_27 trivial ?_
    refine sw_iload_4 X dX1_savepointOrError_29 ?_
    refine sw_if_ge X 39 dX1_savepointOrError_31 (by decide) (fun h31 => ?_) (fun h31 => ?_)
    ·
      refine sw_iload_4 X dX1_savepointOrError_39 ?_
      exact sw_iret X Y dX1_savepointOrError_41 (rfl) (rfl)
    ·
      exact absurd (nI_pos' (by omega)) h31
  ·
    exact absurd rfl h12
set_option maxHeartbeats 4000000 in
set_option maxRecDepth 100000 in
theorem c_X1_savepointOrError_n {G : sv_G} {M : sv_Mem} {i : Nat} (hi : i < 8) {q : Nat} (hq : q < 3) {c : Nat} {nm : Int32} (hc : M i 14 q 0 = nI c) (hc2 : c ≤ 13) (hp : nrR (M i 16 q) nm (c - 1) = -5) (hW : sv_Ct G M_X1_whyImpossible 1 [.ref (sv_ad G 10 i 0), .int (nI q), .int (nI 1), .int (bI (inR nm (nI 0) (nI 7)))] M (some (.int (nI 0))) M) : sv_Ct G M_X1_savepointOrError 3 [.ref (sv_ad G 10 i 0), .int (nI q), .int nm] M (some (.int (-4))) (M) := by
  refine sv_Ct_of (lo := [some (.ref (sv_ad G 10 i 0)), some (.int (nI q)), some (.int nm), none, none]) (pn_X1) rfl (Nat.le_of_ble_eq_true rfl) rfl (fun K X Y => ?_)
  replace X : sv_X G K cX1_savepointOrError RX1 5 3 := X
  replace Y : sv_Y G K (some .int) _ _ := Y
  show sw_W G K 5 0 _ _ _
  refine sw_aload_0 X dX1_savepointOrError_0 ?_
  refine sw_iload_1 X dX1_savepointOrError_1 ?_
  refine sw_iconst X (nI 1) dX1_savepointOrError_2 (by decide) ?_
  refine sw_iload_2 X dX1_savepointOrError_3 ?_
  refine ca_X1_69 X (by decide) dX1_savepointOrError_4 (Nat.le_of_ble_eq_true rfl) c_X3_isName ?_
  refine ca_X1_58 X hi (by decide) dX1_savepointOrError_7 (Nat.le_of_ble_eq_true rfl) hW ?_
  refine sw_istore_3 X dX1_savepointOrError_10 trivial ?_
  refine sw_iload_3 X dX1_savepointOrError_11 ?_
  refine sw_if_eq X 17 dX1_savepointOrError_12 (by decide) (fun h12 => ?_) (fun h12 => ?_)
  ·
    refine sw_aload_0 X dX1_savepointOrError_17 ?_
    refine gf_X1_17 X hi dX1_savepointOrError_18 ?_
    refine sw_iload_1 X dX1_savepointOrError_21 ?_
    refine sw_aaldT X hi rfl hq dX1_savepointOrError_22 ?_
    refine sw_iload_2 X dX1_savepointOrError_23 ?_
    refine ca_X1_87 X hi hq (by decide) dX1_savepointOrError_24 (Nat.le_of_ble_eq_true rfl) (c_X2_nearestSavepoint hi hq hc hc2) ?_
    refine sw_tope hp ?_
    refine sw_istore_4 X dX1_savepointOrError_27 trivial ?_
    refine sw_iload_4 X dX1_savepointOrError_29 ?_
    refine sw_if_ge X 39 dX1_savepointOrError_31 (by decide) (fun h31 => ?_) (fun h31 => ?_)
    ·
      exact absurd h31 (by decide)
    ·
      refine sw_bipush X (-4) dX1_savepointOrError_34 (by decide) ?_
      refine sw_goto X 41 dX1_savepointOrError_36 (by decide) ?_
      exact sw_iret X Y dX1_savepointOrError_41 (rfl) (rfl)
  ·
    exact absurd rfl h12
set_option maxHeartbeats 4000000 in
set_option maxRecDepth 100000 in
theorem c_X1_undoToName_e {G : sv_G} {M : sv_Mem} {v nm e : Int32} {i : Nat} (hi : i < 8) (he : e < 0) (hS : sv_Ct G M_X1_savepointOrError 3 [.ref (sv_ad G 10 i 0), .int v, .int nm] M (some (.int e)) M) : sv_Ct G M_X1_undoToName 4 [.ref (sv_ad G 10 i 0), .int v, .int nm] M (some (.int e)) (M) := by
  refine sv_Ct_of (lo := [some (.ref (sv_ad G 10 i 0)), some (.int v), some (.int nm), none, none, none]) (pn_X1) rfl (Nat.le_of_ble_eq_true rfl) rfl (fun K X Y => ?_)
  replace X : sv_X G K cX1_undoToName RX1 6 4 := X
  replace Y : sv_Y G K (some .int) _ _ := Y
  show sw_W G K 6 0 _ _ _
  refine sw_aload_0 X dX1_undoToName_0 ?_
  refine sw_iload_1 X dX1_undoToName_1 ?_
  refine sw_iload_2 X dX1_undoToName_2 ?_
  refine ca_X1_75 X hi (by decide) dX1_undoToName_3 (Nat.le_of_ble_eq_true rfl) hS ?_
  refine sw_istore_3 X dX1_undoToName_6 trivial ?_
  refine sw_iload_3 X dX1_undoToName_7 ?_
  refine sw_if_ge X 13 dX1_undoToName_8 (by decide) (fun h8 => ?_) (fun h8 => ?_)
  ·
    exact absurd he (Int32.not_lt.mpr h8)
  ·
    refine sw_iload_3 X dX1_undoToName_11 ?_
    exact sw_iret X Y dX1_undoToName_12 (rfl) (rfl)
set_option maxHeartbeats 4000000 in
set_option maxRecDepth 100000 in
theorem c_X1_releaseName_e {G : sv_G} {M : sv_Mem} {v nm e : Int32} {i : Nat} (hi : i < 8) (he : e < 0) (hS : sv_Ct G M_X1_savepointOrError 3 [.ref (sv_ad G 10 i 0), .int v, .int nm] M (some (.int e)) M) : sv_Ct G M_X1_releaseName 4 [.ref (sv_ad G 10 i 0), .int v, .int nm] M (some (.int e)) (M) := by
  refine sv_Ct_of (lo := [some (.ref (sv_ad G 10 i 0)), some (.int v), some (.int nm), none, none, none]) (pn_X1) rfl (Nat.le_of_ble_eq_true rfl) rfl (fun K X Y => ?_)
  replace X : sv_X G K cX1_releaseName RX1 6 4 := X
  replace Y : sv_Y G K (some .int) _ _ := Y
  show sw_W G K 6 0 _ _ _
  refine sw_aload_0 X dX1_releaseName_0 ?_
  refine sw_iload_1 X dX1_releaseName_1 ?_
  refine sw_iload_2 X dX1_releaseName_2 ?_
  refine ca_X1_75 X hi (by decide) dX1_releaseName_3 (Nat.le_of_ble_eq_true rfl) hS ?_
  refine sw_istore_3 X dX1_releaseName_6 trivial ?_
  refine sw_iload_3 X dX1_releaseName_7 ?_
  refine sw_if_ge X 13 dX1_releaseName_8 (by decide) (fun h8 => ?_) (fun h8 => ?_)
  ·
    exact absurd he (Int32.not_lt.mpr h8)
  ·
    refine sw_iload_3 X dX1_releaseName_11 ?_
    exact sw_iret X Y dX1_releaseName_12 (rfl) (rfl)
set_option maxHeartbeats 4000000 in
set_option maxRecDepth 100000 in
theorem c_X1_undoToName_y {G : sv_G} {M : sv_Mem} {i : Nat} (hi : i < 8) {q : Nat} (hq : q < 3) {c : Nat} (hc : M i 14 q 0 = nI c) (hc2 : c ≤ 14) {p : Nat} {nm : Int32} (hp : p + 1 < c) (hS : sv_Ct G M_X1_savepointOrError 3 [.ref (sv_ad G 10 i 0), .int (nI q), .int nm] M (some (.int (nI p))) M) : sv_Ct G M_X1_undoToName 4 [.ref (sv_ad G 10 i 0), .int (nI q), .int nm] M (some (.int (nI (cnt (difP (M i) q (p + 1) c) 16)))) (sT M i (inc (drT (unT (M i) q (p + 1) c) q (p + 1) c) 5)) := by
  refine sv_Ct_of (lo := [some (.ref (sv_ad G 10 i 0)), some (.int (nI q)), some (.int nm), none, none, none]) (pn_X1) rfl (Nat.le_of_ble_eq_true rfl) rfl (fun K X Y => ?_)
  replace X : sv_X G K cX1_undoToName RX1 6 4 := X
  replace Y : sv_Y G K (some .int) _ _ := Y
  show sw_W G K 6 0 _ _ _
  refine sw_aload_0 X dX1_undoToName_0 ?_
  refine sw_iload_1 X dX1_undoToName_1 ?_
  refine sw_iload_2 X dX1_undoToName_2 ?_
  refine ca_X1_75 X hi (by decide) dX1_undoToName_3 (Nat.le_of_ble_eq_true rfl) hS ?_
  refine sw_istore_3 X dX1_undoToName_6 trivial ?_
  refine sw_iload_3 X dX1_undoToName_7 ?_
  refine sw_if_ge X 13 dX1_undoToName_8 (by decide) (fun h8 => ?_) (fun h8 => ?_)
  ·
    refine sw_iload_3 X dX1_undoToName_13 ?_
    refine ca_X1_79 X (by decide) dX1_undoToName_14 (Nat.le_of_ble_eq_true rfl) c_X3_momentOf ?_
    refine sw_istore_4 X dX1_undoToName_17 trivial ?_
    refine sw_aload_0 X dX1_undoToName_19 ?_
    refine sw_aload_0 X dX1_undoToName_20 ?_
    refine gf_X1_17 X hi dX1_undoToName_21 ?_
    refine sw_iload_1 X dX1_undoToName_24 ?_
    refine sw_aaldT X hi rfl hq dX1_undoToName_25 ?_
    refine sw_iload_4 X dX1_undoToName_26 ?_
    refine ca_X1_65 X hi (by decide) dX1_undoToName_28 (Nat.le_of_ble_eq_true rfl) (c_X1_undoToMoment hi hq hc hc2 hp) ?_
    refine sw_istore_5 X dX1_undoToName_31 trivial ?_
    refine sw_aload_0 X dX1_undoToName_33 ?_
    refine gf_X1_17 X hi dX1_undoToName_34 ?_
    refine sw_iload_1 X dX1_undoToName_37 ?_
    refine sw_aaldT X hi rfl hq dX1_undoToName_38 ?_
    refine sw_iload_4 X dX1_undoToName_39 ?_
    refine ca_X1_83 X hi hq (by decide) dX1_undoToName_41 (Nat.le_of_ble_eq_true rfl) (c_X2_dropMomentsAfter hi hq (c := c) (by rw [sT_at, unT_ne (by omega) (by omega) (by omega)]; exact hc) hc2 hp) ?_
    refine sw_aload_0 X dX1_undoToName_44 ?_
    refine gf_X1_21 X hi dX1_undoToName_45 ?_
    refine sw_iconst X (nI 5) dX1_undoToName_48 (by decide) ?_
    refine sw_dup2 X dX1_undoToName_49 rfl rfl ?_
    refine ia_13 X hi rfl (by omega) dX1_undoToName_50 ?_
    refine sw_iconst X (nI 1) dX1_undoToName_51 (by decide) ?_
    refine sw_iadd X dX1_undoToName_52 ?_
    refine is_13 X hi rfl (by omega) dX1_undoToName_53 ?_
    refine sw_iload_5 X dX1_undoToName_54 ?_
    exact sw_iret X Y dX1_undoToName_56 (rfl) (by simp only [upT, sT_sT, sT_at]; rfl)
  ·
    exact absurd (nI_pos' (by omega)) h8
set_option maxHeartbeats 4000000 in
set_option maxRecDepth 100000 in
theorem c_X1_releaseName_y {G : sv_G} {M : sv_Mem} {i : Nat} (hi : i < 8) {q : Nat} (hq : q < 3) {c : Nat} (hc : M i 14 q 0 = nI c) (hc2 : c ≤ 14) {p : Nat} {nm : Int32} (hp : p + 1 < c) (hS : sv_Ct G M_X1_savepointOrError 3 [.ref (sv_ad G 10 i 0), .int (nI q), .int nm] M (some (.int (nI p))) M) : sv_Ct G M_X1_releaseName 4 [.ref (sv_ad G 10 i 0), .int (nI q), .int nm] M (some (.int (nI (c - 1 - p)))) (sT M i (drT (M i) q p c)) := by
  refine sv_Ct_of (lo := [some (.ref (sv_ad G 10 i 0)), some (.int (nI q)), some (.int nm), none, none, none]) (pn_X1) rfl (Nat.le_of_ble_eq_true rfl) rfl (fun K X Y => ?_)
  replace X : sv_X G K cX1_releaseName RX1 6 4 := X
  replace Y : sv_Y G K (some .int) _ _ := Y
  show sw_W G K 6 0 _ _ _
  refine sw_aload_0 X dX1_releaseName_0 ?_
  refine sw_iload_1 X dX1_releaseName_1 ?_
  refine sw_iload_2 X dX1_releaseName_2 ?_
  refine ca_X1_75 X hi (by decide) dX1_releaseName_3 (Nat.le_of_ble_eq_true rfl) hS ?_
  refine sw_istore_3 X dX1_releaseName_6 trivial ?_
  refine sw_iload_3 X dX1_releaseName_7 ?_
  refine sw_if_ge X 13 dX1_releaseName_8 (by decide) (fun h8 => ?_) (fun h8 => ?_)
  ·
    refine sw_aload_0 X dX1_releaseName_13 ?_
    refine gf_X1_17 X hi dX1_releaseName_14 ?_
    refine sw_iload_1 X dX1_releaseName_17 ?_
    refine sw_aaldT X hi rfl hq dX1_releaseName_18 ?_
    refine sw_astore_4 X dX1_releaseName_19 trivial ?_
    refine sw_aload_4 X dX1_releaseName_21 ?_
    refine ca_X1_47 X hi hq (by decide) dX1_releaseName_23 (Nat.le_of_ble_eq_true rfl) (c_X2_savepointCount hi hq hc hc2) ?_
    refine sw_iload_3 X dX1_releaseName_26 ?_
    refine sw_isub X dX1_releaseName_27 ?_
    refine sw_tope (v2 := nI (c - 1 - p)) (by rw [pk_sub (by omega)]) ?_
    refine sw_istore_5 X dX1_releaseName_28 trivial ?_
    refine sw_aload_4 X dX1_releaseName_30 ?_
    refine sw_iload_3 X dX1_releaseName_32 ?_
    refine ca_X1_79 X (by decide) dX1_releaseName_33 (Nat.le_of_ble_eq_true rfl) c_X3_momentOf ?_
    refine sw_iconst X (nI 1) dX1_releaseName_36 (by decide) ?_
    refine sw_isub X dX1_releaseName_37 ?_
    refine sw_tope (v2 := nI p) (by rw [pk_sub (by omega)]; congr 1) ?_
    refine ca_X1_83 X hi hq (by decide) dX1_releaseName_38 (Nat.le_of_ble_eq_true rfl) (c_X2_dropMomentsAfter hi hq hc hc2 (by omega)) ?_
    refine sw_iload_5 X dX1_releaseName_41 ?_
    exact sw_iret X Y dX1_releaseName_43 (rfl) (rfl)
  ·
    exact absurd (nI_pos' (by omega)) h8
/-- a statement begins -/
abbrev bsT (T : sv_T) (q mq : Nat) : sv_T := aM T q (mq + 1)
def rdC (T : sv_T) (q k : Nat) : Int32 := if busyC T q k (nI 1) then -6 else T 11 0 k
theorem aM_14 (T : sv_T) (q c : Nat) : aM T q c 14 q 0 = nI (c + 1) := by unfold aM; rw [tu_self]
theorem tkT_n {T : sv_T} {q k : Nat} {mode : Int32} : tkT T q k mode 14 q 0 = T 14 q 0 := by
  unfold tkT
  split
  · rfl
  · exact lkT_n (by omega)
theorem ncT_14 {T : sv_T} {q m k j : Nat} {v : Int32} : ncT T q m k v 14 j = T 14 j := ncT_ne (by omega)
theorem rvT_n {T : sv_T} {q k m : Nat} {v : Int32} : rvT T q k m v 14 q 0 = T 14 q 0 := by
  unfold rvT
  split
  · rfl
  · rw [tu_ne _ _ _ (by omega), ncT_14]; exact lkT_n (by omega)
theorem avT_n {T : sv_T} {q k m : Nat} {d ms : Int32} : avT T q k m d ms 14 q 0 = T 14 q 0 := by
  unfold avT
  split
  · rfl
  · split
    · exact lkT_n (by omega)
    · rw [tu_ne _ _ _ (by omega), ncT_14]; exact lkT_n (by omega)

set_option maxHeartbeats 4000000 in
set_option maxRecDepth 100000 in
theorem c_X1_readKey_y {G : sv_G} {M : sv_Mem} {i : Nat} (hi : i < 8) {q : Nat} (hq : q < 3) {mq : Nat} (hc : M i 14 q 0 = nI (mq + 1)) (hmq : mq ≤ 12) {k : Nat} (hk : k < 16) (hW : sv_Ct G M_X1_whyImpossible 1 [.ref (sv_ad G 10 i 0), .int (nI q), .int (bI (inR (nI k) (nI 0) (nI 15))), .int (nI 1)] M (some (.int (nI 0))) M) : sv_Ct G M_X1_readKey 4 [.ref (sv_ad G 10 i 0), .int (nI q), .int (nI k)] M (some (.int (rdC (bsT (M i) q mq) q k))) (sT M i (enT (tkT (bsT (M i) q mq) q k (nI 1)) q mq (rdC (bsT (M i) q mq) q k))) := by
  refine sv_Ct_of (lo := [some (.ref (sv_ad G 10 i 0)), some (.int (nI q)), some (.int (nI k)), none, none]) (pn_X1) rfl (Nat.le_of_ble_eq_true rfl) rfl (fun K X Y => ?_)
  replace X : sv_X G K cX1_readKey RX1 5 4 := X
  replace Y : sv_Y G K (some .int) _ _ := Y
  show sw_W G K 5 0 _ _ _
  refine sw_aload_0 X dX1_readKey_0 ?_
  refine sw_iload_1 X dX1_readKey_1 ?_
  refine sw_iload_2 X dX1_readKey_2 ?_
  refine ca_X1_90 X (by decide) dX1_readKey_3 (Nat.le_of_ble_eq_true rfl) c_X3_isKey ?_
  refine sw_iconst X (nI 1) dX1_readKey_6 (by decide) ?_
  refine ca_X1_58 X hi (by decide) dX1_readKey_7 (Nat.le_of_ble_eq_true rfl) hW ?_
  refine sw_istore_3 X dX1_readKey_10 trivial ?_
  refine sw_iload_3 X dX1_readKey_11 ?_
  refine sw_if_eq X 17 dX1_readKey_12 (by decide) (fun h12 => ?_) (fun h12 => ?_)
  ·
    refine sw_aload_0 X dX1_readKey_17 ?_
    refine gf_X1_17 X hi dX1_readKey_18 ?_
    refine sw_iload_1 X dX1_readKey_21 ?_
    refine sw_aaldT X hi rfl hq dX1_readKey_22 ?_
    refine ca_X1_55 X hi hq (by decide) dX1_readKey_23 (Nat.le_of_ble_eq_true rfl) (c_X2_addMoment hi hq hc (by omega)) ?_
    refine sw_aload_0 X dX1_readKey_26 ?_
    refine sw_iload_1 X dX1_readKey_27 ?_
    refine sw_iload_2 X dX1_readKey_28 ?_
    refine sw_iconst X (nI 1) dX1_readKey_29 (by decide) ?_
    refine ca_X1_93 X hi (by decide) dX1_readKey_30 (Nat.le_of_ble_eq_true rfl) (c_X1_takeLock hi hq hk) ?_
    rw [sT_at]
    rw [sT_sT]
    refine sw_ifB_eq X 45 dX1_readKey_33 (by decide) (fun h33 => ?_) (fun h33 => ?_)
    ·
      replace h33 : busyC (bsT (M i) q mq) q k (nI 1) := Decidable.of_not_not h33
      have hr : rdC (bsT (M i) q mq) q k = -6 := if_pos h33
      refine sw_bipush X (-6) dX1_readKey_45 (by decide) ?_
      refine sw_tope (v2 := rdC (bsT (M i) q mq) q k) (by first | exact hr.symm | (rw [sT_at, tkT_f h33, lkT_ne (by omega)]; exact hr.symm)) ?_
      refine sw_istore_4 X dX1_readKey_47 trivial ?_
      refine sw_aload_0 X dX1_readKey_49 ?_
      refine sw_iload_1 X dX1_readKey_50 ?_
      refine sw_iload_4 X dX1_readKey_51 ?_
      refine ca_X1_97 X hi (by decide) dX1_readKey_53 (Nat.le_of_ble_eq_true rfl) (c_X1_endStatement hi hq (mq := mq) (by rw [sT_at, tkT_n, aM_14]) hmq) ?_
      exact sw_iret X Y dX1_readKey_56 (rfl) (by simp only [sT_sT, sT_at])
    ·
      have hr : rdC (bsT (M i) q mq) q k = bsT (M i) q mq 11 0 k := if_neg h33
      refine sw_aload_0 X dX1_readKey_36 ?_
      refine gf_X1_9 X hi dX1_readKey_37 ?_
      refine sw_iload_2 X dX1_readKey_40 ?_
      refine ia_11 X hi rfl (by omega) dX1_readKey_41 ?_
      refine sw_goto X 47 dX1_readKey_42 (by decide) ?_
      refine sw_tope (v2 := rdC (bsT (M i) q mq) q k) (by first | exact hr.symm | (rw [sT_at, tkT_f h33, lkT_ne (by omega)]; exact hr.symm)) ?_
      refine sw_istore_4 X dX1_readKey_47 trivial ?_
      refine sw_aload_0 X dX1_readKey_49 ?_
      refine sw_iload_1 X dX1_readKey_50 ?_
      refine sw_iload_4 X dX1_readKey_51 ?_
      refine ca_X1_97 X hi (by decide) dX1_readKey_53 (Nat.le_of_ble_eq_true rfl) (c_X1_endStatement hi hq (mq := mq) (by rw [sT_at, tkT_n, aM_14]) hmq) ?_
      exact sw_iret X Y dX1_readKey_56 (rfl) (by simp only [sT_sT, sT_at])
  ·
    exact absurd rfl h12
set_option maxHeartbeats 4000000 in
set_option maxRecDepth 100000 in
theorem c_X1_writeKey_y {G : sv_G} {M : sv_Mem} {i : Nat} (hi : i < 8) {q : Nat} (hq : q < 3) {mq : Nat} (hc : M i 14 q 0 = nI (mq + 1)) (hmq : mq ≤ 12) {k : Nat} {w : Int32} (hk : k < 16) (hW : sv_Ct G M_X1_whyImpossible 1 [.ref (sv_ad G 10 i 0), .int (nI q), .int (bI (inR (nI k) (nI 0) (nI 15))), .int (bI (inR w (nI 0) (nI 9999)))] M (some (.int (nI 0))) M) : sv_Ct G M_X1_writeKey 4 [.ref (sv_ad G 10 i 0), .int (nI q), .int (nI k), .int w] M (some (.int (rvC (bsT (M i) q mq) q k))) (sT M i (enT (rvT (bsT (M i) q mq) q k (mq + 1) w) q mq (rvC (bsT (M i) q mq) q k))) := by
  refine sv_Ct_of (lo := [some (.ref (sv_ad G 10 i 0)), some (.int (nI q)), some (.int (nI k)), some (.int w), none]) (pn_X1) rfl (Nat.le_of_ble_eq_true rfl) rfl (fun K X Y => ?_)
  replace X : sv_X G K cX1_writeKey RX1 5 4 := X
  replace Y : sv_Y G K (some .int) _ _ := Y
  show sw_W G K 5 0 _ _ _
  refine sw_aload_0 X dX1_writeKey_0 ?_
  refine sw_iload_1 X dX1_writeKey_1 ?_
  refine sw_iload_2 X dX1_writeKey_2 ?_
  refine ca_X1_90 X (by decide) dX1_writeKey_3 (Nat.le_of_ble_eq_true rfl) c_X3_isKey ?_
  refine sw_iload_3 X dX1_writeKey_6 ?_
  refine ca_X1_100 X (by decide) dX1_writeKey_7 (Nat.le_of_ble_eq_true rfl) c_X3_isValue ?_
  refine ca_X1_58 X hi (by decide) dX1_writeKey_10 (Nat.le_of_ble_eq_true rfl) hW ?_
  refine sw_istore_4 X dX1_writeKey_13 trivial ?_
  refine sw_iload_4 X dX1_writeKey_15 ?_
  refine sw_if_eq X 23 dX1_writeKey_17 (by decide) (fun h17 => ?_) (fun h17 => ?_)
  ·
    refine sw_aload_0 X dX1_writeKey_23 ?_
    refine gf_X1_17 X hi dX1_writeKey_24 ?_
    refine sw_iload_1 X dX1_writeKey_27 ?_
    refine sw_aaldT X hi rfl hq dX1_writeKey_28 ?_
    refine ca_X1_55 X hi hq (by decide) dX1_writeKey_29 (Nat.le_of_ble_eq_true rfl) (c_X2_addMoment hi hq hc (by omega)) ?_
    refine sw_aload_0 X dX1_writeKey_32 ?_
    refine sw_iload_1 X dX1_writeKey_33 ?_
    refine sw_aload_0 X dX1_writeKey_34 ?_
    refine sw_iload_1 X dX1_writeKey_35 ?_
    refine sw_iload_2 X dX1_writeKey_36 ?_
    refine sw_iload_3 X dX1_writeKey_37 ?_
    refine ca_X1_103 X hi (by decide) dX1_writeKey_38 (Nat.le_of_ble_eq_true rfl) (c_X1_replaceValue hi hq (m := mq + 1) (by rw [sT_at, aM_14]) (by omega) hk) ?_
    rw [sT_at]
    rw [sT_sT]
    refine ca_X1_97 X hi (by decide) dX1_writeKey_41 (Nat.le_of_ble_eq_true rfl) (c_X1_endStatement hi hq (mq := mq) (by rw [sT_at, rvT_n, aM_14]) hmq) ?_
    exact sw_iret X Y dX1_writeKey_44 (rfl) (by simp only [sT_sT, sT_at])
  ·
    exact absurd rfl h17
set_option maxHeartbeats 4000000 in
set_option maxRecDepth 100000 in
theorem c_X1_eraseKey_y {G : sv_G} {M : sv_Mem} {i : Nat} (hi : i < 8) {q : Nat} (hq : q < 3) {mq : Nat} (hc : M i 14 q 0 = nI (mq + 1)) (hmq : mq ≤ 12) {k : Nat}  (hk : k < 16) (hW : sv_Ct G M_X1_whyImpossible 1 [.ref (sv_ad G 10 i 0), .int (nI q), .int (bI (inR (nI k) (nI 0) (nI 15))), .int (nI 1)] M (some (.int (nI 0))) M) : sv_Ct G M_X1_eraseKey 4 [.ref (sv_ad G 10 i 0), .int (nI q), .int (nI k)] M (some (.int (rvC (bsT (M i) q mq) q k))) (sT M i (enT (rvT (bsT (M i) q mq) q k (mq + 1) (-5)) q mq (rvC (bsT (M i) q mq) q k))) := by
  refine sv_Ct_of (lo := [some (.ref (sv_ad G 10 i 0)), some (.int (nI q)), some (.int (nI k)), none]) (pn_X1) rfl (Nat.le_of_ble_eq_true rfl) rfl (fun K X Y => ?_)
  replace X : sv_X G K cX1_eraseKey RX1 4 4 := X
  replace Y : sv_Y G K (some .int) _ _ := Y
  show sw_W G K 4 0 _ _ _
  refine sw_aload_0 X dX1_eraseKey_0 ?_
  refine sw_iload_1 X dX1_eraseKey_1 ?_
  refine sw_iload_2 X dX1_eraseKey_2 ?_
  refine ca_X1_90 X (by decide) dX1_eraseKey_3 (Nat.le_of_ble_eq_true rfl) c_X3_isKey ?_
  refine sw_iconst X (nI 1) dX1_eraseKey_6 (by decide) ?_
  refine ca_X1_58 X hi (by decide) dX1_eraseKey_7 (Nat.le_of_ble_eq_true rfl) hW ?_
  refine sw_istore_3 X dX1_eraseKey_10 trivial ?_
  refine sw_iload_3 X dX1_eraseKey_11 ?_
  refine sw_if_eq X 17 dX1_eraseKey_12 (by decide) (fun h12 => ?_) (fun h12 => ?_)
  ·
    refine sw_aload_0 X dX1_eraseKey_17 ?_
    refine gf_X1_17 X hi dX1_eraseKey_18 ?_
    refine sw_iload_1 X dX1_eraseKey_21 ?_
    refine sw_aaldT X hi rfl hq dX1_eraseKey_22 ?_
    refine ca_X1_55 X hi hq (by decide) dX1_eraseKey_23 (Nat.le_of_ble_eq_true rfl) (c_X2_addMoment hi hq hc (by omega)) ?_
    refine sw_aload_0 X dX1_eraseKey_26 ?_
    refine sw_iload_1 X dX1_eraseKey_27 ?_
    refine sw_aload_0 X dX1_eraseKey_28 ?_
    refine sw_iload_1 X dX1_eraseKey_29 ?_
    refine sw_iload_2 X dX1_eraseKey_30 ?_
    refine sw_bipush X (-5) dX1_eraseKey_31 (by decide) ?_
    refine ca_X1_103 X hi (by decide) dX1_eraseKey_33 (Nat.le_of_ble_eq_true rfl) (c_X1_replaceValue hi hq (m := mq + 1) (by rw [sT_at, aM_14]) (by omega) hk) ?_
    rw [sT_at]
    rw [sT_sT]
    refine ca_X1_97 X hi (by decide) dX1_eraseKey_36 (Nat.le_of_ble_eq_true rfl) (c_X1_endStatement hi hq (mq := mq) (by rw [sT_at, rvT_n, aM_14]) hmq) ?_
    exact sw_iret X Y dX1_eraseKey_39 (rfl) (by simp only [sT_sT, sT_at])
  ·
    exact absurd rfl h12
/-- shiftKeys, moveAmount -/
def shT (T : sv_T) (q m : Nat) (keys d a0 : Int32) : Nat → sv_T × Int32
  | 0 => (T, a0)
  | k + 1 => if 0 ≤ (shT T q m keys d a0 k).2 ∧ bt keys k = true then (avT (shT T q m keys d a0 k).1 q k m d (-5), if avC (shT T q m keys d a0 k).1 q k d (-5) < 0 then avC (shT T q m keys d a0 k).1 q k d (-5) else (shT T q m keys d a0 k).2) else shT T q m keys d a0 k
theorem shT_t {T U : sv_T} {q m r : Nat} {keys d a0 a : Int32} (h : shT T q m keys d a0 r = (U, a)) (he : 0 ≤ a) (hb : bt keys r = true) : shT T q m keys d a0 (r + 1) = (avT U q r m d (-5), if avC U q r d (-5) < 0 then avC U q r d (-5) else a) := by
  show (if _ then _ else _) = _
  rw [h, if_pos ⟨he, hb⟩]
theorem shT_f {T U : sv_T} {q m r : Nat} {keys d a0 a : Int32} (h : shT T q m keys d a0 r = (U, a)) (hb : ¬ (0 ≤ a ∧ bt keys r = true)) : shT T q m keys d a0 (r + 1) = (U, a) := by
  show (if _ then _ else _) = _
  rw [h, if_neg hb]
theorem shT_stay {T U : sv_T} {q m r : Nat} {keys d a0 a : Int32} (h : shT T q m keys d a0 r = (U, a)) (he : ¬ 0 ≤ a) : ∀ c, shT T q m keys d a0 (r + c) = (U, a)
  | 0 => h
  | c + 1 => shT_f (r := r + c) (shT_stay h he c) (fun z => he z.1)
theorem shT_n {T : sv_T} {q m : Nat} {keys d a0 : Int32} : ∀ k, (shT T q m keys d a0 k).1 14 q 0 = T 14 q 0
  | 0 => rfl
  | k + 1 => by
    have ih := shT_n (T := T) (q := q) (m := m) (keys := keys) (d := d) (a0 := a0) k
    show (if _ then _ else _ : sv_T × Int32).1 14 q 0 = _
    split
    · show avT _ _ _ _ _ _ 14 q 0 = _
      rw [avT_n, ih]
    · exact ih
def mvT (T : sv_T) (q m a b : Nat) (amt : Int32) : sv_T × Int32 := if 0 ≤ avC T q a (-amt) (-5) then (avT (avT T q a m (-amt) (-5)) q b m amt (nI 0), avC (avT T q a m (-amt) (-5)) q b amt (nI 0)) else (avT T q a m (-amt) (-5), avC T q a (-amt) (-5))

theorem wk_X1_106 : Cond.constant RX1 106 65535 ∈ lw_g := lw_g_of (List.mem_append_right _ (List.mem_of_getElem? (i := 365) (by decide +kernel))) (by decide +kernel)
set_option maxHeartbeats 4000000 in
set_option maxRecDepth 100000 in
theorem c_X1_shiftKeys_e {G : sv_G} {M : sv_Mem} {v keys d e : Int32} {i : Nat} (hi : i < 8) {b : Prop} [Decidable b] (hB : b ↔ (inR keys (nI 1) 65535 ∧ inR d (-9999) (nI 9999))) (he : e ≠ 0) (hW : sv_Ct G M_X1_whyImpossible 1 [.ref (sv_ad G 10 i 0), .int v, .int (nI 1), .int (bI b)] M (some (.int e)) M) : sv_Ct G M_X1_shiftKeys 4 [.ref (sv_ad G 10 i 0), .int v, .int keys, .int d] M (some (.int e)) (M) := by
  refine sv_Ct_of (lo := [some (.ref (sv_ad G 10 i 0)), some (.int v), some (.int keys), some (.int d), none, none, none, none, none]) (pn_X1) rfl (Nat.le_of_ble_eq_true rfl) rfl (fun K X Y => ?_)
  replace X : sv_X G K cX1_shiftKeys RX1 9 4 := X
  replace Y : sv_Y G K (some .int) _ _ := Y
  show sw_W G K 9 0 _ _ _
  refine sw_iload_2 X dX1_shiftKeys_0 ?_
  refine sw_iconst X (nI 1) dX1_shiftKeys_1 (by decide) ?_
  refine sw_icmp_lt X 29 dX1_shiftKeys_2 (by decide) (fun h2 => ?_) (fun h2 => ?_)
  ·
    refine sw_iconst X (nI 0) dX1_shiftKeys_29 (by decide) ?_
    refine sw_tope (v2 := bI b) (by first | exact (bI_t (hB.mpr ⟨⟨h2, h8⟩, ⟨h15, h22⟩⟩)).symm | exact (bI_f (fun z => (hB.mp z).1.1 h2)).symm | exact (bI_f (fun z => (hB.mp z).1.2 h8)).symm | exact (bI_f (fun z => (hB.mp z).2.1 h15)).symm | exact (bI_f (fun z => (hB.mp z).2.2 h22)).symm) ?_
    refine sw_istore_4 X dX1_shiftKeys_30 trivial ?_
    refine sw_aload_0 X dX1_shiftKeys_32 ?_
    refine sw_iload_1 X dX1_shiftKeys_33 ?_
    refine sw_iconst X (nI 1) dX1_shiftKeys_34 (by decide) ?_
    refine sw_iload_4 X dX1_shiftKeys_35 ?_
    refine ca_X1_58 X hi (by decide) dX1_shiftKeys_37 (Nat.le_of_ble_eq_true rfl) hW ?_
    refine sw_istore_5 X dX1_shiftKeys_40 trivial ?_
    refine sw_iload_5 X dX1_shiftKeys_42 ?_
    refine sw_if_eq X 50 dX1_shiftKeys_44 (by decide) (fun h44 => ?_) (fun h44 => ?_)
    ·
      exact absurd h44 he
    ·
      refine sw_iload_5 X dX1_shiftKeys_47 ?_
      exact sw_iret X Y dX1_shiftKeys_49 (rfl) (rfl)
  ·
    refine sw_iload_2 X dX1_shiftKeys_5 ?_
    refine sw_ldc X (v := 65535) wk_X1_106 dX1_shiftKeys_6 ?_
    refine sw_icmp_gt X 29 dX1_shiftKeys_8 (by decide) (fun h8 => ?_) (fun h8 => ?_)
    ·
      refine sw_iconst X (nI 0) dX1_shiftKeys_29 (by decide) ?_
      refine sw_tope (v2 := bI b) (by first | exact (bI_t (hB.mpr ⟨⟨h2, h8⟩, ⟨h15, h22⟩⟩)).symm | exact (bI_f (fun z => (hB.mp z).1.1 h2)).symm | exact (bI_f (fun z => (hB.mp z).1.2 h8)).symm | exact (bI_f (fun z => (hB.mp z).2.1 h15)).symm | exact (bI_f (fun z => (hB.mp z).2.2 h22)).symm) ?_
      refine sw_istore_4 X dX1_shiftKeys_30 trivial ?_
      refine sw_aload_0 X dX1_shiftKeys_32 ?_
      refine sw_iload_1 X dX1_shiftKeys_33 ?_
      refine sw_iconst X (nI 1) dX1_shiftKeys_34 (by decide) ?_
      refine sw_iload_4 X dX1_shiftKeys_35 ?_
      refine ca_X1_58 X hi (by decide) dX1_shiftKeys_37 (Nat.le_of_ble_eq_true rfl) hW ?_
      refine sw_istore_5 X dX1_shiftKeys_40 trivial ?_
      refine sw_iload_5 X dX1_shiftKeys_42 ?_
      refine sw_if_eq X 50 dX1_shiftKeys_44 (by decide) (fun h44 => ?_) (fun h44 => ?_)
      ·
        exact absurd h44 he
      ·
        refine sw_iload_5 X dX1_shiftKeys_47 ?_
        exact sw_iret X Y dX1_shiftKeys_49 (rfl) (rfl)
    ·
      refine sw_iload_3 X dX1_shiftKeys_11 ?_
      refine sw_sipush X (-9999) dX1_shiftKeys_12 (by decide) ?_
      refine sw_icmp_lt X 29 dX1_shiftKeys_15 (by decide) (fun h15 => ?_) (fun h15 => ?_)
      ·
        refine sw_iconst X (nI 0) dX1_shiftKeys_29 (by decide) ?_
        refine sw_tope (v2 := bI b) (by first | exact (bI_t (hB.mpr ⟨⟨h2, h8⟩, ⟨h15, h22⟩⟩)).symm | exact (bI_f (fun z => (hB.mp z).1.1 h2)).symm | exact (bI_f (fun z => (hB.mp z).1.2 h8)).symm | exact (bI_f (fun z => (hB.mp z).2.1 h15)).symm | exact (bI_f (fun z => (hB.mp z).2.2 h22)).symm) ?_
        refine sw_istore_4 X dX1_shiftKeys_30 trivial ?_
        refine sw_aload_0 X dX1_shiftKeys_32 ?_
        refine sw_iload_1 X dX1_shiftKeys_33 ?_
        refine sw_iconst X (nI 1) dX1_shiftKeys_34 (by decide) ?_
        refine sw_iload_4 X dX1_shiftKeys_35 ?_
        refine ca_X1_58 X hi (by decide) dX1_shiftKeys_37 (Nat.le_of_ble_eq_true rfl) hW ?_
        refine sw_istore_5 X dX1_shiftKeys_40 trivial ?_
        refine sw_iload_5 X dX1_shiftKeys_42 ?_
        refine sw_if_eq X 50 dX1_shiftKeys_44 (by decide) (fun h44 => ?_) (fun h44 => ?_)
        ·
          exact absurd h44 he
        ·
          refine sw_iload_5 X dX1_shiftKeys_47 ?_
          exact sw_iret X Y dX1_shiftKeys_49 (rfl) (rfl)
      ·
        refine sw_iload_3 X dX1_shiftKeys_18 ?_
        refine sw_sipush X (nI 9999) dX1_shiftKeys_19 (by decide) ?_
        refine sw_icmp_gt X 29 dX1_shiftKeys_22 (by decide) (fun h22 => ?_) (fun h22 => ?_)
        ·
          refine sw_iconst X (nI 0) dX1_shiftKeys_29 (by decide) ?_
          refine sw_tope (v2 := bI b) (by first | exact (bI_t (hB.mpr ⟨⟨h2, h8⟩, ⟨h15, h22⟩⟩)).symm | exact (bI_f (fun z => (hB.mp z).1.1 h2)).symm | exact (bI_f (fun z => (hB.mp z).1.2 h8)).symm | exact (bI_f (fun z => (hB.mp z).2.1 h15)).symm | exact (bI_f (fun z => (hB.mp z).2.2 h22)).symm) ?_
          refine sw_istore_4 X dX1_shiftKeys_30 trivial ?_
          refine sw_aload_0 X dX1_shiftKeys_32 ?_
          refine sw_iload_1 X dX1_shiftKeys_33 ?_
          refine sw_iconst X (nI 1) dX1_shiftKeys_34 (by decide) ?_
          refine sw_iload_4 X dX1_shiftKeys_35 ?_
          refine ca_X1_58 X hi (by decide) dX1_shiftKeys_37 (Nat.le_of_ble_eq_true rfl) hW ?_
          refine sw_istore_5 X dX1_shiftKeys_40 trivial ?_
          refine sw_iload_5 X dX1_shiftKeys_42 ?_
          refine sw_if_eq X 50 dX1_shiftKeys_44 (by decide) (fun h44 => ?_) (fun h44 => ?_)
          ·
            exact absurd h44 he
          ·
            refine sw_iload_5 X dX1_shiftKeys_47 ?_
            exact sw_iret X Y dX1_shiftKeys_49 (rfl) (rfl)
        ·
          refine sw_iconst X (nI 1) dX1_shiftKeys_25 (by decide) ?_
          refine sw_goto X 30 dX1_shiftKeys_26 (by decide) ?_
          refine sw_tope (v2 := bI b) (by first | exact (bI_t (hB.mpr ⟨⟨h2, h8⟩, ⟨h15, h22⟩⟩)).symm | exact (bI_f (fun z => (hB.mp z).1.1 h2)).symm | exact (bI_f (fun z => (hB.mp z).1.2 h8)).symm | exact (bI_f (fun z => (hB.mp z).2.1 h15)).symm | exact (bI_f (fun z => (hB.mp z).2.2 h22)).symm) ?_
          refine sw_istore_4 X dX1_shiftKeys_30 trivial ?_
          refine sw_aload_0 X dX1_shiftKeys_32 ?_
          refine sw_iload_1 X dX1_shiftKeys_33 ?_
          refine sw_iconst X (nI 1) dX1_shiftKeys_34 (by decide) ?_
          refine sw_iload_4 X dX1_shiftKeys_35 ?_
          refine ca_X1_58 X hi (by decide) dX1_shiftKeys_37 (Nat.le_of_ble_eq_true rfl) hW ?_
          refine sw_istore_5 X dX1_shiftKeys_40 trivial ?_
          refine sw_iload_5 X dX1_shiftKeys_42 ?_
          refine sw_if_eq X 50 dX1_shiftKeys_44 (by decide) (fun h44 => ?_) (fun h44 => ?_)
          ·
            exact absurd h44 he
          ·
            refine sw_iload_5 X dX1_shiftKeys_47 ?_
            exact sw_iret X Y dX1_shiftKeys_49 (rfl) (rfl)
set_option maxHeartbeats 4000000 in
set_option maxRecDepth 100000 in
theorem c_X1_shiftKeys_y {G : sv_G} {M : sv_Mem} {i : Nat} (hi : i < 8) {q : Nat} (hq : q < 3) {mq : Nat} (hc : M i 14 q 0 = nI (mq + 1)) (hmq : mq ≤ 12) {keys d : Int32} {kn : Nat} (hkn : keys = nI kn) (hkl : kn < 65536) {b : Prop} [Decidable b] (hB : b ↔ (inR keys (nI 1) 65535 ∧ inR d (-9999) (nI 9999))) (hW : sv_Ct G M_X1_whyImpossible 1 [.ref (sv_ad G 10 i 0), .int (nI q), .int (nI 1), .int (bI b)] M (some (.int (nI 0))) M) : sv_Ct G M_X1_shiftKeys 4 [.ref (sv_ad G 10 i 0), .int (nI q), .int keys, .int d] M (some (.int (shT (bsT (M i) q mq) q (mq + 1) keys d (nI (pcn keys)) 16).2)) (sT M i (enT (shT (bsT (M i) q mq) q (mq + 1) keys d (nI (pcn keys)) 16).1 q mq (shT (bsT (M i) q mq) q (mq + 1) keys d (nI (pcn keys)) 16).2)) := by
  refine sv_Ct_of (lo := [some (.ref (sv_ad G 10 i 0)), some (.int (nI q)), some (.int keys), some (.int d), none, none, none, none, none]) (pn_X1) rfl (Nat.le_of_ble_eq_true rfl) rfl (fun K X Y => ?_)
  replace X : sv_X G K cX1_shiftKeys RX1 9 4 := X
  replace Y : sv_Y G K (some .int) _ _ := Y
  show sw_W G K 9 0 _ _ _
  have hU14 : ∀ r U a, shT (bsT (M i) q mq) q (mq + 1) keys d (nI (pcn keys)) r = (U, a) → U 14 q 0 = nI (mq + 2) := by
    intro r U a h
    have := shT_n (T := bsT (M i) q mq) (q := q) (m := mq + 1) (keys := keys) (d := d) (a0 := nI (pcn keys)) r
    rw [h] at this
    rw [show U 14 q 0 = bsT (M i) q mq 14 q 0 from this]
    exact aM_14 _ _ _
  have LE : ∀ U a l7 l8 x4, shT (bsT (M i) q mq) q (mq + 1) keys d (nI (pcn keys)) 16 = (U, a) → sw_W G K 9 121 [some (.ref (sv_ad G 10 i 0)), some (.int (nI q)), some (.int keys), some (.int d), some (.int x4), some (.int (nI 0)), some (.int a), l7, l8] [] (sT M i U) := by
    intro U a l7 l8 x4 hP
    have h14 := hU14 16 U a hP
    refine sw_aload_0 X dX1_shiftKeys_121 ?_
    refine sw_iload_1 X dX1_shiftKeys_122 ?_
    refine sw_iload_6 X dX1_shiftKeys_123 ?_
    refine ca_X1_97 X hi (by decide) dX1_shiftKeys_125 (Nat.le_of_ble_eq_true rfl) (c_X1_endStatement hi hq (mq := mq) (by rw [sT_at]; exact h14) hmq) ?_
    exact sw_iret X Y dX1_shiftKeys_128 (by rw [hP]) (by rw [hP, sT_sT, sT_at])
  have L : ∀ x4 r, r ≤ 16 → (fun r => ∀ U a l8, shT (bsT (M i) q mq) q (mq + 1) keys d (nI (pcn keys)) r = (U, a) → sw_W G K 9 68 [some (.ref (sv_ad G 10 i 0)), some (.int (nI q)), some (.int keys), some (.int d), some (.int x4), some (.int (nI 0)), some (.int a), some (.int (nI r)), l8] [] (sT M i U)) r := by
    intro x4
    refine up_ind (N := 16) (P := fun r => ∀ U a l8, shT (bsT (M i) q mq) q (mq + 1) keys d (nI (pcn keys)) r = (U, a) → sw_W G K 9 68 [some (.ref (sv_ad G 10 i 0)), some (.int (nI q)), some (.int keys), some (.int d), some (.int x4), some (.int (nI 0)), some (.int a), some (.int (nI r)), l8] [] (sT M i U)) ?_
    intro r hr3x ih U a l8 hL
    refine sw_iload_7 X dX1_shiftKeys_68 ?_
    refine sw_bipush X (nI 16) dX1_shiftKeys_70 (by decide) ?_
    refine sw_icmp_ge X 121 dX1_shiftKeys_72 (by decide) (fun h72 => ?_) (fun h72 => ?_)
    ·
      have e : r = 16 := by have := (nI_leI (by omega) (by omega)).mp h72; omega
      subst e
      have hP := hL
      exact LE U a _ _ _ hP
    ·
      have hr : r < 16 := by have := mt (nI_leI (by omega) (by omega)).mpr h72; omega
      refine sw_iload_6 X dX1_shiftKeys_75 ?_
      refine sw_if_lt X 121 dX1_shiftKeys_77 (by decide) (fun h77 => ?_) (fun h77 => ?_)
      ·
        have hP := shT_stay hL (Int32.not_le.mpr h77) (16 - r)
        rw [show r + (16 - r) = 16 by omega] at hP
        exact LE U a _ _ _ hP
      ·
        have ha : 0 ≤ a := Int32.not_lt.mp h77
        refine sw_iload_2 X dX1_shiftKeys_80 ?_
        refine sw_iload_7 X dX1_shiftKeys_81 ?_
        refine sw_ishr X dX1_shiftKeys_83 ?_
        refine sw_iconst X (nI 1) dX1_shiftKeys_84 (by decide) ?_
        refine sw_iand X dX1_shiftKeys_85 ?_
        refine sw_if_eq X 115 dX1_shiftKeys_86 (by decide) (fun h86 => ?_) (fun h86 => ?_)
        ·
          have hb : ¬ bt keys r = true := by rw [(bt_has0 keys (k := r) (by omega)).mp h86]; decide
          have es := shT_f hL (fun z => hb z.2)
          first | refine sw_inc1_7 X dX1_shiftKeys_115 trivial ?_ | refine sw_iinc_7 X _ dX1_shiftKeys_115 rfl trivial ?_
          refine sw_goto X 68 dX1_shiftKeys_118 (by decide) ?_
          exact ih (r + 1) (by omega) (by omega) _ _ _ es
        ·
          have hb : bt keys r = true := by cases hbb : bt keys r with | true => rfl | false => exact absurd ((bt_has0 keys (k := r) (by omega)).mpr hbb) h86
          have es := shT_t hL ha hb
          refine sw_aload_0 X dX1_shiftKeys_89 ?_
          refine sw_iload_1 X dX1_shiftKeys_90 ?_
          refine sw_iload_7 X dX1_shiftKeys_91 ?_
          refine sw_iload_3 X dX1_shiftKeys_93 ?_
          refine sw_bipush X (-5) dX1_shiftKeys_94 (by decide) ?_
          refine ca_X1_112 X hi (by decide) dX1_shiftKeys_96 (Nat.le_of_ble_eq_true rfl) (c_X1_addToValue hi hq (m := mq + 1) (by rw [sT_at]; exact hU14 r U a hL) (by omega) hr) ?_
          rw [sT_at]
          rw [sT_sT]
          refine sw_istore_8 X dX1_shiftKeys_99 trivial ?_
          refine sw_iload_8 X dX1_shiftKeys_101 ?_
          refine sw_if_ge X 111 dX1_shiftKeys_103 (by decide) (fun h103 => ?_) (fun h103 => ?_)
          ·
            rw [if_neg (Int32.not_lt.mpr h103)] at es
            refine sw_iload_6 X dX1_shiftKeys_111 ?_
            refine sw_istore_6 X dX1_shiftKeys_113 trivial ?_
            first | refine sw_inc1_7 X dX1_shiftKeys_115 trivial ?_ | refine sw_iinc_7 X _ dX1_shiftKeys_115 rfl trivial ?_
            refine sw_goto X 68 dX1_shiftKeys_118 (by decide) ?_
            exact ih (r + 1) (by omega) (by omega) _ _ _ es
          ·
            rw [if_pos (Int32.not_le.mp h103)] at es
            refine sw_iload_8 X dX1_shiftKeys_106 ?_
            refine sw_goto X 113 dX1_shiftKeys_108 (by decide) ?_
            refine sw_istore_6 X dX1_shiftKeys_113 trivial ?_
            first | refine sw_inc1_7 X dX1_shiftKeys_115 trivial ?_ | refine sw_iinc_7 X _ dX1_shiftKeys_115 rfl trivial ?_
            refine sw_goto X 68 dX1_shiftKeys_118 (by decide) ?_
            exact ih (r + 1) (by omega) (by omega) _ _ _ es
  refine sw_iload_2 X dX1_shiftKeys_0 ?_
  refine sw_iconst X (nI 1) dX1_shiftKeys_1 (by decide) ?_
  refine sw_icmp_lt X 29 dX1_shiftKeys_2 (by decide) (fun h2 => ?_) (fun h2 => ?_)
  ·
    refine sw_iconst X (nI 0) dX1_shiftKeys_29 (by decide) ?_
    refine sw_tope (v2 := bI b) (by first | exact (bI_t (hB.mpr ⟨⟨h2, h8⟩, ⟨h15, h22⟩⟩)).symm | exact (bI_f (fun z => (hB.mp z).1.1 h2)).symm | exact (bI_f (fun z => (hB.mp z).1.2 h8)).symm | exact (bI_f (fun z => (hB.mp z).2.1 h15)).symm | exact (bI_f (fun z => (hB.mp z).2.2 h22)).symm) ?_
    refine sw_istore_4 X dX1_shiftKeys_30 trivial ?_
    refine sw_aload_0 X dX1_shiftKeys_32 ?_
    refine sw_iload_1 X dX1_shiftKeys_33 ?_
    refine sw_iconst X (nI 1) dX1_shiftKeys_34 (by decide) ?_
    refine sw_iload_4 X dX1_shiftKeys_35 ?_
    refine ca_X1_58 X hi (by decide) dX1_shiftKeys_37 (Nat.le_of_ble_eq_true rfl) hW ?_
    refine sw_istore_5 X dX1_shiftKeys_40 trivial ?_
    refine sw_iload_5 X dX1_shiftKeys_42 ?_
    refine sw_if_eq X 50 dX1_shiftKeys_44 (by decide) (fun h44 => ?_) (fun h44 => ?_)
    ·
      refine sw_aload_0 X dX1_shiftKeys_50 ?_
      refine gf_X1_17 X hi dX1_shiftKeys_51 ?_
      refine sw_iload_1 X dX1_shiftKeys_54 ?_
      refine sw_aaldT X hi rfl hq dX1_shiftKeys_55 ?_
      refine ca_X1_55 X hi hq (by decide) dX1_shiftKeys_56 (Nat.le_of_ble_eq_true rfl) (c_X2_addMoment hi hq hc (by omega)) ?_
      refine sw_iload_2 X dX1_shiftKeys_59 ?_
      rw [hkn]
      refine ca_X1_107 X (by decide) dX1_shiftKeys_60 (Nat.le_of_ble_eq_true rfl) (c_J6_bitCount_0f7a4 hkl) ?_
      rw [← hkn]
      refine sw_istore_6 X dX1_shiftKeys_63 trivial ?_
      refine sw_iconst X (nI 0) dX1_shiftKeys_65 (by decide) ?_
      refine sw_istore_7 X dX1_shiftKeys_66 trivial ?_
      exact L _ 0 (by omega) _ _ _ rfl
    ·
      exact absurd rfl h44
  ·
    refine sw_iload_2 X dX1_shiftKeys_5 ?_
    refine sw_ldc X (v := 65535) wk_X1_106 dX1_shiftKeys_6 ?_
    refine sw_icmp_gt X 29 dX1_shiftKeys_8 (by decide) (fun h8 => ?_) (fun h8 => ?_)
    ·
      refine sw_iconst X (nI 0) dX1_shiftKeys_29 (by decide) ?_
      refine sw_tope (v2 := bI b) (by first | exact (bI_t (hB.mpr ⟨⟨h2, h8⟩, ⟨h15, h22⟩⟩)).symm | exact (bI_f (fun z => (hB.mp z).1.1 h2)).symm | exact (bI_f (fun z => (hB.mp z).1.2 h8)).symm | exact (bI_f (fun z => (hB.mp z).2.1 h15)).symm | exact (bI_f (fun z => (hB.mp z).2.2 h22)).symm) ?_
      refine sw_istore_4 X dX1_shiftKeys_30 trivial ?_
      refine sw_aload_0 X dX1_shiftKeys_32 ?_
      refine sw_iload_1 X dX1_shiftKeys_33 ?_
      refine sw_iconst X (nI 1) dX1_shiftKeys_34 (by decide) ?_
      refine sw_iload_4 X dX1_shiftKeys_35 ?_
      refine ca_X1_58 X hi (by decide) dX1_shiftKeys_37 (Nat.le_of_ble_eq_true rfl) hW ?_
      refine sw_istore_5 X dX1_shiftKeys_40 trivial ?_
      refine sw_iload_5 X dX1_shiftKeys_42 ?_
      refine sw_if_eq X 50 dX1_shiftKeys_44 (by decide) (fun h44 => ?_) (fun h44 => ?_)
      ·
        refine sw_aload_0 X dX1_shiftKeys_50 ?_
        refine gf_X1_17 X hi dX1_shiftKeys_51 ?_
        refine sw_iload_1 X dX1_shiftKeys_54 ?_
        refine sw_aaldT X hi rfl hq dX1_shiftKeys_55 ?_
        refine ca_X1_55 X hi hq (by decide) dX1_shiftKeys_56 (Nat.le_of_ble_eq_true rfl) (c_X2_addMoment hi hq hc (by omega)) ?_
        refine sw_iload_2 X dX1_shiftKeys_59 ?_
        rw [hkn]
        refine ca_X1_107 X (by decide) dX1_shiftKeys_60 (Nat.le_of_ble_eq_true rfl) (c_J6_bitCount_0f7a4 hkl) ?_
        rw [← hkn]
        refine sw_istore_6 X dX1_shiftKeys_63 trivial ?_
        refine sw_iconst X (nI 0) dX1_shiftKeys_65 (by decide) ?_
        refine sw_istore_7 X dX1_shiftKeys_66 trivial ?_
        exact L _ 0 (by omega) _ _ _ rfl
      ·
        exact absurd rfl h44
    ·
      refine sw_iload_3 X dX1_shiftKeys_11 ?_
      refine sw_sipush X (-9999) dX1_shiftKeys_12 (by decide) ?_
      refine sw_icmp_lt X 29 dX1_shiftKeys_15 (by decide) (fun h15 => ?_) (fun h15 => ?_)
      ·
        refine sw_iconst X (nI 0) dX1_shiftKeys_29 (by decide) ?_
        refine sw_tope (v2 := bI b) (by first | exact (bI_t (hB.mpr ⟨⟨h2, h8⟩, ⟨h15, h22⟩⟩)).symm | exact (bI_f (fun z => (hB.mp z).1.1 h2)).symm | exact (bI_f (fun z => (hB.mp z).1.2 h8)).symm | exact (bI_f (fun z => (hB.mp z).2.1 h15)).symm | exact (bI_f (fun z => (hB.mp z).2.2 h22)).symm) ?_
        refine sw_istore_4 X dX1_shiftKeys_30 trivial ?_
        refine sw_aload_0 X dX1_shiftKeys_32 ?_
        refine sw_iload_1 X dX1_shiftKeys_33 ?_
        refine sw_iconst X (nI 1) dX1_shiftKeys_34 (by decide) ?_
        refine sw_iload_4 X dX1_shiftKeys_35 ?_
        refine ca_X1_58 X hi (by decide) dX1_shiftKeys_37 (Nat.le_of_ble_eq_true rfl) hW ?_
        refine sw_istore_5 X dX1_shiftKeys_40 trivial ?_
        refine sw_iload_5 X dX1_shiftKeys_42 ?_
        refine sw_if_eq X 50 dX1_shiftKeys_44 (by decide) (fun h44 => ?_) (fun h44 => ?_)
        ·
          refine sw_aload_0 X dX1_shiftKeys_50 ?_
          refine gf_X1_17 X hi dX1_shiftKeys_51 ?_
          refine sw_iload_1 X dX1_shiftKeys_54 ?_
          refine sw_aaldT X hi rfl hq dX1_shiftKeys_55 ?_
          refine ca_X1_55 X hi hq (by decide) dX1_shiftKeys_56 (Nat.le_of_ble_eq_true rfl) (c_X2_addMoment hi hq hc (by omega)) ?_
          refine sw_iload_2 X dX1_shiftKeys_59 ?_
          rw [hkn]
          refine ca_X1_107 X (by decide) dX1_shiftKeys_60 (Nat.le_of_ble_eq_true rfl) (c_J6_bitCount_0f7a4 hkl) ?_
          rw [← hkn]
          refine sw_istore_6 X dX1_shiftKeys_63 trivial ?_
          refine sw_iconst X (nI 0) dX1_shiftKeys_65 (by decide) ?_
          refine sw_istore_7 X dX1_shiftKeys_66 trivial ?_
          exact L _ 0 (by omega) _ _ _ rfl
        ·
          exact absurd rfl h44
      ·
        refine sw_iload_3 X dX1_shiftKeys_18 ?_
        refine sw_sipush X (nI 9999) dX1_shiftKeys_19 (by decide) ?_
        refine sw_icmp_gt X 29 dX1_shiftKeys_22 (by decide) (fun h22 => ?_) (fun h22 => ?_)
        ·
          refine sw_iconst X (nI 0) dX1_shiftKeys_29 (by decide) ?_
          refine sw_tope (v2 := bI b) (by first | exact (bI_t (hB.mpr ⟨⟨h2, h8⟩, ⟨h15, h22⟩⟩)).symm | exact (bI_f (fun z => (hB.mp z).1.1 h2)).symm | exact (bI_f (fun z => (hB.mp z).1.2 h8)).symm | exact (bI_f (fun z => (hB.mp z).2.1 h15)).symm | exact (bI_f (fun z => (hB.mp z).2.2 h22)).symm) ?_
          refine sw_istore_4 X dX1_shiftKeys_30 trivial ?_
          refine sw_aload_0 X dX1_shiftKeys_32 ?_
          refine sw_iload_1 X dX1_shiftKeys_33 ?_
          refine sw_iconst X (nI 1) dX1_shiftKeys_34 (by decide) ?_
          refine sw_iload_4 X dX1_shiftKeys_35 ?_
          refine ca_X1_58 X hi (by decide) dX1_shiftKeys_37 (Nat.le_of_ble_eq_true rfl) hW ?_
          refine sw_istore_5 X dX1_shiftKeys_40 trivial ?_
          refine sw_iload_5 X dX1_shiftKeys_42 ?_
          refine sw_if_eq X 50 dX1_shiftKeys_44 (by decide) (fun h44 => ?_) (fun h44 => ?_)
          ·
            refine sw_aload_0 X dX1_shiftKeys_50 ?_
            refine gf_X1_17 X hi dX1_shiftKeys_51 ?_
            refine sw_iload_1 X dX1_shiftKeys_54 ?_
            refine sw_aaldT X hi rfl hq dX1_shiftKeys_55 ?_
            refine ca_X1_55 X hi hq (by decide) dX1_shiftKeys_56 (Nat.le_of_ble_eq_true rfl) (c_X2_addMoment hi hq hc (by omega)) ?_
            refine sw_iload_2 X dX1_shiftKeys_59 ?_
            rw [hkn]
            refine ca_X1_107 X (by decide) dX1_shiftKeys_60 (Nat.le_of_ble_eq_true rfl) (c_J6_bitCount_0f7a4 hkl) ?_
            rw [← hkn]
            refine sw_istore_6 X dX1_shiftKeys_63 trivial ?_
            refine sw_iconst X (nI 0) dX1_shiftKeys_65 (by decide) ?_
            refine sw_istore_7 X dX1_shiftKeys_66 trivial ?_
            exact L _ 0 (by omega) _ _ _ rfl
          ·
            exact absurd rfl h44
        ·
          refine sw_iconst X (nI 1) dX1_shiftKeys_25 (by decide) ?_
          refine sw_goto X 30 dX1_shiftKeys_26 (by decide) ?_
          refine sw_tope (v2 := bI b) (by first | exact (bI_t (hB.mpr ⟨⟨h2, h8⟩, ⟨h15, h22⟩⟩)).symm | exact (bI_f (fun z => (hB.mp z).1.1 h2)).symm | exact (bI_f (fun z => (hB.mp z).1.2 h8)).symm | exact (bI_f (fun z => (hB.mp z).2.1 h15)).symm | exact (bI_f (fun z => (hB.mp z).2.2 h22)).symm) ?_
          refine sw_istore_4 X dX1_shiftKeys_30 trivial ?_
          refine sw_aload_0 X dX1_shiftKeys_32 ?_
          refine sw_iload_1 X dX1_shiftKeys_33 ?_
          refine sw_iconst X (nI 1) dX1_shiftKeys_34 (by decide) ?_
          refine sw_iload_4 X dX1_shiftKeys_35 ?_
          refine ca_X1_58 X hi (by decide) dX1_shiftKeys_37 (Nat.le_of_ble_eq_true rfl) hW ?_
          refine sw_istore_5 X dX1_shiftKeys_40 trivial ?_
          refine sw_iload_5 X dX1_shiftKeys_42 ?_
          refine sw_if_eq X 50 dX1_shiftKeys_44 (by decide) (fun h44 => ?_) (fun h44 => ?_)
          ·
            refine sw_aload_0 X dX1_shiftKeys_50 ?_
            refine gf_X1_17 X hi dX1_shiftKeys_51 ?_
            refine sw_iload_1 X dX1_shiftKeys_54 ?_
            refine sw_aaldT X hi rfl hq dX1_shiftKeys_55 ?_
            refine ca_X1_55 X hi hq (by decide) dX1_shiftKeys_56 (Nat.le_of_ble_eq_true rfl) (c_X2_addMoment hi hq hc (by omega)) ?_
            refine sw_iload_2 X dX1_shiftKeys_59 ?_
            rw [hkn]
            refine ca_X1_107 X (by decide) dX1_shiftKeys_60 (Nat.le_of_ble_eq_true rfl) (c_J6_bitCount_0f7a4 hkl) ?_
            rw [← hkn]
            refine sw_istore_6 X dX1_shiftKeys_63 trivial ?_
            refine sw_iconst X (nI 0) dX1_shiftKeys_65 (by decide) ?_
            refine sw_istore_7 X dX1_shiftKeys_66 trivial ?_
            exact L _ 0 (by omega) _ _ _ rfl
          ·
            exact absurd rfl h44
set_option maxHeartbeats 4000000 in
set_option maxRecDepth 100000 in
theorem c_X1_moveAmount_e {G : sv_G} {M : sv_Mem} {v f t amt e : Int32} {i : Nat} (hi : i < 8) {a b : Prop} [Decidable a] [Decidable b] (hA : a ↔ (inR f (nI 0) (nI 15) ∧ inR t (nI 0) (nI 15))) (hB : b ↔ (inR amt (nI 1) (nI 9999) ∧ f ≠ t)) (he : e ≠ 0) (hW : sv_Ct G M_X1_whyImpossible 1 [.ref (sv_ad G 10 i 0), .int v, .int (bI a), .int (bI b)] M (some (.int e)) M) : sv_Ct G M_X1_moveAmount 4 [.ref (sv_ad G 10 i 0), .int v, .int f, .int t, .int amt] M (some (.int e)) (M) := by
  refine sv_Ct_of (lo := [some (.ref (sv_ad G 10 i 0)), some (.int v), some (.int f), some (.int t), some (.int amt), none, none, none]) (pn_X1) rfl (Nat.le_of_ble_eq_true rfl) rfl (fun K X Y => ?_)
  replace X : sv_X G K cX1_moveAmount RX1 8 4 := X
  replace Y : sv_Y G K (some .int) _ _ := Y
  show sw_W G K 8 0 _ _ _
  refine sw_iload_4 X dX1_moveAmount_0 ?_
  refine sw_iconst X (nI 1) dX1_moveAmount_2 (by decide) ?_
  refine sw_icmp_lt X 23 dX1_moveAmount_3 (by decide) (fun h3 => ?_) (fun h3 => ?_)
  ·
    refine sw_iconst X (nI 0) dX1_moveAmount_23 (by decide) ?_
    refine sw_tope (v2 := bI b) (by first | exact (bI_t (hB.mpr ⟨⟨h3, h11⟩, h16⟩)).symm | exact (bI_f (fun z => (hB.mp z).1.1 h3)).symm | exact (bI_f (fun z => (hB.mp z).1.2 h11)).symm | exact (bI_f (fun z => (hB.mp z).2 h16)).symm) ?_
    refine sw_istore_5 X dX1_moveAmount_24 trivial ?_
    refine sw_aload_0 X dX1_moveAmount_26 ?_
    refine sw_iload_1 X dX1_moveAmount_27 ?_
    refine sw_iload_2 X dX1_moveAmount_28 ?_
    refine ca_X1_90 X (by decide) dX1_moveAmount_29 (Nat.le_of_ble_eq_true rfl) c_X3_isKey ?_
    refine sw_ifB_eq X 46 dX1_moveAmount_32 (by decide) (fun h32 => ?_) (fun h32 => ?_)
    ·
      refine sw_iconst X (nI 0) dX1_moveAmount_46 (by decide) ?_
      refine sw_tope (v2 := bI a) (by first | exact (bI_t (hA.mpr ⟨h32, h39⟩)).symm | exact (bI_f (fun z => h32 (hA.mp z).1)).symm | exact (bI_f (fun z => h39 (hA.mp z).2)).symm) ?_
      refine sw_iload_5 X dX1_moveAmount_47 ?_
      refine ca_X1_58 X hi (by decide) dX1_moveAmount_49 (Nat.le_of_ble_eq_true rfl) hW ?_
      refine sw_istore_6 X dX1_moveAmount_52 trivial ?_
      refine sw_iload_6 X dX1_moveAmount_54 ?_
      refine sw_if_eq X 62 dX1_moveAmount_56 (by decide) (fun h56 => ?_) (fun h56 => ?_)
      ·
        exact absurd h56 he
      ·
        refine sw_iload_6 X dX1_moveAmount_59 ?_
        exact sw_iret X Y dX1_moveAmount_61 (rfl) (rfl)
    ·
      refine sw_iload_3 X dX1_moveAmount_35 ?_
      refine ca_X1_90 X (by decide) dX1_moveAmount_36 (Nat.le_of_ble_eq_true rfl) c_X3_isKey ?_
      refine sw_ifB_eq X 46 dX1_moveAmount_39 (by decide) (fun h39 => ?_) (fun h39 => ?_)
      ·
        refine sw_iconst X (nI 0) dX1_moveAmount_46 (by decide) ?_
        refine sw_tope (v2 := bI a) (by first | exact (bI_t (hA.mpr ⟨h32, h39⟩)).symm | exact (bI_f (fun z => h32 (hA.mp z).1)).symm | exact (bI_f (fun z => h39 (hA.mp z).2)).symm) ?_
        refine sw_iload_5 X dX1_moveAmount_47 ?_
        refine ca_X1_58 X hi (by decide) dX1_moveAmount_49 (Nat.le_of_ble_eq_true rfl) hW ?_
        refine sw_istore_6 X dX1_moveAmount_52 trivial ?_
        refine sw_iload_6 X dX1_moveAmount_54 ?_
        refine sw_if_eq X 62 dX1_moveAmount_56 (by decide) (fun h56 => ?_) (fun h56 => ?_)
        ·
          exact absurd h56 he
        ·
          refine sw_iload_6 X dX1_moveAmount_59 ?_
          exact sw_iret X Y dX1_moveAmount_61 (rfl) (rfl)
      ·
        refine sw_iconst X (nI 1) dX1_moveAmount_42 (by decide) ?_
        refine sw_goto X 47 dX1_moveAmount_43 (by decide) ?_
        refine sw_tope (v2 := bI a) (by first | exact (bI_t (hA.mpr ⟨h32, h39⟩)).symm | exact (bI_f (fun z => h32 (hA.mp z).1)).symm | exact (bI_f (fun z => h39 (hA.mp z).2)).symm) ?_
        refine sw_iload_5 X dX1_moveAmount_47 ?_
        refine ca_X1_58 X hi (by decide) dX1_moveAmount_49 (Nat.le_of_ble_eq_true rfl) hW ?_
        refine sw_istore_6 X dX1_moveAmount_52 trivial ?_
        refine sw_iload_6 X dX1_moveAmount_54 ?_
        refine sw_if_eq X 62 dX1_moveAmount_56 (by decide) (fun h56 => ?_) (fun h56 => ?_)
        ·
          exact absurd h56 he
        ·
          refine sw_iload_6 X dX1_moveAmount_59 ?_
          exact sw_iret X Y dX1_moveAmount_61 (rfl) (rfl)
  ·
    refine sw_iload_4 X dX1_moveAmount_6 ?_
    refine sw_sipush X (nI 9999) dX1_moveAmount_8 (by decide) ?_
    refine sw_icmp_gt X 23 dX1_moveAmount_11 (by decide) (fun h11 => ?_) (fun h11 => ?_)
    ·
      refine sw_iconst X (nI 0) dX1_moveAmount_23 (by decide) ?_
      refine sw_tope (v2 := bI b) (by first | exact (bI_t (hB.mpr ⟨⟨h3, h11⟩, h16⟩)).symm | exact (bI_f (fun z => (hB.mp z).1.1 h3)).symm | exact (bI_f (fun z => (hB.mp z).1.2 h11)).symm | exact (bI_f (fun z => (hB.mp z).2 h16)).symm) ?_
      refine sw_istore_5 X dX1_moveAmount_24 trivial ?_
      refine sw_aload_0 X dX1_moveAmount_26 ?_
      refine sw_iload_1 X dX1_moveAmount_27 ?_
      refine sw_iload_2 X dX1_moveAmount_28 ?_
      refine ca_X1_90 X (by decide) dX1_moveAmount_29 (Nat.le_of_ble_eq_true rfl) c_X3_isKey ?_
      refine sw_ifB_eq X 46 dX1_moveAmount_32 (by decide) (fun h32 => ?_) (fun h32 => ?_)
      ·
        refine sw_iconst X (nI 0) dX1_moveAmount_46 (by decide) ?_
        refine sw_tope (v2 := bI a) (by first | exact (bI_t (hA.mpr ⟨h32, h39⟩)).symm | exact (bI_f (fun z => h32 (hA.mp z).1)).symm | exact (bI_f (fun z => h39 (hA.mp z).2)).symm) ?_
        refine sw_iload_5 X dX1_moveAmount_47 ?_
        refine ca_X1_58 X hi (by decide) dX1_moveAmount_49 (Nat.le_of_ble_eq_true rfl) hW ?_
        refine sw_istore_6 X dX1_moveAmount_52 trivial ?_
        refine sw_iload_6 X dX1_moveAmount_54 ?_
        refine sw_if_eq X 62 dX1_moveAmount_56 (by decide) (fun h56 => ?_) (fun h56 => ?_)
        ·
          exact absurd h56 he
        ·
          refine sw_iload_6 X dX1_moveAmount_59 ?_
          exact sw_iret X Y dX1_moveAmount_61 (rfl) (rfl)
      ·
        refine sw_iload_3 X dX1_moveAmount_35 ?_
        refine ca_X1_90 X (by decide) dX1_moveAmount_36 (Nat.le_of_ble_eq_true rfl) c_X3_isKey ?_
        refine sw_ifB_eq X 46 dX1_moveAmount_39 (by decide) (fun h39 => ?_) (fun h39 => ?_)
        ·
          refine sw_iconst X (nI 0) dX1_moveAmount_46 (by decide) ?_
          refine sw_tope (v2 := bI a) (by first | exact (bI_t (hA.mpr ⟨h32, h39⟩)).symm | exact (bI_f (fun z => h32 (hA.mp z).1)).symm | exact (bI_f (fun z => h39 (hA.mp z).2)).symm) ?_
          refine sw_iload_5 X dX1_moveAmount_47 ?_
          refine ca_X1_58 X hi (by decide) dX1_moveAmount_49 (Nat.le_of_ble_eq_true rfl) hW ?_
          refine sw_istore_6 X dX1_moveAmount_52 trivial ?_
          refine sw_iload_6 X dX1_moveAmount_54 ?_
          refine sw_if_eq X 62 dX1_moveAmount_56 (by decide) (fun h56 => ?_) (fun h56 => ?_)
          ·
            exact absurd h56 he
          ·
            refine sw_iload_6 X dX1_moveAmount_59 ?_
            exact sw_iret X Y dX1_moveAmount_61 (rfl) (rfl)
        ·
          refine sw_iconst X (nI 1) dX1_moveAmount_42 (by decide) ?_
          refine sw_goto X 47 dX1_moveAmount_43 (by decide) ?_
          refine sw_tope (v2 := bI a) (by first | exact (bI_t (hA.mpr ⟨h32, h39⟩)).symm | exact (bI_f (fun z => h32 (hA.mp z).1)).symm | exact (bI_f (fun z => h39 (hA.mp z).2)).symm) ?_
          refine sw_iload_5 X dX1_moveAmount_47 ?_
          refine ca_X1_58 X hi (by decide) dX1_moveAmount_49 (Nat.le_of_ble_eq_true rfl) hW ?_
          refine sw_istore_6 X dX1_moveAmount_52 trivial ?_
          refine sw_iload_6 X dX1_moveAmount_54 ?_
          refine sw_if_eq X 62 dX1_moveAmount_56 (by decide) (fun h56 => ?_) (fun h56 => ?_)
          ·
            exact absurd h56 he
          ·
            refine sw_iload_6 X dX1_moveAmount_59 ?_
            exact sw_iret X Y dX1_moveAmount_61 (rfl) (rfl)
    ·
      refine sw_iload_2 X dX1_moveAmount_14 ?_
      refine sw_iload_3 X dX1_moveAmount_15 ?_
      refine sw_icmp_eq X 23 dX1_moveAmount_16 (by decide) (fun h16 => ?_) (fun h16 => ?_)
      ·
        refine sw_iconst X (nI 0) dX1_moveAmount_23 (by decide) ?_
        refine sw_tope (v2 := bI b) (by first | exact (bI_t (hB.mpr ⟨⟨h3, h11⟩, h16⟩)).symm | exact (bI_f (fun z => (hB.mp z).1.1 h3)).symm | exact (bI_f (fun z => (hB.mp z).1.2 h11)).symm | exact (bI_f (fun z => (hB.mp z).2 h16)).symm) ?_
        refine sw_istore_5 X dX1_moveAmount_24 trivial ?_
        refine sw_aload_0 X dX1_moveAmount_26 ?_
        refine sw_iload_1 X dX1_moveAmount_27 ?_
        refine sw_iload_2 X dX1_moveAmount_28 ?_
        refine ca_X1_90 X (by decide) dX1_moveAmount_29 (Nat.le_of_ble_eq_true rfl) c_X3_isKey ?_
        refine sw_ifB_eq X 46 dX1_moveAmount_32 (by decide) (fun h32 => ?_) (fun h32 => ?_)
        ·
          refine sw_iconst X (nI 0) dX1_moveAmount_46 (by decide) ?_
          refine sw_tope (v2 := bI a) (by first | exact (bI_t (hA.mpr ⟨h32, h39⟩)).symm | exact (bI_f (fun z => h32 (hA.mp z).1)).symm | exact (bI_f (fun z => h39 (hA.mp z).2)).symm) ?_
          refine sw_iload_5 X dX1_moveAmount_47 ?_
          refine ca_X1_58 X hi (by decide) dX1_moveAmount_49 (Nat.le_of_ble_eq_true rfl) hW ?_
          refine sw_istore_6 X dX1_moveAmount_52 trivial ?_
          refine sw_iload_6 X dX1_moveAmount_54 ?_
          refine sw_if_eq X 62 dX1_moveAmount_56 (by decide) (fun h56 => ?_) (fun h56 => ?_)
          ·
            exact absurd h56 he
          ·
            refine sw_iload_6 X dX1_moveAmount_59 ?_
            exact sw_iret X Y dX1_moveAmount_61 (rfl) (rfl)
        ·
          refine sw_iload_3 X dX1_moveAmount_35 ?_
          refine ca_X1_90 X (by decide) dX1_moveAmount_36 (Nat.le_of_ble_eq_true rfl) c_X3_isKey ?_
          refine sw_ifB_eq X 46 dX1_moveAmount_39 (by decide) (fun h39 => ?_) (fun h39 => ?_)
          ·
            refine sw_iconst X (nI 0) dX1_moveAmount_46 (by decide) ?_
            refine sw_tope (v2 := bI a) (by first | exact (bI_t (hA.mpr ⟨h32, h39⟩)).symm | exact (bI_f (fun z => h32 (hA.mp z).1)).symm | exact (bI_f (fun z => h39 (hA.mp z).2)).symm) ?_
            refine sw_iload_5 X dX1_moveAmount_47 ?_
            refine ca_X1_58 X hi (by decide) dX1_moveAmount_49 (Nat.le_of_ble_eq_true rfl) hW ?_
            refine sw_istore_6 X dX1_moveAmount_52 trivial ?_
            refine sw_iload_6 X dX1_moveAmount_54 ?_
            refine sw_if_eq X 62 dX1_moveAmount_56 (by decide) (fun h56 => ?_) (fun h56 => ?_)
            ·
              exact absurd h56 he
            ·
              refine sw_iload_6 X dX1_moveAmount_59 ?_
              exact sw_iret X Y dX1_moveAmount_61 (rfl) (rfl)
          ·
            refine sw_iconst X (nI 1) dX1_moveAmount_42 (by decide) ?_
            refine sw_goto X 47 dX1_moveAmount_43 (by decide) ?_
            refine sw_tope (v2 := bI a) (by first | exact (bI_t (hA.mpr ⟨h32, h39⟩)).symm | exact (bI_f (fun z => h32 (hA.mp z).1)).symm | exact (bI_f (fun z => h39 (hA.mp z).2)).symm) ?_
            refine sw_iload_5 X dX1_moveAmount_47 ?_
            refine ca_X1_58 X hi (by decide) dX1_moveAmount_49 (Nat.le_of_ble_eq_true rfl) hW ?_
            refine sw_istore_6 X dX1_moveAmount_52 trivial ?_
            refine sw_iload_6 X dX1_moveAmount_54 ?_
            refine sw_if_eq X 62 dX1_moveAmount_56 (by decide) (fun h56 => ?_) (fun h56 => ?_)
            ·
              exact absurd h56 he
            ·
              refine sw_iload_6 X dX1_moveAmount_59 ?_
              exact sw_iret X Y dX1_moveAmount_61 (rfl) (rfl)
      ·
        refine sw_iconst X (nI 1) dX1_moveAmount_19 (by decide) ?_
        refine sw_goto X 24 dX1_moveAmount_20 (by decide) ?_
        refine sw_tope (v2 := bI b) (by first | exact (bI_t (hB.mpr ⟨⟨h3, h11⟩, h16⟩)).symm | exact (bI_f (fun z => (hB.mp z).1.1 h3)).symm | exact (bI_f (fun z => (hB.mp z).1.2 h11)).symm | exact (bI_f (fun z => (hB.mp z).2 h16)).symm) ?_
        refine sw_istore_5 X dX1_moveAmount_24 trivial ?_
        refine sw_aload_0 X dX1_moveAmount_26 ?_
        refine sw_iload_1 X dX1_moveAmount_27 ?_
        refine sw_iload_2 X dX1_moveAmount_28 ?_
        refine ca_X1_90 X (by decide) dX1_moveAmount_29 (Nat.le_of_ble_eq_true rfl) c_X3_isKey ?_
        refine sw_ifB_eq X 46 dX1_moveAmount_32 (by decide) (fun h32 => ?_) (fun h32 => ?_)
        ·
          refine sw_iconst X (nI 0) dX1_moveAmount_46 (by decide) ?_
          refine sw_tope (v2 := bI a) (by first | exact (bI_t (hA.mpr ⟨h32, h39⟩)).symm | exact (bI_f (fun z => h32 (hA.mp z).1)).symm | exact (bI_f (fun z => h39 (hA.mp z).2)).symm) ?_
          refine sw_iload_5 X dX1_moveAmount_47 ?_
          refine ca_X1_58 X hi (by decide) dX1_moveAmount_49 (Nat.le_of_ble_eq_true rfl) hW ?_
          refine sw_istore_6 X dX1_moveAmount_52 trivial ?_
          refine sw_iload_6 X dX1_moveAmount_54 ?_
          refine sw_if_eq X 62 dX1_moveAmount_56 (by decide) (fun h56 => ?_) (fun h56 => ?_)
          ·
            exact absurd h56 he
          ·
            refine sw_iload_6 X dX1_moveAmount_59 ?_
            exact sw_iret X Y dX1_moveAmount_61 (rfl) (rfl)
        ·
          refine sw_iload_3 X dX1_moveAmount_35 ?_
          refine ca_X1_90 X (by decide) dX1_moveAmount_36 (Nat.le_of_ble_eq_true rfl) c_X3_isKey ?_
          refine sw_ifB_eq X 46 dX1_moveAmount_39 (by decide) (fun h39 => ?_) (fun h39 => ?_)
          ·
            refine sw_iconst X (nI 0) dX1_moveAmount_46 (by decide) ?_
            refine sw_tope (v2 := bI a) (by first | exact (bI_t (hA.mpr ⟨h32, h39⟩)).symm | exact (bI_f (fun z => h32 (hA.mp z).1)).symm | exact (bI_f (fun z => h39 (hA.mp z).2)).symm) ?_
            refine sw_iload_5 X dX1_moveAmount_47 ?_
            refine ca_X1_58 X hi (by decide) dX1_moveAmount_49 (Nat.le_of_ble_eq_true rfl) hW ?_
            refine sw_istore_6 X dX1_moveAmount_52 trivial ?_
            refine sw_iload_6 X dX1_moveAmount_54 ?_
            refine sw_if_eq X 62 dX1_moveAmount_56 (by decide) (fun h56 => ?_) (fun h56 => ?_)
            ·
              exact absurd h56 he
            ·
              refine sw_iload_6 X dX1_moveAmount_59 ?_
              exact sw_iret X Y dX1_moveAmount_61 (rfl) (rfl)
          ·
            refine sw_iconst X (nI 1) dX1_moveAmount_42 (by decide) ?_
            refine sw_goto X 47 dX1_moveAmount_43 (by decide) ?_
            refine sw_tope (v2 := bI a) (by first | exact (bI_t (hA.mpr ⟨h32, h39⟩)).symm | exact (bI_f (fun z => h32 (hA.mp z).1)).symm | exact (bI_f (fun z => h39 (hA.mp z).2)).symm) ?_
            refine sw_iload_5 X dX1_moveAmount_47 ?_
            refine ca_X1_58 X hi (by decide) dX1_moveAmount_49 (Nat.le_of_ble_eq_true rfl) hW ?_
            refine sw_istore_6 X dX1_moveAmount_52 trivial ?_
            refine sw_iload_6 X dX1_moveAmount_54 ?_
            refine sw_if_eq X 62 dX1_moveAmount_56 (by decide) (fun h56 => ?_) (fun h56 => ?_)
            ·
              exact absurd h56 he
            ·
              refine sw_iload_6 X dX1_moveAmount_59 ?_
              exact sw_iret X Y dX1_moveAmount_61 (rfl) (rfl)
set_option maxHeartbeats 4000000 in
set_option maxRecDepth 100000 in
theorem c_X1_moveAmount_y {G : sv_G} {M : sv_Mem} {i : Nat} (hi : i < 8) {q : Nat} (hq : q < 3) {mq : Nat} (hc : M i 14 q 0 = nI (mq + 1)) (hmq : mq ≤ 12) {ka kb : Nat} {amt : Int32} (hka : ka < 16) (hkb : kb < 16) {a b : Prop} [Decidable a] [Decidable b] (hA : a ↔ (inR (nI ka) (nI 0) (nI 15) ∧ inR (nI kb) (nI 0) (nI 15))) (hB : b ↔ (inR amt (nI 1) (nI 9999) ∧ nI ka ≠ nI kb)) (hW : sv_Ct G M_X1_whyImpossible 1 [.ref (sv_ad G 10 i 0), .int (nI q), .int (bI a), .int (bI b)] M (some (.int (nI 0))) M) : sv_Ct G M_X1_moveAmount 4 [.ref (sv_ad G 10 i 0), .int (nI q), .int (nI ka), .int (nI kb), .int amt] M (some (.int (mvT (bsT (M i) q mq) q (mq + 1) ka kb amt).2)) (sT M i (enT (mvT (bsT (M i) q mq) q (mq + 1) ka kb amt).1 q mq (mvT (bsT (M i) q mq) q (mq + 1) ka kb amt).2)) := by
  refine sv_Ct_of (lo := [some (.ref (sv_ad G 10 i 0)), some (.int (nI q)), some (.int (nI ka)), some (.int (nI kb)), some (.int amt), none, none, none]) (pn_X1) rfl (Nat.le_of_ble_eq_true rfl) rfl (fun K X Y => ?_)
  replace X : sv_X G K cX1_moveAmount RX1 8 4 := X
  replace Y : sv_Y G K (some .int) _ _ := Y
  show sw_W G K 8 0 _ _ _
  refine sw_iload_4 X dX1_moveAmount_0 ?_
  refine sw_iconst X (nI 1) dX1_moveAmount_2 (by decide) ?_
  refine sw_icmp_lt X 23 dX1_moveAmount_3 (by decide) (fun h3 => ?_) (fun h3 => ?_)
  ·
    refine sw_iconst X (nI 0) dX1_moveAmount_23 (by decide) ?_
    refine sw_tope (v2 := bI b) (by first | exact (bI_t (hB.mpr ⟨⟨h3, h11⟩, h16⟩)).symm | exact (bI_f (fun z => (hB.mp z).1.1 h3)).symm | exact (bI_f (fun z => (hB.mp z).1.2 h11)).symm | exact (bI_f (fun z => (hB.mp z).2 h16)).symm) ?_
    refine sw_istore_5 X dX1_moveAmount_24 trivial ?_
    refine sw_aload_0 X dX1_moveAmount_26 ?_
    refine sw_iload_1 X dX1_moveAmount_27 ?_
    refine sw_iload_2 X dX1_moveAmount_28 ?_
    refine ca_X1_90 X (by decide) dX1_moveAmount_29 (Nat.le_of_ble_eq_true rfl) c_X3_isKey ?_
    refine sw_ifB_eq X 46 dX1_moveAmount_32 (by decide) (fun h32 => ?_) (fun h32 => ?_)
    ·
      refine sw_iconst X (nI 0) dX1_moveAmount_46 (by decide) ?_
      refine sw_tope (v2 := bI a) (by first | exact (bI_t (hA.mpr ⟨h32, h39⟩)).symm | exact (bI_f (fun z => h32 (hA.mp z).1)).symm | exact (bI_f (fun z => h39 (hA.mp z).2)).symm) ?_
      refine sw_iload_5 X dX1_moveAmount_47 ?_
      refine ca_X1_58 X hi (by decide) dX1_moveAmount_49 (Nat.le_of_ble_eq_true rfl) hW ?_
      refine sw_istore_6 X dX1_moveAmount_52 trivial ?_
      refine sw_iload_6 X dX1_moveAmount_54 ?_
      refine sw_if_eq X 62 dX1_moveAmount_56 (by decide) (fun h56 => ?_) (fun h56 => ?_)
      ·
        refine sw_aload_0 X dX1_moveAmount_62 ?_
        refine gf_X1_17 X hi dX1_moveAmount_63 ?_
        refine sw_iload_1 X dX1_moveAmount_66 ?_
        refine sw_aaldT X hi rfl hq dX1_moveAmount_67 ?_
        refine ca_X1_55 X hi hq (by decide) dX1_moveAmount_68 (Nat.le_of_ble_eq_true rfl) (c_X2_addMoment hi hq hc (by omega)) ?_
        refine sw_aload_0 X dX1_moveAmount_71 ?_
        refine sw_iload_1 X dX1_moveAmount_72 ?_
        refine sw_iload_2 X dX1_moveAmount_73 ?_
        refine sw_iload_4 X dX1_moveAmount_74 ?_
        refine sw_ineg X dX1_moveAmount_76 ?_
        refine sw_bipush X (-5) dX1_moveAmount_77 (by decide) ?_
        refine ca_X1_112 X hi (by decide) dX1_moveAmount_79 (Nat.le_of_ble_eq_true rfl) (c_X1_addToValue hi hq (m := mq + 1) (by rw [sT_at, aM_14]) (by omega) hka) ?_
        rw [sT_at]
        rw [sT_sT]
        refine sw_istore_7 X dX1_moveAmount_82 trivial ?_
        refine sw_iload_7 X dX1_moveAmount_84 ?_
        refine sw_if_lt X 100 dX1_moveAmount_86 (by decide) (fun h86 => ?_) (fun h86 => ?_)
        ·
          have e9 : mvT (bsT (M i) q mq) q (mq + 1) ka kb amt = _ := if_neg (Int32.not_le.mpr h86)
          refine sw_aload_0 X dX1_moveAmount_100 ?_
          refine sw_iload_1 X dX1_moveAmount_101 ?_
          refine sw_iload_7 X dX1_moveAmount_102 ?_
          refine ca_X1_97 X hi (by decide) dX1_moveAmount_104 (Nat.le_of_ble_eq_true rfl) (c_X1_endStatement hi hq (mq := mq) (by simp only [sT_at, avT_n, aM_14]) hmq) ?_
          exact sw_iret X Y dX1_moveAmount_107 (by rw [e9]) (by rw [e9]; simp only [sT_sT, sT_at])
        ·
          have e9 : mvT (bsT (M i) q mq) q (mq + 1) ka kb amt = _ := if_pos (Int32.not_lt.mp h86)
          refine sw_aload_0 X dX1_moveAmount_89 ?_
          refine sw_iload_1 X dX1_moveAmount_90 ?_
          refine sw_iload_3 X dX1_moveAmount_91 ?_
          refine sw_iload_4 X dX1_moveAmount_92 ?_
          refine sw_iconst X (nI 0) dX1_moveAmount_94 (by decide) ?_
          refine ca_X1_112 X hi (by decide) dX1_moveAmount_95 (Nat.le_of_ble_eq_true rfl) (c_X1_addToValue hi hq (m := mq + 1) (by rw [sT_at, avT_n, aM_14]) (by omega) hkb) ?_
          rw [sT_at]
          rw [sT_sT]
          refine sw_istore_7 X dX1_moveAmount_98 trivial ?_
          refine sw_aload_0 X dX1_moveAmount_100 ?_
          refine sw_iload_1 X dX1_moveAmount_101 ?_
          refine sw_iload_7 X dX1_moveAmount_102 ?_
          refine ca_X1_97 X hi (by decide) dX1_moveAmount_104 (Nat.le_of_ble_eq_true rfl) (c_X1_endStatement hi hq (mq := mq) (by simp only [sT_at, avT_n, aM_14]) hmq) ?_
          exact sw_iret X Y dX1_moveAmount_107 (by rw [e9]) (by rw [e9]; simp only [sT_sT, sT_at])
      ·
        exact absurd rfl h56
    ·
      refine sw_iload_3 X dX1_moveAmount_35 ?_
      refine ca_X1_90 X (by decide) dX1_moveAmount_36 (Nat.le_of_ble_eq_true rfl) c_X3_isKey ?_
      refine sw_ifB_eq X 46 dX1_moveAmount_39 (by decide) (fun h39 => ?_) (fun h39 => ?_)
      ·
        refine sw_iconst X (nI 0) dX1_moveAmount_46 (by decide) ?_
        refine sw_tope (v2 := bI a) (by first | exact (bI_t (hA.mpr ⟨h32, h39⟩)).symm | exact (bI_f (fun z => h32 (hA.mp z).1)).symm | exact (bI_f (fun z => h39 (hA.mp z).2)).symm) ?_
        refine sw_iload_5 X dX1_moveAmount_47 ?_
        refine ca_X1_58 X hi (by decide) dX1_moveAmount_49 (Nat.le_of_ble_eq_true rfl) hW ?_
        refine sw_istore_6 X dX1_moveAmount_52 trivial ?_
        refine sw_iload_6 X dX1_moveAmount_54 ?_
        refine sw_if_eq X 62 dX1_moveAmount_56 (by decide) (fun h56 => ?_) (fun h56 => ?_)
        ·
          refine sw_aload_0 X dX1_moveAmount_62 ?_
          refine gf_X1_17 X hi dX1_moveAmount_63 ?_
          refine sw_iload_1 X dX1_moveAmount_66 ?_
          refine sw_aaldT X hi rfl hq dX1_moveAmount_67 ?_
          refine ca_X1_55 X hi hq (by decide) dX1_moveAmount_68 (Nat.le_of_ble_eq_true rfl) (c_X2_addMoment hi hq hc (by omega)) ?_
          refine sw_aload_0 X dX1_moveAmount_71 ?_
          refine sw_iload_1 X dX1_moveAmount_72 ?_
          refine sw_iload_2 X dX1_moveAmount_73 ?_
          refine sw_iload_4 X dX1_moveAmount_74 ?_
          refine sw_ineg X dX1_moveAmount_76 ?_
          refine sw_bipush X (-5) dX1_moveAmount_77 (by decide) ?_
          refine ca_X1_112 X hi (by decide) dX1_moveAmount_79 (Nat.le_of_ble_eq_true rfl) (c_X1_addToValue hi hq (m := mq + 1) (by rw [sT_at, aM_14]) (by omega) hka) ?_
          rw [sT_at]
          rw [sT_sT]
          refine sw_istore_7 X dX1_moveAmount_82 trivial ?_
          refine sw_iload_7 X dX1_moveAmount_84 ?_
          refine sw_if_lt X 100 dX1_moveAmount_86 (by decide) (fun h86 => ?_) (fun h86 => ?_)
          ·
            have e9 : mvT (bsT (M i) q mq) q (mq + 1) ka kb amt = _ := if_neg (Int32.not_le.mpr h86)
            refine sw_aload_0 X dX1_moveAmount_100 ?_
            refine sw_iload_1 X dX1_moveAmount_101 ?_
            refine sw_iload_7 X dX1_moveAmount_102 ?_
            refine ca_X1_97 X hi (by decide) dX1_moveAmount_104 (Nat.le_of_ble_eq_true rfl) (c_X1_endStatement hi hq (mq := mq) (by simp only [sT_at, avT_n, aM_14]) hmq) ?_
            exact sw_iret X Y dX1_moveAmount_107 (by rw [e9]) (by rw [e9]; simp only [sT_sT, sT_at])
          ·
            have e9 : mvT (bsT (M i) q mq) q (mq + 1) ka kb amt = _ := if_pos (Int32.not_lt.mp h86)
            refine sw_aload_0 X dX1_moveAmount_89 ?_
            refine sw_iload_1 X dX1_moveAmount_90 ?_
            refine sw_iload_3 X dX1_moveAmount_91 ?_
            refine sw_iload_4 X dX1_moveAmount_92 ?_
            refine sw_iconst X (nI 0) dX1_moveAmount_94 (by decide) ?_
            refine ca_X1_112 X hi (by decide) dX1_moveAmount_95 (Nat.le_of_ble_eq_true rfl) (c_X1_addToValue hi hq (m := mq + 1) (by rw [sT_at, avT_n, aM_14]) (by omega) hkb) ?_
            rw [sT_at]
            rw [sT_sT]
            refine sw_istore_7 X dX1_moveAmount_98 trivial ?_
            refine sw_aload_0 X dX1_moveAmount_100 ?_
            refine sw_iload_1 X dX1_moveAmount_101 ?_
            refine sw_iload_7 X dX1_moveAmount_102 ?_
            refine ca_X1_97 X hi (by decide) dX1_moveAmount_104 (Nat.le_of_ble_eq_true rfl) (c_X1_endStatement hi hq (mq := mq) (by simp only [sT_at, avT_n, aM_14]) hmq) ?_
            exact sw_iret X Y dX1_moveAmount_107 (by rw [e9]) (by rw [e9]; simp only [sT_sT, sT_at])
        ·
          exact absurd rfl h56
      ·
        refine sw_iconst X (nI 1) dX1_moveAmount_42 (by decide) ?_
        refine sw_goto X 47 dX1_moveAmount_43 (by decide) ?_
        refine sw_tope (v2 := bI a) (by first | exact (bI_t (hA.mpr ⟨h32, h39⟩)).symm | exact (bI_f (fun z => h32 (hA.mp z).1)).symm | exact (bI_f (fun z => h39 (hA.mp z).2)).symm) ?_
        refine sw_iload_5 X dX1_moveAmount_47 ?_
        refine ca_X1_58 X hi (by decide) dX1_moveAmount_49 (Nat.le_of_ble_eq_true rfl) hW ?_
        refine sw_istore_6 X dX1_moveAmount_52 trivial ?_
        refine sw_iload_6 X dX1_moveAmount_54 ?_
        refine sw_if_eq X 62 dX1_moveAmount_56 (by decide) (fun h56 => ?_) (fun h56 => ?_)
        ·
          refine sw_aload_0 X dX1_moveAmount_62 ?_
          refine gf_X1_17 X hi dX1_moveAmount_63 ?_
          refine sw_iload_1 X dX1_moveAmount_66 ?_
          refine sw_aaldT X hi rfl hq dX1_moveAmount_67 ?_
          refine ca_X1_55 X hi hq (by decide) dX1_moveAmount_68 (Nat.le_of_ble_eq_true rfl) (c_X2_addMoment hi hq hc (by omega)) ?_
          refine sw_aload_0 X dX1_moveAmount_71 ?_
          refine sw_iload_1 X dX1_moveAmount_72 ?_
          refine sw_iload_2 X dX1_moveAmount_73 ?_
          refine sw_iload_4 X dX1_moveAmount_74 ?_
          refine sw_ineg X dX1_moveAmount_76 ?_
          refine sw_bipush X (-5) dX1_moveAmount_77 (by decide) ?_
          refine ca_X1_112 X hi (by decide) dX1_moveAmount_79 (Nat.le_of_ble_eq_true rfl) (c_X1_addToValue hi hq (m := mq + 1) (by rw [sT_at, aM_14]) (by omega) hka) ?_
          rw [sT_at]
          rw [sT_sT]
          refine sw_istore_7 X dX1_moveAmount_82 trivial ?_
          refine sw_iload_7 X dX1_moveAmount_84 ?_
          refine sw_if_lt X 100 dX1_moveAmount_86 (by decide) (fun h86 => ?_) (fun h86 => ?_)
          ·
            have e9 : mvT (bsT (M i) q mq) q (mq + 1) ka kb amt = _ := if_neg (Int32.not_le.mpr h86)
            refine sw_aload_0 X dX1_moveAmount_100 ?_
            refine sw_iload_1 X dX1_moveAmount_101 ?_
            refine sw_iload_7 X dX1_moveAmount_102 ?_
            refine ca_X1_97 X hi (by decide) dX1_moveAmount_104 (Nat.le_of_ble_eq_true rfl) (c_X1_endStatement hi hq (mq := mq) (by simp only [sT_at, avT_n, aM_14]) hmq) ?_
            exact sw_iret X Y dX1_moveAmount_107 (by rw [e9]) (by rw [e9]; simp only [sT_sT, sT_at])
          ·
            have e9 : mvT (bsT (M i) q mq) q (mq + 1) ka kb amt = _ := if_pos (Int32.not_lt.mp h86)
            refine sw_aload_0 X dX1_moveAmount_89 ?_
            refine sw_iload_1 X dX1_moveAmount_90 ?_
            refine sw_iload_3 X dX1_moveAmount_91 ?_
            refine sw_iload_4 X dX1_moveAmount_92 ?_
            refine sw_iconst X (nI 0) dX1_moveAmount_94 (by decide) ?_
            refine ca_X1_112 X hi (by decide) dX1_moveAmount_95 (Nat.le_of_ble_eq_true rfl) (c_X1_addToValue hi hq (m := mq + 1) (by rw [sT_at, avT_n, aM_14]) (by omega) hkb) ?_
            rw [sT_at]
            rw [sT_sT]
            refine sw_istore_7 X dX1_moveAmount_98 trivial ?_
            refine sw_aload_0 X dX1_moveAmount_100 ?_
            refine sw_iload_1 X dX1_moveAmount_101 ?_
            refine sw_iload_7 X dX1_moveAmount_102 ?_
            refine ca_X1_97 X hi (by decide) dX1_moveAmount_104 (Nat.le_of_ble_eq_true rfl) (c_X1_endStatement hi hq (mq := mq) (by simp only [sT_at, avT_n, aM_14]) hmq) ?_
            exact sw_iret X Y dX1_moveAmount_107 (by rw [e9]) (by rw [e9]; simp only [sT_sT, sT_at])
        ·
          exact absurd rfl h56
  ·
    refine sw_iload_4 X dX1_moveAmount_6 ?_
    refine sw_sipush X (nI 9999) dX1_moveAmount_8 (by decide) ?_
    refine sw_icmp_gt X 23 dX1_moveAmount_11 (by decide) (fun h11 => ?_) (fun h11 => ?_)
    ·
      refine sw_iconst X (nI 0) dX1_moveAmount_23 (by decide) ?_
      refine sw_tope (v2 := bI b) (by first | exact (bI_t (hB.mpr ⟨⟨h3, h11⟩, h16⟩)).symm | exact (bI_f (fun z => (hB.mp z).1.1 h3)).symm | exact (bI_f (fun z => (hB.mp z).1.2 h11)).symm | exact (bI_f (fun z => (hB.mp z).2 h16)).symm) ?_
      refine sw_istore_5 X dX1_moveAmount_24 trivial ?_
      refine sw_aload_0 X dX1_moveAmount_26 ?_
      refine sw_iload_1 X dX1_moveAmount_27 ?_
      refine sw_iload_2 X dX1_moveAmount_28 ?_
      refine ca_X1_90 X (by decide) dX1_moveAmount_29 (Nat.le_of_ble_eq_true rfl) c_X3_isKey ?_
      refine sw_ifB_eq X 46 dX1_moveAmount_32 (by decide) (fun h32 => ?_) (fun h32 => ?_)
      ·
        refine sw_iconst X (nI 0) dX1_moveAmount_46 (by decide) ?_
        refine sw_tope (v2 := bI a) (by first | exact (bI_t (hA.mpr ⟨h32, h39⟩)).symm | exact (bI_f (fun z => h32 (hA.mp z).1)).symm | exact (bI_f (fun z => h39 (hA.mp z).2)).symm) ?_
        refine sw_iload_5 X dX1_moveAmount_47 ?_
        refine ca_X1_58 X hi (by decide) dX1_moveAmount_49 (Nat.le_of_ble_eq_true rfl) hW ?_
        refine sw_istore_6 X dX1_moveAmount_52 trivial ?_
        refine sw_iload_6 X dX1_moveAmount_54 ?_
        refine sw_if_eq X 62 dX1_moveAmount_56 (by decide) (fun h56 => ?_) (fun h56 => ?_)
        ·
          refine sw_aload_0 X dX1_moveAmount_62 ?_
          refine gf_X1_17 X hi dX1_moveAmount_63 ?_
          refine sw_iload_1 X dX1_moveAmount_66 ?_
          refine sw_aaldT X hi rfl hq dX1_moveAmount_67 ?_
          refine ca_X1_55 X hi hq (by decide) dX1_moveAmount_68 (Nat.le_of_ble_eq_true rfl) (c_X2_addMoment hi hq hc (by omega)) ?_
          refine sw_aload_0 X dX1_moveAmount_71 ?_
          refine sw_iload_1 X dX1_moveAmount_72 ?_
          refine sw_iload_2 X dX1_moveAmount_73 ?_
          refine sw_iload_4 X dX1_moveAmount_74 ?_
          refine sw_ineg X dX1_moveAmount_76 ?_
          refine sw_bipush X (-5) dX1_moveAmount_77 (by decide) ?_
          refine ca_X1_112 X hi (by decide) dX1_moveAmount_79 (Nat.le_of_ble_eq_true rfl) (c_X1_addToValue hi hq (m := mq + 1) (by rw [sT_at, aM_14]) (by omega) hka) ?_
          rw [sT_at]
          rw [sT_sT]
          refine sw_istore_7 X dX1_moveAmount_82 trivial ?_
          refine sw_iload_7 X dX1_moveAmount_84 ?_
          refine sw_if_lt X 100 dX1_moveAmount_86 (by decide) (fun h86 => ?_) (fun h86 => ?_)
          ·
            have e9 : mvT (bsT (M i) q mq) q (mq + 1) ka kb amt = _ := if_neg (Int32.not_le.mpr h86)
            refine sw_aload_0 X dX1_moveAmount_100 ?_
            refine sw_iload_1 X dX1_moveAmount_101 ?_
            refine sw_iload_7 X dX1_moveAmount_102 ?_
            refine ca_X1_97 X hi (by decide) dX1_moveAmount_104 (Nat.le_of_ble_eq_true rfl) (c_X1_endStatement hi hq (mq := mq) (by simp only [sT_at, avT_n, aM_14]) hmq) ?_
            exact sw_iret X Y dX1_moveAmount_107 (by rw [e9]) (by rw [e9]; simp only [sT_sT, sT_at])
          ·
            have e9 : mvT (bsT (M i) q mq) q (mq + 1) ka kb amt = _ := if_pos (Int32.not_lt.mp h86)
            refine sw_aload_0 X dX1_moveAmount_89 ?_
            refine sw_iload_1 X dX1_moveAmount_90 ?_
            refine sw_iload_3 X dX1_moveAmount_91 ?_
            refine sw_iload_4 X dX1_moveAmount_92 ?_
            refine sw_iconst X (nI 0) dX1_moveAmount_94 (by decide) ?_
            refine ca_X1_112 X hi (by decide) dX1_moveAmount_95 (Nat.le_of_ble_eq_true rfl) (c_X1_addToValue hi hq (m := mq + 1) (by rw [sT_at, avT_n, aM_14]) (by omega) hkb) ?_
            rw [sT_at]
            rw [sT_sT]
            refine sw_istore_7 X dX1_moveAmount_98 trivial ?_
            refine sw_aload_0 X dX1_moveAmount_100 ?_
            refine sw_iload_1 X dX1_moveAmount_101 ?_
            refine sw_iload_7 X dX1_moveAmount_102 ?_
            refine ca_X1_97 X hi (by decide) dX1_moveAmount_104 (Nat.le_of_ble_eq_true rfl) (c_X1_endStatement hi hq (mq := mq) (by simp only [sT_at, avT_n, aM_14]) hmq) ?_
            exact sw_iret X Y dX1_moveAmount_107 (by rw [e9]) (by rw [e9]; simp only [sT_sT, sT_at])
        ·
          exact absurd rfl h56
      ·
        refine sw_iload_3 X dX1_moveAmount_35 ?_
        refine ca_X1_90 X (by decide) dX1_moveAmount_36 (Nat.le_of_ble_eq_true rfl) c_X3_isKey ?_
        refine sw_ifB_eq X 46 dX1_moveAmount_39 (by decide) (fun h39 => ?_) (fun h39 => ?_)
        ·
          refine sw_iconst X (nI 0) dX1_moveAmount_46 (by decide) ?_
          refine sw_tope (v2 := bI a) (by first | exact (bI_t (hA.mpr ⟨h32, h39⟩)).symm | exact (bI_f (fun z => h32 (hA.mp z).1)).symm | exact (bI_f (fun z => h39 (hA.mp z).2)).symm) ?_
          refine sw_iload_5 X dX1_moveAmount_47 ?_
          refine ca_X1_58 X hi (by decide) dX1_moveAmount_49 (Nat.le_of_ble_eq_true rfl) hW ?_
          refine sw_istore_6 X dX1_moveAmount_52 trivial ?_
          refine sw_iload_6 X dX1_moveAmount_54 ?_
          refine sw_if_eq X 62 dX1_moveAmount_56 (by decide) (fun h56 => ?_) (fun h56 => ?_)
          ·
            refine sw_aload_0 X dX1_moveAmount_62 ?_
            refine gf_X1_17 X hi dX1_moveAmount_63 ?_
            refine sw_iload_1 X dX1_moveAmount_66 ?_
            refine sw_aaldT X hi rfl hq dX1_moveAmount_67 ?_
            refine ca_X1_55 X hi hq (by decide) dX1_moveAmount_68 (Nat.le_of_ble_eq_true rfl) (c_X2_addMoment hi hq hc (by omega)) ?_
            refine sw_aload_0 X dX1_moveAmount_71 ?_
            refine sw_iload_1 X dX1_moveAmount_72 ?_
            refine sw_iload_2 X dX1_moveAmount_73 ?_
            refine sw_iload_4 X dX1_moveAmount_74 ?_
            refine sw_ineg X dX1_moveAmount_76 ?_
            refine sw_bipush X (-5) dX1_moveAmount_77 (by decide) ?_
            refine ca_X1_112 X hi (by decide) dX1_moveAmount_79 (Nat.le_of_ble_eq_true rfl) (c_X1_addToValue hi hq (m := mq + 1) (by rw [sT_at, aM_14]) (by omega) hka) ?_
            rw [sT_at]
            rw [sT_sT]
            refine sw_istore_7 X dX1_moveAmount_82 trivial ?_
            refine sw_iload_7 X dX1_moveAmount_84 ?_
            refine sw_if_lt X 100 dX1_moveAmount_86 (by decide) (fun h86 => ?_) (fun h86 => ?_)
            ·
              have e9 : mvT (bsT (M i) q mq) q (mq + 1) ka kb amt = _ := if_neg (Int32.not_le.mpr h86)
              refine sw_aload_0 X dX1_moveAmount_100 ?_
              refine sw_iload_1 X dX1_moveAmount_101 ?_
              refine sw_iload_7 X dX1_moveAmount_102 ?_
              refine ca_X1_97 X hi (by decide) dX1_moveAmount_104 (Nat.le_of_ble_eq_true rfl) (c_X1_endStatement hi hq (mq := mq) (by simp only [sT_at, avT_n, aM_14]) hmq) ?_
              exact sw_iret X Y dX1_moveAmount_107 (by rw [e9]) (by rw [e9]; simp only [sT_sT, sT_at])
            ·
              have e9 : mvT (bsT (M i) q mq) q (mq + 1) ka kb amt = _ := if_pos (Int32.not_lt.mp h86)
              refine sw_aload_0 X dX1_moveAmount_89 ?_
              refine sw_iload_1 X dX1_moveAmount_90 ?_
              refine sw_iload_3 X dX1_moveAmount_91 ?_
              refine sw_iload_4 X dX1_moveAmount_92 ?_
              refine sw_iconst X (nI 0) dX1_moveAmount_94 (by decide) ?_
              refine ca_X1_112 X hi (by decide) dX1_moveAmount_95 (Nat.le_of_ble_eq_true rfl) (c_X1_addToValue hi hq (m := mq + 1) (by rw [sT_at, avT_n, aM_14]) (by omega) hkb) ?_
              rw [sT_at]
              rw [sT_sT]
              refine sw_istore_7 X dX1_moveAmount_98 trivial ?_
              refine sw_aload_0 X dX1_moveAmount_100 ?_
              refine sw_iload_1 X dX1_moveAmount_101 ?_
              refine sw_iload_7 X dX1_moveAmount_102 ?_
              refine ca_X1_97 X hi (by decide) dX1_moveAmount_104 (Nat.le_of_ble_eq_true rfl) (c_X1_endStatement hi hq (mq := mq) (by simp only [sT_at, avT_n, aM_14]) hmq) ?_
              exact sw_iret X Y dX1_moveAmount_107 (by rw [e9]) (by rw [e9]; simp only [sT_sT, sT_at])
          ·
            exact absurd rfl h56
        ·
          refine sw_iconst X (nI 1) dX1_moveAmount_42 (by decide) ?_
          refine sw_goto X 47 dX1_moveAmount_43 (by decide) ?_
          refine sw_tope (v2 := bI a) (by first | exact (bI_t (hA.mpr ⟨h32, h39⟩)).symm | exact (bI_f (fun z => h32 (hA.mp z).1)).symm | exact (bI_f (fun z => h39 (hA.mp z).2)).symm) ?_
          refine sw_iload_5 X dX1_moveAmount_47 ?_
          refine ca_X1_58 X hi (by decide) dX1_moveAmount_49 (Nat.le_of_ble_eq_true rfl) hW ?_
          refine sw_istore_6 X dX1_moveAmount_52 trivial ?_
          refine sw_iload_6 X dX1_moveAmount_54 ?_
          refine sw_if_eq X 62 dX1_moveAmount_56 (by decide) (fun h56 => ?_) (fun h56 => ?_)
          ·
            refine sw_aload_0 X dX1_moveAmount_62 ?_
            refine gf_X1_17 X hi dX1_moveAmount_63 ?_
            refine sw_iload_1 X dX1_moveAmount_66 ?_
            refine sw_aaldT X hi rfl hq dX1_moveAmount_67 ?_
            refine ca_X1_55 X hi hq (by decide) dX1_moveAmount_68 (Nat.le_of_ble_eq_true rfl) (c_X2_addMoment hi hq hc (by omega)) ?_
            refine sw_aload_0 X dX1_moveAmount_71 ?_
            refine sw_iload_1 X dX1_moveAmount_72 ?_
            refine sw_iload_2 X dX1_moveAmount_73 ?_
            refine sw_iload_4 X dX1_moveAmount_74 ?_
            refine sw_ineg X dX1_moveAmount_76 ?_
            refine sw_bipush X (-5) dX1_moveAmount_77 (by decide) ?_
            refine ca_X1_112 X hi (by decide) dX1_moveAmount_79 (Nat.le_of_ble_eq_true rfl) (c_X1_addToValue hi hq (m := mq + 1) (by rw [sT_at, aM_14]) (by omega) hka) ?_
            rw [sT_at]
            rw [sT_sT]
            refine sw_istore_7 X dX1_moveAmount_82 trivial ?_
            refine sw_iload_7 X dX1_moveAmount_84 ?_
            refine sw_if_lt X 100 dX1_moveAmount_86 (by decide) (fun h86 => ?_) (fun h86 => ?_)
            ·
              have e9 : mvT (bsT (M i) q mq) q (mq + 1) ka kb amt = _ := if_neg (Int32.not_le.mpr h86)
              refine sw_aload_0 X dX1_moveAmount_100 ?_
              refine sw_iload_1 X dX1_moveAmount_101 ?_
              refine sw_iload_7 X dX1_moveAmount_102 ?_
              refine ca_X1_97 X hi (by decide) dX1_moveAmount_104 (Nat.le_of_ble_eq_true rfl) (c_X1_endStatement hi hq (mq := mq) (by simp only [sT_at, avT_n, aM_14]) hmq) ?_
              exact sw_iret X Y dX1_moveAmount_107 (by rw [e9]) (by rw [e9]; simp only [sT_sT, sT_at])
            ·
              have e9 : mvT (bsT (M i) q mq) q (mq + 1) ka kb amt = _ := if_pos (Int32.not_lt.mp h86)
              refine sw_aload_0 X dX1_moveAmount_89 ?_
              refine sw_iload_1 X dX1_moveAmount_90 ?_
              refine sw_iload_3 X dX1_moveAmount_91 ?_
              refine sw_iload_4 X dX1_moveAmount_92 ?_
              refine sw_iconst X (nI 0) dX1_moveAmount_94 (by decide) ?_
              refine ca_X1_112 X hi (by decide) dX1_moveAmount_95 (Nat.le_of_ble_eq_true rfl) (c_X1_addToValue hi hq (m := mq + 1) (by rw [sT_at, avT_n, aM_14]) (by omega) hkb) ?_
              rw [sT_at]
              rw [sT_sT]
              refine sw_istore_7 X dX1_moveAmount_98 trivial ?_
              refine sw_aload_0 X dX1_moveAmount_100 ?_
              refine sw_iload_1 X dX1_moveAmount_101 ?_
              refine sw_iload_7 X dX1_moveAmount_102 ?_
              refine ca_X1_97 X hi (by decide) dX1_moveAmount_104 (Nat.le_of_ble_eq_true rfl) (c_X1_endStatement hi hq (mq := mq) (by simp only [sT_at, avT_n, aM_14]) hmq) ?_
              exact sw_iret X Y dX1_moveAmount_107 (by rw [e9]) (by rw [e9]; simp only [sT_sT, sT_at])
          ·
            exact absurd rfl h56
    ·
      refine sw_iload_2 X dX1_moveAmount_14 ?_
      refine sw_iload_3 X dX1_moveAmount_15 ?_
      refine sw_icmp_eq X 23 dX1_moveAmount_16 (by decide) (fun h16 => ?_) (fun h16 => ?_)
      ·
        refine sw_iconst X (nI 0) dX1_moveAmount_23 (by decide) ?_
        refine sw_tope (v2 := bI b) (by first | exact (bI_t (hB.mpr ⟨⟨h3, h11⟩, h16⟩)).symm | exact (bI_f (fun z => (hB.mp z).1.1 h3)).symm | exact (bI_f (fun z => (hB.mp z).1.2 h11)).symm | exact (bI_f (fun z => (hB.mp z).2 h16)).symm) ?_
        refine sw_istore_5 X dX1_moveAmount_24 trivial ?_
        refine sw_aload_0 X dX1_moveAmount_26 ?_
        refine sw_iload_1 X dX1_moveAmount_27 ?_
        refine sw_iload_2 X dX1_moveAmount_28 ?_
        refine ca_X1_90 X (by decide) dX1_moveAmount_29 (Nat.le_of_ble_eq_true rfl) c_X3_isKey ?_
        refine sw_ifB_eq X 46 dX1_moveAmount_32 (by decide) (fun h32 => ?_) (fun h32 => ?_)
        ·
          refine sw_iconst X (nI 0) dX1_moveAmount_46 (by decide) ?_
          refine sw_tope (v2 := bI a) (by first | exact (bI_t (hA.mpr ⟨h32, h39⟩)).symm | exact (bI_f (fun z => h32 (hA.mp z).1)).symm | exact (bI_f (fun z => h39 (hA.mp z).2)).symm) ?_
          refine sw_iload_5 X dX1_moveAmount_47 ?_
          refine ca_X1_58 X hi (by decide) dX1_moveAmount_49 (Nat.le_of_ble_eq_true rfl) hW ?_
          refine sw_istore_6 X dX1_moveAmount_52 trivial ?_
          refine sw_iload_6 X dX1_moveAmount_54 ?_
          refine sw_if_eq X 62 dX1_moveAmount_56 (by decide) (fun h56 => ?_) (fun h56 => ?_)
          ·
            refine sw_aload_0 X dX1_moveAmount_62 ?_
            refine gf_X1_17 X hi dX1_moveAmount_63 ?_
            refine sw_iload_1 X dX1_moveAmount_66 ?_
            refine sw_aaldT X hi rfl hq dX1_moveAmount_67 ?_
            refine ca_X1_55 X hi hq (by decide) dX1_moveAmount_68 (Nat.le_of_ble_eq_true rfl) (c_X2_addMoment hi hq hc (by omega)) ?_
            refine sw_aload_0 X dX1_moveAmount_71 ?_
            refine sw_iload_1 X dX1_moveAmount_72 ?_
            refine sw_iload_2 X dX1_moveAmount_73 ?_
            refine sw_iload_4 X dX1_moveAmount_74 ?_
            refine sw_ineg X dX1_moveAmount_76 ?_
            refine sw_bipush X (-5) dX1_moveAmount_77 (by decide) ?_
            refine ca_X1_112 X hi (by decide) dX1_moveAmount_79 (Nat.le_of_ble_eq_true rfl) (c_X1_addToValue hi hq (m := mq + 1) (by rw [sT_at, aM_14]) (by omega) hka) ?_
            rw [sT_at]
            rw [sT_sT]
            refine sw_istore_7 X dX1_moveAmount_82 trivial ?_
            refine sw_iload_7 X dX1_moveAmount_84 ?_
            refine sw_if_lt X 100 dX1_moveAmount_86 (by decide) (fun h86 => ?_) (fun h86 => ?_)
            ·
              have e9 : mvT (bsT (M i) q mq) q (mq + 1) ka kb amt = _ := if_neg (Int32.not_le.mpr h86)
              refine sw_aload_0 X dX1_moveAmount_100 ?_
              refine sw_iload_1 X dX1_moveAmount_101 ?_
              refine sw_iload_7 X dX1_moveAmount_102 ?_
              refine ca_X1_97 X hi (by decide) dX1_moveAmount_104 (Nat.le_of_ble_eq_true rfl) (c_X1_endStatement hi hq (mq := mq) (by simp only [sT_at, avT_n, aM_14]) hmq) ?_
              exact sw_iret X Y dX1_moveAmount_107 (by rw [e9]) (by rw [e9]; simp only [sT_sT, sT_at])
            ·
              have e9 : mvT (bsT (M i) q mq) q (mq + 1) ka kb amt = _ := if_pos (Int32.not_lt.mp h86)
              refine sw_aload_0 X dX1_moveAmount_89 ?_
              refine sw_iload_1 X dX1_moveAmount_90 ?_
              refine sw_iload_3 X dX1_moveAmount_91 ?_
              refine sw_iload_4 X dX1_moveAmount_92 ?_
              refine sw_iconst X (nI 0) dX1_moveAmount_94 (by decide) ?_
              refine ca_X1_112 X hi (by decide) dX1_moveAmount_95 (Nat.le_of_ble_eq_true rfl) (c_X1_addToValue hi hq (m := mq + 1) (by rw [sT_at, avT_n, aM_14]) (by omega) hkb) ?_
              rw [sT_at]
              rw [sT_sT]
              refine sw_istore_7 X dX1_moveAmount_98 trivial ?_
              refine sw_aload_0 X dX1_moveAmount_100 ?_
              refine sw_iload_1 X dX1_moveAmount_101 ?_
              refine sw_iload_7 X dX1_moveAmount_102 ?_
              refine ca_X1_97 X hi (by decide) dX1_moveAmount_104 (Nat.le_of_ble_eq_true rfl) (c_X1_endStatement hi hq (mq := mq) (by simp only [sT_at, avT_n, aM_14]) hmq) ?_
              exact sw_iret X Y dX1_moveAmount_107 (by rw [e9]) (by rw [e9]; simp only [sT_sT, sT_at])
          ·
            exact absurd rfl h56
        ·
          refine sw_iload_3 X dX1_moveAmount_35 ?_
          refine ca_X1_90 X (by decide) dX1_moveAmount_36 (Nat.le_of_ble_eq_true rfl) c_X3_isKey ?_
          refine sw_ifB_eq X 46 dX1_moveAmount_39 (by decide) (fun h39 => ?_) (fun h39 => ?_)
          ·
            refine sw_iconst X (nI 0) dX1_moveAmount_46 (by decide) ?_
            refine sw_tope (v2 := bI a) (by first | exact (bI_t (hA.mpr ⟨h32, h39⟩)).symm | exact (bI_f (fun z => h32 (hA.mp z).1)).symm | exact (bI_f (fun z => h39 (hA.mp z).2)).symm) ?_
            refine sw_iload_5 X dX1_moveAmount_47 ?_
            refine ca_X1_58 X hi (by decide) dX1_moveAmount_49 (Nat.le_of_ble_eq_true rfl) hW ?_
            refine sw_istore_6 X dX1_moveAmount_52 trivial ?_
            refine sw_iload_6 X dX1_moveAmount_54 ?_
            refine sw_if_eq X 62 dX1_moveAmount_56 (by decide) (fun h56 => ?_) (fun h56 => ?_)
            ·
              refine sw_aload_0 X dX1_moveAmount_62 ?_
              refine gf_X1_17 X hi dX1_moveAmount_63 ?_
              refine sw_iload_1 X dX1_moveAmount_66 ?_
              refine sw_aaldT X hi rfl hq dX1_moveAmount_67 ?_
              refine ca_X1_55 X hi hq (by decide) dX1_moveAmount_68 (Nat.le_of_ble_eq_true rfl) (c_X2_addMoment hi hq hc (by omega)) ?_
              refine sw_aload_0 X dX1_moveAmount_71 ?_
              refine sw_iload_1 X dX1_moveAmount_72 ?_
              refine sw_iload_2 X dX1_moveAmount_73 ?_
              refine sw_iload_4 X dX1_moveAmount_74 ?_
              refine sw_ineg X dX1_moveAmount_76 ?_
              refine sw_bipush X (-5) dX1_moveAmount_77 (by decide) ?_
              refine ca_X1_112 X hi (by decide) dX1_moveAmount_79 (Nat.le_of_ble_eq_true rfl) (c_X1_addToValue hi hq (m := mq + 1) (by rw [sT_at, aM_14]) (by omega) hka) ?_
              rw [sT_at]
              rw [sT_sT]
              refine sw_istore_7 X dX1_moveAmount_82 trivial ?_
              refine sw_iload_7 X dX1_moveAmount_84 ?_
              refine sw_if_lt X 100 dX1_moveAmount_86 (by decide) (fun h86 => ?_) (fun h86 => ?_)
              ·
                have e9 : mvT (bsT (M i) q mq) q (mq + 1) ka kb amt = _ := if_neg (Int32.not_le.mpr h86)
                refine sw_aload_0 X dX1_moveAmount_100 ?_
                refine sw_iload_1 X dX1_moveAmount_101 ?_
                refine sw_iload_7 X dX1_moveAmount_102 ?_
                refine ca_X1_97 X hi (by decide) dX1_moveAmount_104 (Nat.le_of_ble_eq_true rfl) (c_X1_endStatement hi hq (mq := mq) (by simp only [sT_at, avT_n, aM_14]) hmq) ?_
                exact sw_iret X Y dX1_moveAmount_107 (by rw [e9]) (by rw [e9]; simp only [sT_sT, sT_at])
              ·
                have e9 : mvT (bsT (M i) q mq) q (mq + 1) ka kb amt = _ := if_pos (Int32.not_lt.mp h86)
                refine sw_aload_0 X dX1_moveAmount_89 ?_
                refine sw_iload_1 X dX1_moveAmount_90 ?_
                refine sw_iload_3 X dX1_moveAmount_91 ?_
                refine sw_iload_4 X dX1_moveAmount_92 ?_
                refine sw_iconst X (nI 0) dX1_moveAmount_94 (by decide) ?_
                refine ca_X1_112 X hi (by decide) dX1_moveAmount_95 (Nat.le_of_ble_eq_true rfl) (c_X1_addToValue hi hq (m := mq + 1) (by rw [sT_at, avT_n, aM_14]) (by omega) hkb) ?_
                rw [sT_at]
                rw [sT_sT]
                refine sw_istore_7 X dX1_moveAmount_98 trivial ?_
                refine sw_aload_0 X dX1_moveAmount_100 ?_
                refine sw_iload_1 X dX1_moveAmount_101 ?_
                refine sw_iload_7 X dX1_moveAmount_102 ?_
                refine ca_X1_97 X hi (by decide) dX1_moveAmount_104 (Nat.le_of_ble_eq_true rfl) (c_X1_endStatement hi hq (mq := mq) (by simp only [sT_at, avT_n, aM_14]) hmq) ?_
                exact sw_iret X Y dX1_moveAmount_107 (by rw [e9]) (by rw [e9]; simp only [sT_sT, sT_at])
            ·
              exact absurd rfl h56
          ·
            refine sw_iconst X (nI 1) dX1_moveAmount_42 (by decide) ?_
            refine sw_goto X 47 dX1_moveAmount_43 (by decide) ?_
            refine sw_tope (v2 := bI a) (by first | exact (bI_t (hA.mpr ⟨h32, h39⟩)).symm | exact (bI_f (fun z => h32 (hA.mp z).1)).symm | exact (bI_f (fun z => h39 (hA.mp z).2)).symm) ?_
            refine sw_iload_5 X dX1_moveAmount_47 ?_
            refine ca_X1_58 X hi (by decide) dX1_moveAmount_49 (Nat.le_of_ble_eq_true rfl) hW ?_
            refine sw_istore_6 X dX1_moveAmount_52 trivial ?_
            refine sw_iload_6 X dX1_moveAmount_54 ?_
            refine sw_if_eq X 62 dX1_moveAmount_56 (by decide) (fun h56 => ?_) (fun h56 => ?_)
            ·
              refine sw_aload_0 X dX1_moveAmount_62 ?_
              refine gf_X1_17 X hi dX1_moveAmount_63 ?_
              refine sw_iload_1 X dX1_moveAmount_66 ?_
              refine sw_aaldT X hi rfl hq dX1_moveAmount_67 ?_
              refine ca_X1_55 X hi hq (by decide) dX1_moveAmount_68 (Nat.le_of_ble_eq_true rfl) (c_X2_addMoment hi hq hc (by omega)) ?_
              refine sw_aload_0 X dX1_moveAmount_71 ?_
              refine sw_iload_1 X dX1_moveAmount_72 ?_
              refine sw_iload_2 X dX1_moveAmount_73 ?_
              refine sw_iload_4 X dX1_moveAmount_74 ?_
              refine sw_ineg X dX1_moveAmount_76 ?_
              refine sw_bipush X (-5) dX1_moveAmount_77 (by decide) ?_
              refine ca_X1_112 X hi (by decide) dX1_moveAmount_79 (Nat.le_of_ble_eq_true rfl) (c_X1_addToValue hi hq (m := mq + 1) (by rw [sT_at, aM_14]) (by omega) hka) ?_
              rw [sT_at]
              rw [sT_sT]
              refine sw_istore_7 X dX1_moveAmount_82 trivial ?_
              refine sw_iload_7 X dX1_moveAmount_84 ?_
              refine sw_if_lt X 100 dX1_moveAmount_86 (by decide) (fun h86 => ?_) (fun h86 => ?_)
              ·
                have e9 : mvT (bsT (M i) q mq) q (mq + 1) ka kb amt = _ := if_neg (Int32.not_le.mpr h86)
                refine sw_aload_0 X dX1_moveAmount_100 ?_
                refine sw_iload_1 X dX1_moveAmount_101 ?_
                refine sw_iload_7 X dX1_moveAmount_102 ?_
                refine ca_X1_97 X hi (by decide) dX1_moveAmount_104 (Nat.le_of_ble_eq_true rfl) (c_X1_endStatement hi hq (mq := mq) (by simp only [sT_at, avT_n, aM_14]) hmq) ?_
                exact sw_iret X Y dX1_moveAmount_107 (by rw [e9]) (by rw [e9]; simp only [sT_sT, sT_at])
              ·
                have e9 : mvT (bsT (M i) q mq) q (mq + 1) ka kb amt = _ := if_pos (Int32.not_lt.mp h86)
                refine sw_aload_0 X dX1_moveAmount_89 ?_
                refine sw_iload_1 X dX1_moveAmount_90 ?_
                refine sw_iload_3 X dX1_moveAmount_91 ?_
                refine sw_iload_4 X dX1_moveAmount_92 ?_
                refine sw_iconst X (nI 0) dX1_moveAmount_94 (by decide) ?_
                refine ca_X1_112 X hi (by decide) dX1_moveAmount_95 (Nat.le_of_ble_eq_true rfl) (c_X1_addToValue hi hq (m := mq + 1) (by rw [sT_at, avT_n, aM_14]) (by omega) hkb) ?_
                rw [sT_at]
                rw [sT_sT]
                refine sw_istore_7 X dX1_moveAmount_98 trivial ?_
                refine sw_aload_0 X dX1_moveAmount_100 ?_
                refine sw_iload_1 X dX1_moveAmount_101 ?_
                refine sw_iload_7 X dX1_moveAmount_102 ?_
                refine ca_X1_97 X hi (by decide) dX1_moveAmount_104 (Nat.le_of_ble_eq_true rfl) (c_X1_endStatement hi hq (mq := mq) (by simp only [sT_at, avT_n, aM_14]) hmq) ?_
                exact sw_iret X Y dX1_moveAmount_107 (by rw [e9]) (by rw [e9]; simp only [sT_sT, sT_at])
            ·
              exact absurd rfl h56
      ·
        refine sw_iconst X (nI 1) dX1_moveAmount_19 (by decide) ?_
        refine sw_goto X 24 dX1_moveAmount_20 (by decide) ?_
        refine sw_tope (v2 := bI b) (by first | exact (bI_t (hB.mpr ⟨⟨h3, h11⟩, h16⟩)).symm | exact (bI_f (fun z => (hB.mp z).1.1 h3)).symm | exact (bI_f (fun z => (hB.mp z).1.2 h11)).symm | exact (bI_f (fun z => (hB.mp z).2 h16)).symm) ?_
        refine sw_istore_5 X dX1_moveAmount_24 trivial ?_
        refine sw_aload_0 X dX1_moveAmount_26 ?_
        refine sw_iload_1 X dX1_moveAmount_27 ?_
        refine sw_iload_2 X dX1_moveAmount_28 ?_
        refine ca_X1_90 X (by decide) dX1_moveAmount_29 (Nat.le_of_ble_eq_true rfl) c_X3_isKey ?_
        refine sw_ifB_eq X 46 dX1_moveAmount_32 (by decide) (fun h32 => ?_) (fun h32 => ?_)
        ·
          refine sw_iconst X (nI 0) dX1_moveAmount_46 (by decide) ?_
          refine sw_tope (v2 := bI a) (by first | exact (bI_t (hA.mpr ⟨h32, h39⟩)).symm | exact (bI_f (fun z => h32 (hA.mp z).1)).symm | exact (bI_f (fun z => h39 (hA.mp z).2)).symm) ?_
          refine sw_iload_5 X dX1_moveAmount_47 ?_
          refine ca_X1_58 X hi (by decide) dX1_moveAmount_49 (Nat.le_of_ble_eq_true rfl) hW ?_
          refine sw_istore_6 X dX1_moveAmount_52 trivial ?_
          refine sw_iload_6 X dX1_moveAmount_54 ?_
          refine sw_if_eq X 62 dX1_moveAmount_56 (by decide) (fun h56 => ?_) (fun h56 => ?_)
          ·
            refine sw_aload_0 X dX1_moveAmount_62 ?_
            refine gf_X1_17 X hi dX1_moveAmount_63 ?_
            refine sw_iload_1 X dX1_moveAmount_66 ?_
            refine sw_aaldT X hi rfl hq dX1_moveAmount_67 ?_
            refine ca_X1_55 X hi hq (by decide) dX1_moveAmount_68 (Nat.le_of_ble_eq_true rfl) (c_X2_addMoment hi hq hc (by omega)) ?_
            refine sw_aload_0 X dX1_moveAmount_71 ?_
            refine sw_iload_1 X dX1_moveAmount_72 ?_
            refine sw_iload_2 X dX1_moveAmount_73 ?_
            refine sw_iload_4 X dX1_moveAmount_74 ?_
            refine sw_ineg X dX1_moveAmount_76 ?_
            refine sw_bipush X (-5) dX1_moveAmount_77 (by decide) ?_
            refine ca_X1_112 X hi (by decide) dX1_moveAmount_79 (Nat.le_of_ble_eq_true rfl) (c_X1_addToValue hi hq (m := mq + 1) (by rw [sT_at, aM_14]) (by omega) hka) ?_
            rw [sT_at]
            rw [sT_sT]
            refine sw_istore_7 X dX1_moveAmount_82 trivial ?_
            refine sw_iload_7 X dX1_moveAmount_84 ?_
            refine sw_if_lt X 100 dX1_moveAmount_86 (by decide) (fun h86 => ?_) (fun h86 => ?_)
            ·
              have e9 : mvT (bsT (M i) q mq) q (mq + 1) ka kb amt = _ := if_neg (Int32.not_le.mpr h86)
              refine sw_aload_0 X dX1_moveAmount_100 ?_
              refine sw_iload_1 X dX1_moveAmount_101 ?_
              refine sw_iload_7 X dX1_moveAmount_102 ?_
              refine ca_X1_97 X hi (by decide) dX1_moveAmount_104 (Nat.le_of_ble_eq_true rfl) (c_X1_endStatement hi hq (mq := mq) (by simp only [sT_at, avT_n, aM_14]) hmq) ?_
              exact sw_iret X Y dX1_moveAmount_107 (by rw [e9]) (by rw [e9]; simp only [sT_sT, sT_at])
            ·
              have e9 : mvT (bsT (M i) q mq) q (mq + 1) ka kb amt = _ := if_pos (Int32.not_lt.mp h86)
              refine sw_aload_0 X dX1_moveAmount_89 ?_
              refine sw_iload_1 X dX1_moveAmount_90 ?_
              refine sw_iload_3 X dX1_moveAmount_91 ?_
              refine sw_iload_4 X dX1_moveAmount_92 ?_
              refine sw_iconst X (nI 0) dX1_moveAmount_94 (by decide) ?_
              refine ca_X1_112 X hi (by decide) dX1_moveAmount_95 (Nat.le_of_ble_eq_true rfl) (c_X1_addToValue hi hq (m := mq + 1) (by rw [sT_at, avT_n, aM_14]) (by omega) hkb) ?_
              rw [sT_at]
              rw [sT_sT]
              refine sw_istore_7 X dX1_moveAmount_98 trivial ?_
              refine sw_aload_0 X dX1_moveAmount_100 ?_
              refine sw_iload_1 X dX1_moveAmount_101 ?_
              refine sw_iload_7 X dX1_moveAmount_102 ?_
              refine ca_X1_97 X hi (by decide) dX1_moveAmount_104 (Nat.le_of_ble_eq_true rfl) (c_X1_endStatement hi hq (mq := mq) (by simp only [sT_at, avT_n, aM_14]) hmq) ?_
              exact sw_iret X Y dX1_moveAmount_107 (by rw [e9]) (by rw [e9]; simp only [sT_sT, sT_at])
          ·
            exact absurd rfl h56
        ·
          refine sw_iload_3 X dX1_moveAmount_35 ?_
          refine ca_X1_90 X (by decide) dX1_moveAmount_36 (Nat.le_of_ble_eq_true rfl) c_X3_isKey ?_
          refine sw_ifB_eq X 46 dX1_moveAmount_39 (by decide) (fun h39 => ?_) (fun h39 => ?_)
          ·
            refine sw_iconst X (nI 0) dX1_moveAmount_46 (by decide) ?_
            refine sw_tope (v2 := bI a) (by first | exact (bI_t (hA.mpr ⟨h32, h39⟩)).symm | exact (bI_f (fun z => h32 (hA.mp z).1)).symm | exact (bI_f (fun z => h39 (hA.mp z).2)).symm) ?_
            refine sw_iload_5 X dX1_moveAmount_47 ?_
            refine ca_X1_58 X hi (by decide) dX1_moveAmount_49 (Nat.le_of_ble_eq_true rfl) hW ?_
            refine sw_istore_6 X dX1_moveAmount_52 trivial ?_
            refine sw_iload_6 X dX1_moveAmount_54 ?_
            refine sw_if_eq X 62 dX1_moveAmount_56 (by decide) (fun h56 => ?_) (fun h56 => ?_)
            ·
              refine sw_aload_0 X dX1_moveAmount_62 ?_
              refine gf_X1_17 X hi dX1_moveAmount_63 ?_
              refine sw_iload_1 X dX1_moveAmount_66 ?_
              refine sw_aaldT X hi rfl hq dX1_moveAmount_67 ?_
              refine ca_X1_55 X hi hq (by decide) dX1_moveAmount_68 (Nat.le_of_ble_eq_true rfl) (c_X2_addMoment hi hq hc (by omega)) ?_
              refine sw_aload_0 X dX1_moveAmount_71 ?_
              refine sw_iload_1 X dX1_moveAmount_72 ?_
              refine sw_iload_2 X dX1_moveAmount_73 ?_
              refine sw_iload_4 X dX1_moveAmount_74 ?_
              refine sw_ineg X dX1_moveAmount_76 ?_
              refine sw_bipush X (-5) dX1_moveAmount_77 (by decide) ?_
              refine ca_X1_112 X hi (by decide) dX1_moveAmount_79 (Nat.le_of_ble_eq_true rfl) (c_X1_addToValue hi hq (m := mq + 1) (by rw [sT_at, aM_14]) (by omega) hka) ?_
              rw [sT_at]
              rw [sT_sT]
              refine sw_istore_7 X dX1_moveAmount_82 trivial ?_
              refine sw_iload_7 X dX1_moveAmount_84 ?_
              refine sw_if_lt X 100 dX1_moveAmount_86 (by decide) (fun h86 => ?_) (fun h86 => ?_)
              ·
                have e9 : mvT (bsT (M i) q mq) q (mq + 1) ka kb amt = _ := if_neg (Int32.not_le.mpr h86)
                refine sw_aload_0 X dX1_moveAmount_100 ?_
                refine sw_iload_1 X dX1_moveAmount_101 ?_
                refine sw_iload_7 X dX1_moveAmount_102 ?_
                refine ca_X1_97 X hi (by decide) dX1_moveAmount_104 (Nat.le_of_ble_eq_true rfl) (c_X1_endStatement hi hq (mq := mq) (by simp only [sT_at, avT_n, aM_14]) hmq) ?_
                exact sw_iret X Y dX1_moveAmount_107 (by rw [e9]) (by rw [e9]; simp only [sT_sT, sT_at])
              ·
                have e9 : mvT (bsT (M i) q mq) q (mq + 1) ka kb amt = _ := if_pos (Int32.not_lt.mp h86)
                refine sw_aload_0 X dX1_moveAmount_89 ?_
                refine sw_iload_1 X dX1_moveAmount_90 ?_
                refine sw_iload_3 X dX1_moveAmount_91 ?_
                refine sw_iload_4 X dX1_moveAmount_92 ?_
                refine sw_iconst X (nI 0) dX1_moveAmount_94 (by decide) ?_
                refine ca_X1_112 X hi (by decide) dX1_moveAmount_95 (Nat.le_of_ble_eq_true rfl) (c_X1_addToValue hi hq (m := mq + 1) (by rw [sT_at, avT_n, aM_14]) (by omega) hkb) ?_
                rw [sT_at]
                rw [sT_sT]
                refine sw_istore_7 X dX1_moveAmount_98 trivial ?_
                refine sw_aload_0 X dX1_moveAmount_100 ?_
                refine sw_iload_1 X dX1_moveAmount_101 ?_
                refine sw_iload_7 X dX1_moveAmount_102 ?_
                refine ca_X1_97 X hi (by decide) dX1_moveAmount_104 (Nat.le_of_ble_eq_true rfl) (c_X1_endStatement hi hq (mq := mq) (by simp only [sT_at, avT_n, aM_14]) hmq) ?_
                exact sw_iret X Y dX1_moveAmount_107 (by rw [e9]) (by rw [e9]; simp only [sT_sT, sT_at])
            ·
              exact absurd rfl h56
          ·
            refine sw_iconst X (nI 1) dX1_moveAmount_42 (by decide) ?_
            refine sw_goto X 47 dX1_moveAmount_43 (by decide) ?_
            refine sw_tope (v2 := bI a) (by first | exact (bI_t (hA.mpr ⟨h32, h39⟩)).symm | exact (bI_f (fun z => h32 (hA.mp z).1)).symm | exact (bI_f (fun z => h39 (hA.mp z).2)).symm) ?_
            refine sw_iload_5 X dX1_moveAmount_47 ?_
            refine ca_X1_58 X hi (by decide) dX1_moveAmount_49 (Nat.le_of_ble_eq_true rfl) hW ?_
            refine sw_istore_6 X dX1_moveAmount_52 trivial ?_
            refine sw_iload_6 X dX1_moveAmount_54 ?_
            refine sw_if_eq X 62 dX1_moveAmount_56 (by decide) (fun h56 => ?_) (fun h56 => ?_)
            ·
              refine sw_aload_0 X dX1_moveAmount_62 ?_
              refine gf_X1_17 X hi dX1_moveAmount_63 ?_
              refine sw_iload_1 X dX1_moveAmount_66 ?_
              refine sw_aaldT X hi rfl hq dX1_moveAmount_67 ?_
              refine ca_X1_55 X hi hq (by decide) dX1_moveAmount_68 (Nat.le_of_ble_eq_true rfl) (c_X2_addMoment hi hq hc (by omega)) ?_
              refine sw_aload_0 X dX1_moveAmount_71 ?_
              refine sw_iload_1 X dX1_moveAmount_72 ?_
              refine sw_iload_2 X dX1_moveAmount_73 ?_
              refine sw_iload_4 X dX1_moveAmount_74 ?_
              refine sw_ineg X dX1_moveAmount_76 ?_
              refine sw_bipush X (-5) dX1_moveAmount_77 (by decide) ?_
              refine ca_X1_112 X hi (by decide) dX1_moveAmount_79 (Nat.le_of_ble_eq_true rfl) (c_X1_addToValue hi hq (m := mq + 1) (by rw [sT_at, aM_14]) (by omega) hka) ?_
              rw [sT_at]
              rw [sT_sT]
              refine sw_istore_7 X dX1_moveAmount_82 trivial ?_
              refine sw_iload_7 X dX1_moveAmount_84 ?_
              refine sw_if_lt X 100 dX1_moveAmount_86 (by decide) (fun h86 => ?_) (fun h86 => ?_)
              ·
                have e9 : mvT (bsT (M i) q mq) q (mq + 1) ka kb amt = _ := if_neg (Int32.not_le.mpr h86)
                refine sw_aload_0 X dX1_moveAmount_100 ?_
                refine sw_iload_1 X dX1_moveAmount_101 ?_
                refine sw_iload_7 X dX1_moveAmount_102 ?_
                refine ca_X1_97 X hi (by decide) dX1_moveAmount_104 (Nat.le_of_ble_eq_true rfl) (c_X1_endStatement hi hq (mq := mq) (by simp only [sT_at, avT_n, aM_14]) hmq) ?_
                exact sw_iret X Y dX1_moveAmount_107 (by rw [e9]) (by rw [e9]; simp only [sT_sT, sT_at])
              ·
                have e9 : mvT (bsT (M i) q mq) q (mq + 1) ka kb amt = _ := if_pos (Int32.not_lt.mp h86)
                refine sw_aload_0 X dX1_moveAmount_89 ?_
                refine sw_iload_1 X dX1_moveAmount_90 ?_
                refine sw_iload_3 X dX1_moveAmount_91 ?_
                refine sw_iload_4 X dX1_moveAmount_92 ?_
                refine sw_iconst X (nI 0) dX1_moveAmount_94 (by decide) ?_
                refine ca_X1_112 X hi (by decide) dX1_moveAmount_95 (Nat.le_of_ble_eq_true rfl) (c_X1_addToValue hi hq (m := mq + 1) (by rw [sT_at, avT_n, aM_14]) (by omega) hkb) ?_
                rw [sT_at]
                rw [sT_sT]
                refine sw_istore_7 X dX1_moveAmount_98 trivial ?_
                refine sw_aload_0 X dX1_moveAmount_100 ?_
                refine sw_iload_1 X dX1_moveAmount_101 ?_
                refine sw_iload_7 X dX1_moveAmount_102 ?_
                refine ca_X1_97 X hi (by decide) dX1_moveAmount_104 (Nat.le_of_ble_eq_true rfl) (c_X1_endStatement hi hq (mq := mq) (by simp only [sT_at, avT_n, aM_14]) hmq) ?_
                exact sw_iret X Y dX1_moveAmount_107 (by rw [e9]) (by rw [e9]; simp only [sT_sT, sT_at])
            ·
              exact absurd rfl h56
