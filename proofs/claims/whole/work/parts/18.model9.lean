theorem neg_c : ((-1 : Int32) < 0 ∧ (-2 : Int32) < 0 ∧ (-3 : Int32) < 0 ∧ (-4 : Int32) < 0) ∧ ¬ nI 0 < 0 := by decide
theorem ge_c : ¬ (0 : Int32) ≤ -1 ∧ ¬ (0 : Int32) ≤ -2 ∧ ¬ (0 : Int32) ≤ -4 ∧ (0 : Int32) ≤ nI 0 := by decide

set_option maxHeartbeats 4000000 in
set_option maxRecDepth 100000 in
theorem c_X4_add {G : sv_G} {M : sv_Mem} {q k : Nat} {more b : Int32} (hq : q < 3) (hk : k < 16) : sv_Ct G M_X4_add 3 [.ref (sv_ad G 4 9 0), .int (nI q), .int (nI k), .int more, .int b] M (some (.int (adC (M 9 5 0) q k more b))) (mS (mN M (adN (M 9 5 0) (M 9 9 0) q k more b)) (adS (M 9 5 0) q k more b)) := by
  refine sv_Ct_of (lo := [some (.ref (sv_ad G 4 9 0)), some (.int (nI q)), some (.int (nI k)), some (.int more), some (.int b), none, none]) (pn_X4) rfl (Nat.le_of_ble_eq_true rfl) rfl (fun K X Y => ?_)
  replace X : sv_X G K cX4_add RX4 7 3 := X
  replace Y : sv_Y G K (some .int) _ _ := Y
  show sw_W G K 7 0 _ _ _
  refine sw_aload_0 X dX4_add_0 ?_
  refine sw_iload_1 X dX4_add_1 ?_
  refine sw_iload_2 X dX4_add_2 ?_
  refine sw_iconst X (nI 2) dX4_add_3 (by decide) ?_
  refine ca_X4_123 X (by decide) dX4_add_4 (Nat.le_of_ble_eq_true rfl) (c_X4_takes hq hk) ?_
  refine sw_ifB_ne X 13 dX4_add_7 (by decide) (fun h7 => ?_) (fun h7 => ?_)
  ·
    refine sw_mem (M2 := mS (mN M (takesN (M 9 5 0) (M 9 9 0) q k (nI 2))) (takesS (M 9 5 0) q k (nI 2))) (if_neg h7) ?_
    refine sw_aload_0 X dX4_add_13 ?_
    refine gf_X4_7 X dX4_add_14 ?_
    refine sw_bipush X (nI 8) dX4_add_17 (by decide) ?_
    refine sw_iload_2 X dX4_add_19 ?_
    refine sw_iadd X dX4_add_20 ?_
    try refine sw_tope (nI_add _ _) ?_
    refine ia_5 X rfl (by omega) dX4_add_21 ?_
    refine sw_tope (v2 := (M 9 5 0) (8 + k)) (by rw [mS_s, takesS_lo (by omega)]) ?_
    refine sw_istore_5 X dX4_add_22 trivial ?_
    refine sw_iload_5 X dX4_add_24 ?_
    refine sw_iconst X (-1) dX4_add_26 (by decide) ?_
    refine sw_icmp_ne X 34 dX4_add_27 (by decide) (fun h27 => ?_) (fun h27 => ?_)
    ·
      have hv : (if (M 9 5 0) (8 + k) = -1 then nI 0 else (M 9 5 0) (8 + k)) = (M 9 5 0) (8 + k) := if_neg h27
      refine sw_iload_5 X dX4_add_34 ?_
      refine sw_iload_3 X dX4_add_36 ?_
      refine sw_iadd X dX4_add_37 ?_
      try refine sw_tope (nI_add _ _) ?_
      refine sw_tope (v2 := adV (M 9 5 0) k more) (by unfold adV; rw [hv]) ?_
      refine sw_istore_6 X dX4_add_38 trivial ?_
      refine sw_iload_4 X dX4_add_40 ?_
      refine sw_if_eq X 51 dX4_add_42 (by decide) (fun h42 => ?_) (fun h42 => ?_)
      ·
        have hz : ¬ (¬ b = 0 ∧ (M 9 5 0) (8 + k) = -1) := fun z => z.1 h42
        refine sw_iload_6 X dX4_add_51 ?_
        refine sw_iconst X (nI 0) dX4_add_53 (by decide) ?_
        refine sw_sipush X (nI 9999) dX4_add_54 (by decide) ?_
        refine ca_X4_25 X (by decide) dX4_add_57 (Nat.le_of_ble_eq_true rfl) c_X4_in ?_
        refine sw_ifB_ne X 66 dX4_add_60 (by decide) (fun h60 => ?_) (fun h60 => ?_)
        ·
          have hf : ¬ ((¬ b = 0 ∧ M 9 5 0 (8 + k) = -1) ∨ ¬ inR (adV (M 9 5 0) k more) (nI 0) (nI 9999)) := not_or.mpr ⟨hz, fun z => z h60⟩
          refine sw_aload_0 X dX4_add_66 ?_
          refine sw_iload_2 X dX4_add_67 ?_
          refine sw_iload_6 X dX4_add_68 ?_
          refine ca_X4_126 X (by decide) dX4_add_70 (Nat.le_of_ble_eq_true rfl) (c_X4_change hk) ?_
          refine sw_iconst X (nI 0) dX4_add_73 (by decide) ?_
          exact sw_iret X Y dX4_add_74 (by unfold adC; rw [if_neg h7, if_neg hf]) (by unfold adN adS; rw [if_neg h7, if_neg h7, if_neg hf, if_neg hf]; simp only [up5, up9, mN_mS, mS_mS, mN_mN, mS_s, mN_n, mS_n, mN_s, mS_id, mN_id, rc_s, rc_n])
        ·
          have hf : ((¬ b = 0 ∧ M 9 5 0 (8 + k) = -1) ∨ ¬ inR (adV (M 9 5 0) k more) (nI 0) (nI 9999)) := Or.inr h60
          refine sw_bipush X (-7) dX4_add_63 (by decide) ?_
          exact sw_iret X Y dX4_add_65 (by unfold adC; rw [if_neg h7, if_pos hf]) (by unfold adN adS; rw [if_neg h7, if_neg h7, if_pos hf, if_pos hf])
      ·
        refine sw_iload_5 X dX4_add_45 ?_
        refine sw_iconst X (-1) dX4_add_47 (by decide) ?_
        refine sw_icmp_eq X 63 dX4_add_48 (by decide) (fun h48 => ?_) (fun h48 => ?_)
        ·
          have hf : ((¬ b = 0 ∧ M 9 5 0 (8 + k) = -1) ∨ ¬ inR (adV (M 9 5 0) k more) (nI 0) (nI 9999)) := Or.inl ⟨h42, h48⟩
          refine sw_bipush X (-7) dX4_add_63 (by decide) ?_
          exact sw_iret X Y dX4_add_65 (by unfold adC; rw [if_neg h7, if_pos hf]) (by unfold adN adS; rw [if_neg h7, if_neg h7, if_pos hf, if_pos hf])
        ·
          have hz : ¬ (¬ b = 0 ∧ (M 9 5 0) (8 + k) = -1) := fun z => h48 z.2
          refine sw_iload_6 X dX4_add_51 ?_
          refine sw_iconst X (nI 0) dX4_add_53 (by decide) ?_
          refine sw_sipush X (nI 9999) dX4_add_54 (by decide) ?_
          refine ca_X4_25 X (by decide) dX4_add_57 (Nat.le_of_ble_eq_true rfl) c_X4_in ?_
          refine sw_ifB_ne X 66 dX4_add_60 (by decide) (fun h60 => ?_) (fun h60 => ?_)
          ·
            have hf : ¬ ((¬ b = 0 ∧ M 9 5 0 (8 + k) = -1) ∨ ¬ inR (adV (M 9 5 0) k more) (nI 0) (nI 9999)) := not_or.mpr ⟨hz, fun z => z h60⟩
            refine sw_aload_0 X dX4_add_66 ?_
            refine sw_iload_2 X dX4_add_67 ?_
            refine sw_iload_6 X dX4_add_68 ?_
            refine ca_X4_126 X (by decide) dX4_add_70 (Nat.le_of_ble_eq_true rfl) (c_X4_change hk) ?_
            refine sw_iconst X (nI 0) dX4_add_73 (by decide) ?_
            exact sw_iret X Y dX4_add_74 (by unfold adC; rw [if_neg h7, if_neg hf]) (by unfold adN adS; rw [if_neg h7, if_neg h7, if_neg hf, if_neg hf]; simp only [up5, up9, mN_mS, mS_mS, mN_mN, mS_s, mN_n, mS_n, mN_s, mS_id, mN_id, rc_s, rc_n])
          ·
            have hf : ((¬ b = 0 ∧ M 9 5 0 (8 + k) = -1) ∨ ¬ inR (adV (M 9 5 0) k more) (nI 0) (nI 9999)) := Or.inr h60
            refine sw_bipush X (-7) dX4_add_63 (by decide) ?_
            exact sw_iret X Y dX4_add_65 (by unfold adC; rw [if_neg h7, if_pos hf]) (by unfold adN adS; rw [if_neg h7, if_neg h7, if_pos hf, if_pos hf])
    ·
      have hv : (if (M 9 5 0) (8 + k) = -1 then nI 0 else (M 9 5 0) (8 + k)) = nI 0 := if_pos h27
      refine sw_iconst X (nI 0) dX4_add_30 (by decide) ?_
      refine sw_goto X 36 dX4_add_31 (by decide) ?_
      refine sw_iload_3 X dX4_add_36 ?_
      refine sw_iadd X dX4_add_37 ?_
      try refine sw_tope (nI_add _ _) ?_
      refine sw_tope (v2 := adV (M 9 5 0) k more) (by unfold adV; rw [hv]) ?_
      refine sw_istore_6 X dX4_add_38 trivial ?_
      refine sw_iload_4 X dX4_add_40 ?_
      refine sw_if_eq X 51 dX4_add_42 (by decide) (fun h42 => ?_) (fun h42 => ?_)
      ·
        have hz : ¬ (¬ b = 0 ∧ (M 9 5 0) (8 + k) = -1) := fun z => z.1 h42
        refine sw_iload_6 X dX4_add_51 ?_
        refine sw_iconst X (nI 0) dX4_add_53 (by decide) ?_
        refine sw_sipush X (nI 9999) dX4_add_54 (by decide) ?_
        refine ca_X4_25 X (by decide) dX4_add_57 (Nat.le_of_ble_eq_true rfl) c_X4_in ?_
        refine sw_ifB_ne X 66 dX4_add_60 (by decide) (fun h60 => ?_) (fun h60 => ?_)
        ·
          have hf : ¬ ((¬ b = 0 ∧ M 9 5 0 (8 + k) = -1) ∨ ¬ inR (adV (M 9 5 0) k more) (nI 0) (nI 9999)) := not_or.mpr ⟨hz, fun z => z h60⟩
          refine sw_aload_0 X dX4_add_66 ?_
          refine sw_iload_2 X dX4_add_67 ?_
          refine sw_iload_6 X dX4_add_68 ?_
          refine ca_X4_126 X (by decide) dX4_add_70 (Nat.le_of_ble_eq_true rfl) (c_X4_change hk) ?_
          refine sw_iconst X (nI 0) dX4_add_73 (by decide) ?_
          exact sw_iret X Y dX4_add_74 (by unfold adC; rw [if_neg h7, if_neg hf]) (by unfold adN adS; rw [if_neg h7, if_neg h7, if_neg hf, if_neg hf]; simp only [up5, up9, mN_mS, mS_mS, mN_mN, mS_s, mN_n, mS_n, mN_s, mS_id, mN_id, rc_s, rc_n])
        ·
          have hf : ((¬ b = 0 ∧ M 9 5 0 (8 + k) = -1) ∨ ¬ inR (adV (M 9 5 0) k more) (nI 0) (nI 9999)) := Or.inr h60
          refine sw_bipush X (-7) dX4_add_63 (by decide) ?_
          exact sw_iret X Y dX4_add_65 (by unfold adC; rw [if_neg h7, if_pos hf]) (by unfold adN adS; rw [if_neg h7, if_neg h7, if_pos hf, if_pos hf])
      ·
        refine sw_iload_5 X dX4_add_45 ?_
        refine sw_iconst X (-1) dX4_add_47 (by decide) ?_
        refine sw_icmp_eq X 63 dX4_add_48 (by decide) (fun h48 => ?_) (fun h48 => ?_)
        ·
          have hf : ((¬ b = 0 ∧ M 9 5 0 (8 + k) = -1) ∨ ¬ inR (adV (M 9 5 0) k more) (nI 0) (nI 9999)) := Or.inl ⟨h42, h48⟩
          refine sw_bipush X (-7) dX4_add_63 (by decide) ?_
          exact sw_iret X Y dX4_add_65 (by unfold adC; rw [if_neg h7, if_pos hf]) (by unfold adN adS; rw [if_neg h7, if_neg h7, if_pos hf, if_pos hf])
        ·
          have hz : ¬ (¬ b = 0 ∧ (M 9 5 0) (8 + k) = -1) := fun z => h48 z.2
          refine sw_iload_6 X dX4_add_51 ?_
          refine sw_iconst X (nI 0) dX4_add_53 (by decide) ?_
          refine sw_sipush X (nI 9999) dX4_add_54 (by decide) ?_
          refine ca_X4_25 X (by decide) dX4_add_57 (Nat.le_of_ble_eq_true rfl) c_X4_in ?_
          refine sw_ifB_ne X 66 dX4_add_60 (by decide) (fun h60 => ?_) (fun h60 => ?_)
          ·
            have hf : ¬ ((¬ b = 0 ∧ M 9 5 0 (8 + k) = -1) ∨ ¬ inR (adV (M 9 5 0) k more) (nI 0) (nI 9999)) := not_or.mpr ⟨hz, fun z => z h60⟩
            refine sw_aload_0 X dX4_add_66 ?_
            refine sw_iload_2 X dX4_add_67 ?_
            refine sw_iload_6 X dX4_add_68 ?_
            refine ca_X4_126 X (by decide) dX4_add_70 (Nat.le_of_ble_eq_true rfl) (c_X4_change hk) ?_
            refine sw_iconst X (nI 0) dX4_add_73 (by decide) ?_
            exact sw_iret X Y dX4_add_74 (by unfold adC; rw [if_neg h7, if_neg hf]) (by unfold adN adS; rw [if_neg h7, if_neg h7, if_neg hf, if_neg hf]; simp only [up5, up9, mN_mS, mS_mS, mN_mN, mS_s, mN_n, mS_n, mN_s, mS_id, mN_id, rc_s, rc_n])
          ·
            have hf : ((¬ b = 0 ∧ M 9 5 0 (8 + k) = -1) ∨ ¬ inR (adV (M 9 5 0) k more) (nI 0) (nI 9999)) := Or.inr h60
            refine sw_bipush X (-7) dX4_add_63 (by decide) ?_
            exact sw_iret X Y dX4_add_65 (by unfold adC; rw [if_neg h7, if_pos hf]) (by unfold adN adS; rw [if_neg h7, if_neg h7, if_pos hf, if_pos hf])
  ·
    replace h7 : busyR (M 9 5 0) q k (nI 2) := Decidable.of_not_not h7
    refine sw_mem (M2 := M) (if_pos h7) ?_
    refine sw_bipush X (-6) dX4_add_10 (by decide) ?_
    exact sw_iret X Y dX4_add_12 (by unfold adC; rw [if_pos h7]) (by unfold adN adS; rw [if_pos h7, if_pos h7]; simp only [up5, up9, mN_mS, mS_mS, mN_mN, mS_s, mN_n, mS_n, mN_s, mS_id, mN_id, rc_s, rc_n])
set_option maxHeartbeats 4000000 in
set_option maxRecDepth 100000 in
theorem c_X4_keyError {G : sv_G} {M : sv_Mem} {q k : Nat} (hq : q < 3) (hk : k < 16) : sv_Ct G M_X4_keyError 3 [.ref (sv_ad G 4 9 0), .int (nI q), .int (nI k)] M (some (.int (if (M 9 5 0) (24 + q) = nI 1 then nI 0 else -4))) (M) := by
  refine sv_Ct_of (lo := [some (.ref (sv_ad G 4 9 0)), some (.int (nI q)), some (.int (nI k))]) (pn_X4) rfl (Nat.le_of_ble_eq_true rfl) rfl (fun K X Y => ?_)
  replace X : sv_X G K cX4_keyError RX4 3 3 := X
  replace Y : sv_Y G K (some .int) _ _ := Y
  show sw_W G K 3 0 _ _ _
  refine sw_iload_2 X dX4_keyError_0 ?_
  refine ca_X4_129 X (by decide) dX4_keyError_1 (Nat.le_of_ble_eq_true rfl) c_X4_isKey ?_
  refine sw_ifB_ne X 11 dX4_keyError_4 (by decide) (fun h4 => ?_) (fun h4 => ?_)
  ·
    refine sw_aload_0 X dX4_keyError_11 ?_
    refine sw_iload_1 X dX4_keyError_12 ?_
    refine ca_X4_93 X (by decide) dX4_keyError_13 (Nat.le_of_ble_eq_true rfl) (c_X4_openError hq) ?_
    exact sw_iret X Y dX4_keyError_16 (rfl) (rfl)
  ·
    exact absurd (inR_lt (by omega) (by omega)) h4
set_option maxHeartbeats 4000000 in
set_option maxRecDepth 100000 in
theorem c_X4_keyError_x {G : sv_G} {M : sv_Mem} {v kv : Int32} (h : ¬ inR v (nI 0) (nI 2) ∨ ¬ inR kv (nI 0) (nI 15)) : sv_Ct G M_X4_keyError 3 [.ref (sv_ad G 4 9 0), .int v, .int kv] M (some (.int (-1))) (M) := by
  refine sv_Ct_of (lo := [some (.ref (sv_ad G 4 9 0)), some (.int v), some (.int kv)]) (pn_X4) rfl (Nat.le_of_ble_eq_true rfl) rfl (fun K X Y => ?_)
  replace X : sv_X G K cX4_keyError RX4 3 3 := X
  replace Y : sv_Y G K (some .int) _ _ := Y
  show sw_W G K 3 0 _ _ _
  refine sw_iload_2 X dX4_keyError_0 ?_
  refine ca_X4_129 X (by decide) dX4_keyError_1 (Nat.le_of_ble_eq_true rfl) c_X4_isKey ?_
  refine sw_ifB_ne X 11 dX4_keyError_4 (by decide) (fun h4 => ?_) (fun h4 => ?_)
  ·
    refine sw_aload_0 X dX4_keyError_11 ?_
    refine sw_iload_1 X dX4_keyError_12 ?_
    refine ca_X4_93 X (by decide) dX4_keyError_13 (Nat.le_of_ble_eq_true rfl) (c_X4_openError_x (h.resolve_right (fun z => z h4))) ?_
    exact sw_iret X Y dX4_keyError_16 (rfl) (rfl)
  ·
    refine sw_iconst X (-1) dX4_keyError_7 (by decide) ?_
    refine sw_goto X 16 dX4_keyError_8 (by decide) ?_
    exact sw_iret X Y dX4_keyError_16 (rfl) (rfl)
set_option maxHeartbeats 4000000 in
set_option maxRecDepth 100000 in
theorem c_X4_writeError {G : sv_G} {M : sv_Mem} {q k : Nat} {v : Int32} (hq : q < 3) (hk : k < 16) : sv_Ct G M_X4_writeError 3 [.ref (sv_ad G 4 9 0), .int (nI q), .int (nI k), .int v] M (some (.int (if inR v (nI 0) (nI 9999) then (if (M 9 5 0) (24 + q) = nI 1 then nI 0 else -4) else -2))) (M) := by
  refine sv_Ct_of (lo := [some (.ref (sv_ad G 4 9 0)), some (.int (nI q)), some (.int (nI k)), some (.int v)]) (pn_X4) rfl (Nat.le_of_ble_eq_true rfl) rfl (fun K X Y => ?_)
  replace X : sv_X G K cX4_writeError RX4 4 3 := X
  replace Y : sv_Y G K (some .int) _ _ := Y
  show sw_W G K 4 0 _ _ _
  refine sw_iload_1 X dX4_writeError_0 ?_
  refine ca_X4_68 X (by decide) dX4_writeError_1 (Nat.le_of_ble_eq_true rfl) c_X4_isSession ?_
  refine sw_ifB_eq X 14 dX4_writeError_4 (by decide) (fun h4 => ?_) (fun h4 => ?_)
  ·
    exact absurd (inR_lt (by omega) (by omega)) h4
  ·
    refine sw_iload_2 X dX4_writeError_7 ?_
    refine ca_X4_129 X (by decide) dX4_writeError_8 (Nat.le_of_ble_eq_true rfl) c_X4_isKey ?_
    refine sw_ifB_ne X 18 dX4_writeError_11 (by decide) (fun h11 => ?_) (fun h11 => ?_)
    ·
      refine sw_iload_3 X dX4_writeError_18 ?_
      refine sw_iconst X (nI 0) dX4_writeError_19 (by decide) ?_
      refine sw_sipush X (nI 9999) dX4_writeError_20 (by decide) ?_
      refine ca_X4_25 X (by decide) dX4_writeError_23 (Nat.le_of_ble_eq_true rfl) c_X4_in ?_
      refine sw_ifB_ne X 34 dX4_writeError_26 (by decide) (fun h26 => ?_) (fun h26 => ?_)
      ·
        refine sw_aload_0 X dX4_writeError_34 ?_
        refine sw_iload_1 X dX4_writeError_35 ?_
        refine ca_X4_93 X (by decide) dX4_writeError_36 (Nat.le_of_ble_eq_true rfl) (c_X4_openError hq) ?_
        exact sw_iret X Y dX4_writeError_39 (by first | rw [if_pos h26] | rw [if_neg h26]) (rfl)
      ·
        refine sw_bipush X (-2) dX4_writeError_29 (by decide) ?_
        refine sw_goto X 39 dX4_writeError_31 (by decide) ?_
        exact sw_iret X Y dX4_writeError_39 (by first | rw [if_pos h26] | rw [if_neg h26]) (rfl)
    ·
      exact absurd (inR_lt (by omega) (by omega)) h11
set_option maxHeartbeats 4000000 in
set_option maxRecDepth 100000 in
theorem c_X4_writeError_x {G : sv_G} {M : sv_Mem} {v kv w : Int32} (h : ¬ inR v (nI 0) (nI 2) ∨ ¬ inR kv (nI 0) (nI 15)) : sv_Ct G M_X4_writeError 3 [.ref (sv_ad G 4 9 0), .int v, .int kv, .int w] M (some (.int (-1))) (M) := by
  refine sv_Ct_of (lo := [some (.ref (sv_ad G 4 9 0)), some (.int v), some (.int kv), some (.int w)]) (pn_X4) rfl (Nat.le_of_ble_eq_true rfl) rfl (fun K X Y => ?_)
  replace X : sv_X G K cX4_writeError RX4 4 3 := X
  replace Y : sv_Y G K (some .int) _ _ := Y
  show sw_W G K 4 0 _ _ _
  refine sw_iload_1 X dX4_writeError_0 ?_
  refine ca_X4_68 X (by decide) dX4_writeError_1 (Nat.le_of_ble_eq_true rfl) c_X4_isSession ?_
  refine sw_ifB_eq X 14 dX4_writeError_4 (by decide) (fun h4 => ?_) (fun h4 => ?_)
  ·
    refine sw_iconst X (-1) dX4_writeError_14 (by decide) ?_
    refine sw_goto X 39 dX4_writeError_15 (by decide) ?_
    exact sw_iret X Y dX4_writeError_39 (rfl) (rfl)
  ·
    refine sw_iload_2 X dX4_writeError_7 ?_
    refine ca_X4_129 X (by decide) dX4_writeError_8 (Nat.le_of_ble_eq_true rfl) c_X4_isKey ?_
    refine sw_ifB_ne X 18 dX4_writeError_11 (by decide) (fun h11 => ?_) (fun h11 => ?_)
    ·
      exact absurd h (by intro z; rcases z with z | z; exact z h4; exact z h11)
    ·
      refine sw_iconst X (-1) dX4_writeError_14 (by decide) ?_
      refine sw_goto X 39 dX4_writeError_15 (by decide) ?_
      exact sw_iret X Y dX4_writeError_39 (rfl) (rfl)
set_option maxHeartbeats 4000000 in
set_option maxRecDepth 100000 in
theorem c_X4_doRead {G : sv_G} {M : sv_Mem} {q k mq : Nat} (hq : q < 3) (hk : k < 16) (hmq : M 9 5 0 (27 + q) = nI mq) (hmq2 : mq ≤ 12) : sv_Ct G M_X4_doRead 3 [.ref (sv_ad G 4 9 0), .int (nI q), .int (nI k)] M (some (.int (if busyR (M 9 5 0) q k (nI 1) then -6 else outs ((M 9 5 0) (8 + k))))) (mS (mN M (drN (M 9 5 0) (fg1 (M 9 9 0) 0) q k)) (drS (M 9 5 0) (fg1 (M 9 9 0) 0) q k mq)) := by
  refine sv_Ct_of (lo := [some (.ref (sv_ad G 4 9 0)), some (.int (nI q)), some (.int (nI k))]) (pn_X4) rfl (Nat.le_of_ble_eq_true rfl) rfl (fun K X Y => ?_)
  replace X : sv_X G K cX4_doRead RX4 3 3 := X
  replace Y : sv_Y G K (some .int) _ _ := Y
  show sw_W G K 3 0 _ _ _
  refine sw_aload_0 X dX4_doRead_0 ?_
  refine ca_X4_132 X (by decide) dX4_doRead_1 (Nat.le_of_ble_eq_true rfl) c_X4_beginStatement ?_
  refine sw_aload_0 X dX4_doRead_4 ?_
  refine sw_iload_1 X dX4_doRead_5 ?_
  refine sw_iload_2 X dX4_doRead_6 ?_
  refine sw_iconst X (nI 1) dX4_doRead_7 (by decide) ?_
  refine ca_X4_123 X (by decide) dX4_doRead_8 (Nat.le_of_ble_eq_true rfl) (c_X4_takes hq hk) ?_
  refine sw_ifB_eq X 34 dX4_doRead_11 (by decide) (fun h11 => ?_) (fun h11 => ?_)
  ·
    replace h11 := Decidable.of_not_not h11
    rw [mN_s] at h11
    refine sw_mem (M2 := mN M (fg1 (M 9 9 0) 0)) (if_pos (by rw [mN_s]; exact h11)) ?_
    have hr : (if busyR (M 9 5 0) q k (nI 1) then -6 else outs (M 9 5 0 (8 + k))) = -6 := if_pos h11
    have hm1 : drN (M 9 5 0) (fg1 (M 9 9 0) 0) q k = _ := if_pos h11
    have hm2 : drS (M 9 5 0) (fg1 (M 9 9 0) 0) q k mq = _ := if_pos h11
    refine sw_aload_0 X dX4_doRead_34 ?_
    refine sw_iload_1 X dX4_doRead_35 ?_
    refine sw_bipush X (-6) dX4_doRead_36 (by decide) ?_
    refine ca_X4_141 X (by decide) dX4_doRead_38 (Nat.le_of_ble_eq_true rfl) (c_X4_endBadly hq (by rw [mN_s]; exact hmq) hmq2) ?_
    exact sw_iret X Y dX4_doRead_41 (ri_of hr) (by rw [hm1, hm2]; simp only [up5, up9, mN_mS, mS_mS, mN_mN, mS_s, mN_n, mS_n, mN_s, mS_id, mN_id, rc_s, rc_n])
  ·
    rw [mN_s] at h11
    refine sw_mem (M2 := mS (mN M (takesN (M 9 5 0) (fg1 (M 9 9 0) 0) q k (nI 1))) (takesS (M 9 5 0) q k (nI 1))) (by rw [if_neg (by rw [mN_s]; exact h11)]; simp only [mN_s, mN_n, mN_mN]) ?_
    refine sw_aload_0 X dX4_doRead_14 ?_
    refine sw_iload_1 X dX4_doRead_15 ?_
    refine sw_aload_0 X dX4_doRead_16 ?_
    refine gf_X4_7 X dX4_doRead_17 ?_
    refine sw_bipush X (nI 8) dX4_doRead_20 (by decide) ?_
    refine sw_iload_2 X dX4_doRead_22 ?_
    refine sw_iadd X dX4_doRead_23 ?_
    try refine sw_tope (nI_add _ _) ?_
    refine ia_5 X rfl (by omega) dX4_doRead_24 ?_
    refine sw_tope (v2 := (M 9 5 0) (8 + k)) (by rw [mS_s, takesS_lo (by omega)]) ?_
    refine ca_X4_135 X (by decide) dX4_doRead_25 (Nat.le_of_ble_eq_true rfl) c_X4_outside ?_
    refine ca_X4_138 X (by decide) dX4_doRead_28 (Nat.le_of_ble_eq_true rfl) (c_X4_endWell hq (by rw [mS_s, takesS_lo (by omega)]; exact hmq) hmq2) ?_
    have hr : (if busyR (M 9 5 0) q k (nI 1) then -6 else outs (M 9 5 0 (8 + k))) = outs (M 9 5 0 (8 + k)) := if_neg h11
    have hm1 : drN (M 9 5 0) (fg1 (M 9 9 0) 0) q k = _ := if_neg h11
    have hm2 : drS (M 9 5 0) (fg1 (M 9 9 0) 0) q k mq = _ := if_neg h11
    refine sw_goto X 41 dX4_doRead_31 (by decide) ?_
    exact sw_iret X Y dX4_doRead_41 (ri_of hr) (by rw [hm1, hm2]; simp only [up5, up9, mN_mS, mS_mS, mN_mN, mS_s, mN_n, mS_n, mN_s, mS_id, mN_id, rc_s, rc_n])
set_option maxHeartbeats 4000000 in
set_option maxRecDepth 100000 in
theorem c_X4_doWrite {G : sv_G} {M : sv_Mem} {q k mq : Nat} {v : Int32} (hq : q < 3) (hk : k < 16) (hmq : M 9 5 0 (27 + q) = nI mq) (hmq2 : mq ≤ 12) : sv_Ct G M_X4_doWrite 3 [.ref (sv_ad G 4 9 0), .int (nI q), .int (nI k), .int v] M (some (.int (if busyR (M 9 5 0) q k (nI 2) then -6 else outs ((M 9 5 0) (8 + k))))) (mS (mN M (dwN (M 9 5 0) (fg1 (M 9 9 0) 0) q k)) (dwS (M 9 5 0) (fg1 (M 9 9 0) 0) q k mq v)) := by
  refine sv_Ct_of (lo := [some (.ref (sv_ad G 4 9 0)), some (.int (nI q)), some (.int (nI k)), some (.int v), none]) (pn_X4) rfl (Nat.le_of_ble_eq_true rfl) rfl (fun K X Y => ?_)
  replace X : sv_X G K cX4_doWrite RX4 5 3 := X
  replace Y : sv_Y G K (some .int) _ _ := Y
  show sw_W G K 5 0 _ _ _
  refine sw_aload_0 X dX4_doWrite_0 ?_
  refine ca_X4_132 X (by decide) dX4_doWrite_1 (Nat.le_of_ble_eq_true rfl) c_X4_beginStatement ?_
  refine sw_aload_0 X dX4_doWrite_4 ?_
  refine sw_iload_1 X dX4_doWrite_5 ?_
  refine sw_iload_2 X dX4_doWrite_6 ?_
  refine sw_iconst X (nI 2) dX4_doWrite_7 (by decide) ?_
  refine ca_X4_123 X (by decide) dX4_doWrite_8 (Nat.le_of_ble_eq_true rfl) (c_X4_takes hq hk) ?_
  refine sw_ifB_ne X 22 dX4_doWrite_11 (by decide) (fun h11 => ?_) (fun h11 => ?_)
  ·
    rw [mN_s] at h11
    refine sw_mem (M2 := mS (mN M (takesN (M 9 5 0) (fg1 (M 9 9 0) 0) q k (nI 2))) (takesS (M 9 5 0) q k (nI 2))) (by rw [if_neg (by rw [mN_s]; exact h11)]; simp only [mN_s, mN_n, mN_mN]) ?_
    refine sw_aload_0 X dX4_doWrite_22 ?_
    refine gf_X4_7 X dX4_doWrite_23 ?_
    refine sw_bipush X (nI 8) dX4_doWrite_26 (by decide) ?_
    refine sw_iload_2 X dX4_doWrite_28 ?_
    refine sw_iadd X dX4_doWrite_29 ?_
    try refine sw_tope (nI_add _ _) ?_
    refine ia_5 X rfl (by omega) dX4_doWrite_30 ?_
    refine sw_tope (v2 := (M 9 5 0) (8 + k)) (by rw [mS_s, takesS_lo (by omega)]) ?_
    refine sw_istore_4 X dX4_doWrite_31 trivial ?_
    refine sw_aload_0 X dX4_doWrite_33 ?_
    refine sw_iload_2 X dX4_doWrite_34 ?_
    refine sw_iload_3 X dX4_doWrite_35 ?_
    refine ca_X4_126 X (by decide) dX4_doWrite_36 (Nat.le_of_ble_eq_true rfl) (c_X4_change hk) ?_
    simp only [mS_s, mS_n, mN_n, mN_mS, mN_mN, mS_mS]
    refine sw_aload_0 X dX4_doWrite_39 ?_
    refine sw_iload_1 X dX4_doWrite_40 ?_
    refine sw_iload_4 X dX4_doWrite_41 ?_
    refine ca_X4_135 X (by decide) dX4_doWrite_43 (Nat.le_of_ble_eq_true rfl) c_X4_outside ?_
    refine ca_X4_138 X (by decide) dX4_doWrite_46 (Nat.le_of_ble_eq_true rfl) (c_X4_endWell hq (by unfold chgS; rw [mS_s, va_up_ne _ _ (by omega), takesS_lo (by omega)]; exact hmq) hmq2) ?_
    exact sw_iret X Y dX4_doWrite_49 (by rw [if_neg h11]) (by unfold dwN dwS; rw [if_neg h11, if_neg h11]; simp only [up5, up9, mN_mS, mS_mS, mN_mN, mS_s, mN_n, mS_n, mN_s, mS_id, mN_id, rc_s, rc_n])
  ·
    replace h11 := Decidable.of_not_not h11
    rw [mN_s] at h11
    refine sw_mem (M2 := mN M (fg1 (M 9 9 0) 0)) (if_pos (by rw [mN_s]; exact h11)) ?_
    refine sw_aload_0 X dX4_doWrite_14 ?_
    refine sw_iload_1 X dX4_doWrite_15 ?_
    refine sw_bipush X (-6) dX4_doWrite_16 (by decide) ?_
    refine ca_X4_141 X (by decide) dX4_doWrite_18 (Nat.le_of_ble_eq_true rfl) (c_X4_endBadly hq (by rw [mN_s]; exact hmq) hmq2) ?_
    exact sw_iret X Y dX4_doWrite_21 (by rw [if_pos h11]) (by unfold dwN dwS; rw [if_pos h11, if_pos h11]; simp only [up5, up9, mN_mS, mS_mS, mN_mN, mS_s, mN_n, mS_n, mN_s, mS_id, mN_id, rc_s, rc_n])
set_option maxHeartbeats 4000000 in
set_option maxRecDepth 100000 in
theorem c_X4_keep {G : sv_G} {M : sv_Mem} {b : Prop} [Decidable b] {t : Nat} (hkp : M 9 4 0 2 = nI t) (ht : t ≤ 5) : sv_Ct G M_X4_keep 1 [.ref (sv_ad G 4 9 0), .int (bI b)] M (some (.int ((M 9 5 0) 0))) (mS (rcM M t) (va_up (M 9 5 0) 0 (bI b))) := by
  refine sv_Ct_of (lo := [some (.ref (sv_ad G 4 9 0)), some (.int (bI b)), none]) (pn_X4) rfl (Nat.le_of_ble_eq_true rfl) rfl (fun K X Y => ?_)
  replace X : sv_X G K cX4_keep RX4 3 1 := X
  replace Y : sv_Y G K (some .int) _ _ := Y
  show sw_W G K 3 0 _ _ _
  refine sw_aload_0 X dX4_keep_0 ?_
  refine ca_X4_65 X (by decide) dX4_keep_1 (Nat.le_of_ble_eq_true rfl) (c_X4_record hkp ht) ?_
  refine sw_aload_0 X dX4_keep_4 ?_
  refine gf_X4_7 X dX4_keep_5 ?_
  refine sw_iconst X (nI 0) dX4_keep_8 (by decide) ?_
  refine ia_5 X rfl (by omega) dX4_keep_9 ?_
  rw [rc_s]
  refine sw_istore_2 X dX4_keep_10 trivial ?_
  refine sw_aload_0 X dX4_keep_11 ?_
  refine gf_X4_7 X dX4_keep_12 ?_
  refine sw_iconst X (nI 0) dX4_keep_15 (by decide) ?_
  refine sw_iload_1 X dX4_keep_16 ?_
  refine sw_ifB_eq X 24 dX4_keep_17 (by decide) (fun h17 => ?_) (fun h17 => ?_)
  ·
    refine sw_iconst X (nI 0) dX4_keep_24 (by decide) ?_
    refine is_5 X rfl (by omega) dX4_keep_25 ?_
    refine sw_iload_2 X dX4_keep_26 ?_
    exact sw_iret X Y dX4_keep_27 (rfl) (by simp only [up5, up9, mN_mS, mS_mS, mN_mN, mS_s, mN_n, mS_n, mN_s, mS_id, mN_id, rc_s, rc_n]; first | rw [bI_t h17] | rw [bI_f h17])
  ·
    refine sw_iconst X (nI 1) dX4_keep_20 (by decide) ?_
    refine sw_goto X 25 dX4_keep_21 (by decide) ?_
    refine is_5 X rfl (by omega) dX4_keep_25 ?_
    refine sw_iload_2 X dX4_keep_26 ?_
    exact sw_iret X Y dX4_keep_27 (rfl) (by simp only [up5, up9, mN_mS, mS_mS, mN_mN, mS_s, mN_n, mS_n, mN_s, mS_id, mN_id, rc_s, rc_n]; first | rw [bI_t h17] | rw [bI_f h17])
set_option maxHeartbeats 4000000 in
set_option maxRecDepth 100000 in
theorem c_X4_begin_y {G : sv_G} {M : sv_Mem} {q t : Nat}  (hq : q < 3) (ho : ¬ M 9 5 0 (24 + q) = nI 1) (hkp : M 9 4 0 2 = nI t) (ht : t ≤ 5) : sv_Ct G M_X4_begin 3 [.ref (sv_ad G 4 9 0), .int (nI q)] M (some (.int (bgF (M 9 5 0) q 24 + bgF (M 9 5 0) q 25 + bgF (M 9 5 0) q 26))) (mS (rcM M t) (bgF (M 9 5 0) q)) := by
  refine sv_Ct_of (lo := [some (.ref (sv_ad G 4 9 0)), some (.int (nI q)), none]) (pn_X4) rfl (Nat.le_of_ble_eq_true rfl) rfl (fun K X Y => ?_)
  replace X : sv_X G K cX4_begin RX4 3 3 := X
  replace Y : sv_Y G K (some .int) _ _ := Y
  show sw_W G K 3 0 _ _ _
  refine sw_aload_0 X dX4_begin_0 ?_
  refine sw_iload_1 X dX4_begin_1 ?_
  refine ca_X4_86 X (by decide) dX4_begin_2 (Nat.le_of_ble_eq_true rfl) (c_X4_beginError hq) ?_
  refine sw_tope (v2 := nI 0) (by first | rw [if_pos ho] | rw [if_neg ho]) ?_
  refine sw_istore_2 X dX4_begin_5 trivial ?_
  refine sw_iload_2 X dX4_begin_6 ?_
  refine sw_if_ge X 12 dX4_begin_7 (by decide) (fun h7 => ?_) (fun h7 => ?_)
  ·
    refine sw_aload_0 X dX4_begin_12 ?_
    refine ca_X4_65 X (by decide) dX4_begin_13 (Nat.le_of_ble_eq_true rfl) (c_X4_record hkp ht) ?_
    refine sw_aload_0 X dX4_begin_16 ?_
    refine sw_iload_1 X dX4_begin_17 ?_
    refine ca_X4_90 X (by decide) dX4_begin_18 (Nat.le_of_ble_eq_true rfl) (c_X4_doBegin hq) ?_
    exact sw_iret X Y dX4_begin_21 (by simp only [rc_s]) (by simp only [rc_s])
  ·
    exact absurd ge_c.2.2.2 h7
set_option maxHeartbeats 4000000 in
set_option maxRecDepth 100000 in
theorem c_X4_begin_n {G : sv_G} {M : sv_Mem} {q : Nat} (hq : q < 3) (ho : M 9 5 0 (24 + q) = nI 1) : sv_Ct G M_X4_begin 3 [.ref (sv_ad G 4 9 0), .int (nI q)] M (some (.int (-4))) (M) := by
  refine sv_Ct_of (lo := [some (.ref (sv_ad G 4 9 0)), some (.int (nI q)), none]) (pn_X4) rfl (Nat.le_of_ble_eq_true rfl) rfl (fun K X Y => ?_)
  replace X : sv_X G K cX4_begin RX4 3 3 := X
  replace Y : sv_Y G K (some .int) _ _ := Y
  show sw_W G K 3 0 _ _ _
  refine sw_aload_0 X dX4_begin_0 ?_
  refine sw_iload_1 X dX4_begin_1 ?_
  refine ca_X4_86 X (by decide) dX4_begin_2 (Nat.le_of_ble_eq_true rfl) (c_X4_beginError hq) ?_
  refine sw_tope (v2 := -4) (by first | rw [if_pos ho] | rw [if_neg ho]) ?_
  refine sw_istore_2 X dX4_begin_5 trivial ?_
  refine sw_iload_2 X dX4_begin_6 ?_
  refine sw_if_ge X 12 dX4_begin_7 (by decide) (fun h7 => ?_) (fun h7 => ?_)
  ·
    exact absurd h7 ge_c.2.2.1
  ·
    refine sw_iload_2 X dX4_begin_10 ?_
    exact sw_iret X Y dX4_begin_11 (rfl) (rfl)
set_option maxHeartbeats 4000000 in
set_option maxRecDepth 100000 in
theorem c_X4_begin_x {G : sv_G} {M : sv_Mem} {v : Int32} (hv : ¬ inR v (nI 0) (nI 2)) : sv_Ct G M_X4_begin 3 [.ref (sv_ad G 4 9 0), .int v] M (some (.int (-1))) (M) := by
  refine sv_Ct_of (lo := [some (.ref (sv_ad G 4 9 0)), some (.int v), none]) (pn_X4) rfl (Nat.le_of_ble_eq_true rfl) rfl (fun K X Y => ?_)
  replace X : sv_X G K cX4_begin RX4 3 3 := X
  replace Y : sv_Y G K (some .int) _ _ := Y
  show sw_W G K 3 0 _ _ _
  refine sw_aload_0 X dX4_begin_0 ?_
  refine sw_iload_1 X dX4_begin_1 ?_
  refine ca_X4_86 X (by decide) dX4_begin_2 (Nat.le_of_ble_eq_true rfl) (c_X4_beginError_x hv) ?_
  refine sw_istore_2 X dX4_begin_5 trivial ?_
  refine sw_iload_2 X dX4_begin_6 ?_
  refine sw_if_ge X 12 dX4_begin_7 (by decide) (fun h7 => ?_) (fun h7 => ?_)
  ·
    exact absurd h7 ge_c.1
  ·
    refine sw_iload_2 X dX4_begin_10 ?_
    exact sw_iret X Y dX4_begin_11 (rfl) (rfl)
set_option maxHeartbeats 4000000 in
set_option maxRecDepth 100000 in
theorem c_X4_commit_y {G : sv_G} {M : sv_Mem} {q t : Nat} {mq : Nat} (hmq : M 9 5 0 (27 + q) = nI mq) (hmq2 : mq ≤ 12) (hq : q < 3) (ho : M 9 5 0 (24 + q) = nI 1) (hkp : M 9 4 0 2 = nI t) (ht : t ≤ 5) : sv_Ct G M_X4_commit 4 [.ref (sv_ad G 4 9 0), .int (nI q)] M (some (.int (nI (othR (M 9 5 0) q 0 mq)))) (mS (rcM M t) (cmF (M 9 5 0) q mq)) := by
  refine sv_Ct_of (lo := [some (.ref (sv_ad G 4 9 0)), some (.int (nI q)), none]) (pn_X4) rfl (Nat.le_of_ble_eq_true rfl) rfl (fun K X Y => ?_)
  replace X : sv_X G K cX4_commit RX4 3 4 := X
  replace Y : sv_Y G K (some .int) _ _ := Y
  show sw_W G K 3 0 _ _ _
  refine sw_aload_0 X dX4_commit_0 ?_
  refine sw_iload_1 X dX4_commit_1 ?_
  refine ca_X4_93 X (by decide) dX4_commit_2 (Nat.le_of_ble_eq_true rfl) (c_X4_openError hq) ?_
  refine sw_tope (v2 := nI 0) (by first | rw [if_pos ho] | rw [if_neg ho]) ?_
  refine sw_istore_2 X dX4_commit_5 trivial ?_
  refine sw_iload_2 X dX4_commit_6 ?_
  refine sw_if_ge X 12 dX4_commit_7 (by decide) (fun h7 => ?_) (fun h7 => ?_)
  ·
    refine sw_aload_0 X dX4_commit_12 ?_
    refine ca_X4_65 X (by decide) dX4_commit_13 (Nat.le_of_ble_eq_true rfl) (c_X4_record hkp ht) ?_
    refine sw_aload_0 X dX4_commit_16 ?_
    refine sw_iload_1 X dX4_commit_17 ?_
    refine ca_X4_96 X (by decide) dX4_commit_18 (Nat.le_of_ble_eq_true rfl) (c_X4_doCommit hq (by rw [rc_s]; exact hmq) hmq2) ?_
    exact sw_iret X Y dX4_commit_21 (by simp only [rc_s]) (by simp only [rc_s])
  ·
    exact absurd ge_c.2.2.2 h7
set_option maxHeartbeats 4000000 in
set_option maxRecDepth 100000 in
theorem c_X4_commit_n {G : sv_G} {M : sv_Mem} {q : Nat} (hq : q < 3) (ho : ¬ M 9 5 0 (24 + q) = nI 1) : sv_Ct G M_X4_commit 4 [.ref (sv_ad G 4 9 0), .int (nI q)] M (some (.int (-4))) (M) := by
  refine sv_Ct_of (lo := [some (.ref (sv_ad G 4 9 0)), some (.int (nI q)), none]) (pn_X4) rfl (Nat.le_of_ble_eq_true rfl) rfl (fun K X Y => ?_)
  replace X : sv_X G K cX4_commit RX4 3 4 := X
  replace Y : sv_Y G K (some .int) _ _ := Y
  show sw_W G K 3 0 _ _ _
  refine sw_aload_0 X dX4_commit_0 ?_
  refine sw_iload_1 X dX4_commit_1 ?_
  refine ca_X4_93 X (by decide) dX4_commit_2 (Nat.le_of_ble_eq_true rfl) (c_X4_openError hq) ?_
  refine sw_tope (v2 := -4) (by first | rw [if_pos ho] | rw [if_neg ho]) ?_
  refine sw_istore_2 X dX4_commit_5 trivial ?_
  refine sw_iload_2 X dX4_commit_6 ?_
  refine sw_if_ge X 12 dX4_commit_7 (by decide) (fun h7 => ?_) (fun h7 => ?_)
  ·
    exact absurd h7 ge_c.2.2.1
  ·
    refine sw_iload_2 X dX4_commit_10 ?_
    exact sw_iret X Y dX4_commit_11 (rfl) (rfl)
set_option maxHeartbeats 4000000 in
set_option maxRecDepth 100000 in
theorem c_X4_commit_x {G : sv_G} {M : sv_Mem} {v : Int32} (hv : ¬ inR v (nI 0) (nI 2)) : sv_Ct G M_X4_commit 4 [.ref (sv_ad G 4 9 0), .int v] M (some (.int (-1))) (M) := by
  refine sv_Ct_of (lo := [some (.ref (sv_ad G 4 9 0)), some (.int v), none]) (pn_X4) rfl (Nat.le_of_ble_eq_true rfl) rfl (fun K X Y => ?_)
  replace X : sv_X G K cX4_commit RX4 3 4 := X
  replace Y : sv_Y G K (some .int) _ _ := Y
  show sw_W G K 3 0 _ _ _
  refine sw_aload_0 X dX4_commit_0 ?_
  refine sw_iload_1 X dX4_commit_1 ?_
  refine ca_X4_93 X (by decide) dX4_commit_2 (Nat.le_of_ble_eq_true rfl) (c_X4_openError_x hv) ?_
  refine sw_istore_2 X dX4_commit_5 trivial ?_
  refine sw_iload_2 X dX4_commit_6 ?_
  refine sw_if_ge X 12 dX4_commit_7 (by decide) (fun h7 => ?_) (fun h7 => ?_)
  ·
    exact absurd h7 ge_c.1
  ·
    refine sw_iload_2 X dX4_commit_10 ?_
    exact sw_iret X Y dX4_commit_11 (rfl) (rfl)
set_option maxHeartbeats 4000000 in
set_option maxRecDepth 100000 in
theorem c_X4_rollback_y {G : sv_G} {M : sv_Mem} {q t : Nat} {mq : Nat} (hmq : M 9 5 0 (27 + q) = nI mq) (hmq2 : mq ≤ 12) (hq : q < 3) (ho : M 9 5 0 (24 + q) = nI 1) (hkp : M 9 4 0 2 = nI t) (ht : t ≤ 5) : sv_Ct G M_X4_rollback 4 [.ref (sv_ad G 4 9 0), .int (nI q)] M (some (.int (nI (othR (M 9 5 0) q 0 mq)))) (mS (rcM M t) (rbF (M 9 5 0) q mq)) := by
  refine sv_Ct_of (lo := [some (.ref (sv_ad G 4 9 0)), some (.int (nI q)), none]) (pn_X4) rfl (Nat.le_of_ble_eq_true rfl) rfl (fun K X Y => ?_)
  replace X : sv_X G K cX4_rollback RX4 3 4 := X
  replace Y : sv_Y G K (some .int) _ _ := Y
  show sw_W G K 3 0 _ _ _
  refine sw_aload_0 X dX4_rollback_0 ?_
  refine sw_iload_1 X dX4_rollback_1 ?_
  refine ca_X4_93 X (by decide) dX4_rollback_2 (Nat.le_of_ble_eq_true rfl) (c_X4_openError hq) ?_
  refine sw_tope (v2 := nI 0) (by first | rw [if_pos ho] | rw [if_neg ho]) ?_
  refine sw_istore_2 X dX4_rollback_5 trivial ?_
  refine sw_iload_2 X dX4_rollback_6 ?_
  refine sw_if_ge X 12 dX4_rollback_7 (by decide) (fun h7 => ?_) (fun h7 => ?_)
  ·
    refine sw_aload_0 X dX4_rollback_12 ?_
    refine ca_X4_65 X (by decide) dX4_rollback_13 (Nat.le_of_ble_eq_true rfl) (c_X4_record hkp ht) ?_
    refine sw_aload_0 X dX4_rollback_16 ?_
    refine sw_iload_1 X dX4_rollback_17 ?_
    refine ca_X4_99 X (by decide) dX4_rollback_18 (Nat.le_of_ble_eq_true rfl) (c_X4_doRollback hq (by rw [rc_s]; exact hmq) hmq2) ?_
    exact sw_iret X Y dX4_rollback_21 (by simp only [rc_s]) (by simp only [rc_s])
  ·
    exact absurd ge_c.2.2.2 h7
set_option maxHeartbeats 4000000 in
set_option maxRecDepth 100000 in
theorem c_X4_rollback_n {G : sv_G} {M : sv_Mem} {q : Nat} (hq : q < 3) (ho : ¬ M 9 5 0 (24 + q) = nI 1) : sv_Ct G M_X4_rollback 4 [.ref (sv_ad G 4 9 0), .int (nI q)] M (some (.int (-4))) (M) := by
  refine sv_Ct_of (lo := [some (.ref (sv_ad G 4 9 0)), some (.int (nI q)), none]) (pn_X4) rfl (Nat.le_of_ble_eq_true rfl) rfl (fun K X Y => ?_)
  replace X : sv_X G K cX4_rollback RX4 3 4 := X
  replace Y : sv_Y G K (some .int) _ _ := Y
  show sw_W G K 3 0 _ _ _
  refine sw_aload_0 X dX4_rollback_0 ?_
  refine sw_iload_1 X dX4_rollback_1 ?_
  refine ca_X4_93 X (by decide) dX4_rollback_2 (Nat.le_of_ble_eq_true rfl) (c_X4_openError hq) ?_
  refine sw_tope (v2 := -4) (by first | rw [if_pos ho] | rw [if_neg ho]) ?_
  refine sw_istore_2 X dX4_rollback_5 trivial ?_
  refine sw_iload_2 X dX4_rollback_6 ?_
  refine sw_if_ge X 12 dX4_rollback_7 (by decide) (fun h7 => ?_) (fun h7 => ?_)
  ·
    exact absurd h7 ge_c.2.2.1
  ·
    refine sw_iload_2 X dX4_rollback_10 ?_
    exact sw_iret X Y dX4_rollback_11 (rfl) (rfl)
set_option maxHeartbeats 4000000 in
set_option maxRecDepth 100000 in
theorem c_X4_rollback_x {G : sv_G} {M : sv_Mem} {v : Int32} (hv : ¬ inR v (nI 0) (nI 2)) : sv_Ct G M_X4_rollback 4 [.ref (sv_ad G 4 9 0), .int v] M (some (.int (-1))) (M) := by
  refine sv_Ct_of (lo := [some (.ref (sv_ad G 4 9 0)), some (.int v), none]) (pn_X4) rfl (Nat.le_of_ble_eq_true rfl) rfl (fun K X Y => ?_)
  replace X : sv_X G K cX4_rollback RX4 3 4 := X
  replace Y : sv_Y G K (some .int) _ _ := Y
  show sw_W G K 3 0 _ _ _
  refine sw_aload_0 X dX4_rollback_0 ?_
  refine sw_iload_1 X dX4_rollback_1 ?_
  refine ca_X4_93 X (by decide) dX4_rollback_2 (Nat.le_of_ble_eq_true rfl) (c_X4_openError_x hv) ?_
  refine sw_istore_2 X dX4_rollback_5 trivial ?_
  refine sw_iload_2 X dX4_rollback_6 ?_
  refine sw_if_ge X 12 dX4_rollback_7 (by decide) (fun h7 => ?_) (fun h7 => ?_)
  ·
    exact absurd h7 ge_c.1
  ·
    refine sw_iload_2 X dX4_rollback_10 ?_
    exact sw_iret X Y dX4_rollback_11 (rfl) (rfl)
set_option maxHeartbeats 4000000 in
set_option maxRecDepth 100000 in
theorem c_X4_savepoint_y {G : sv_G} {M : sv_Mem} {q t mq : Nat} {nm : Int32} (hmq : M 9 5 0 (27 + q) = nI mq) (hmq2 : mq ≤ 12) (hq : q < 3) (hE : spE (M 9 5 0) q nm = nI 0) (hmq3 : mq ≠ 12) (hkp : M 9 4 0 2 = nI t) (ht : t ≤ 5) : sv_Ct G M_X4_savepoint 3 [.ref (sv_ad G 4 9 0), .int (nI q), .int nm] M (some (.int (nI mq))) (mS (rcM M t) (spF (M 9 5 0) q mq nm)) := by
  refine sv_Ct_of (lo := [some (.ref (sv_ad G 4 9 0)), some (.int (nI q)), some (.int nm), none]) (pn_X4) rfl (Nat.le_of_ble_eq_true rfl) rfl (fun K X Y => ?_)
  replace X : sv_X G K cX4_savepoint RX4 4 3 := X
  replace Y : sv_Y G K (some .int) _ _ := Y
  show sw_W G K 4 0 _ _ _
  refine sw_aload_0 X dX4_savepoint_0 ?_
  refine sw_iload_1 X dX4_savepoint_1 ?_
  refine sw_iload_2 X dX4_savepoint_2 ?_
  refine ca_X4_108 X (by decide) dX4_savepoint_3 (Nat.le_of_ble_eq_true rfl) (c_X4_savepointError hq) ?_
  refine sw_tope hE ?_
  refine sw_istore_3 X dX4_savepoint_6 trivial ?_
  refine sw_iload_3 X dX4_savepoint_7 ?_
  refine sw_if_ge X 13 dX4_savepoint_8 (by decide) (fun h8 => ?_) (fun h8 => ?_)
  ·
    refine sw_aload_0 X dX4_savepoint_13 ?_
    refine ca_X4_65 X (by decide) dX4_savepoint_14 (Nat.le_of_ble_eq_true rfl) (c_X4_record hkp ht) ?_
    refine sw_aload_0 X dX4_savepoint_17 ?_
    refine sw_iload_1 X dX4_savepoint_18 ?_
    refine sw_iload_2 X dX4_savepoint_19 ?_
    refine ca_X4_111 X (by decide) dX4_savepoint_20 (Nat.le_of_ble_eq_true rfl) (c_X4_doSavepoint hq (by rw [rc_s]; exact hmq) hmq2 hmq3) ?_
    exact sw_iret X Y dX4_savepoint_23 (by simp only [rc_s]) (by simp only [rc_s])
  ·
    exact absurd ge_c.2.2.2 h8
set_option maxHeartbeats 4000000 in
set_option maxRecDepth 100000 in
theorem c_X4_savepoint_n {G : sv_G} {M : sv_Mem} {q mq : Nat} {nm : Int32} (hmq : M 9 5 0 (27 + q) = nI mq) (hmq2 : mq ≤ 12) (hq : q < 3) (hE : spE (M 9 5 0) q nm < 0) : sv_Ct G M_X4_savepoint 3 [.ref (sv_ad G 4 9 0), .int (nI q), .int nm] M (some (.int (spE (M 9 5 0) q nm))) (M) := by
  refine sv_Ct_of (lo := [some (.ref (sv_ad G 4 9 0)), some (.int (nI q)), some (.int nm), none]) (pn_X4) rfl (Nat.le_of_ble_eq_true rfl) rfl (fun K X Y => ?_)
  replace X : sv_X G K cX4_savepoint RX4 4 3 := X
  replace Y : sv_Y G K (some .int) _ _ := Y
  show sw_W G K 4 0 _ _ _
  refine sw_aload_0 X dX4_savepoint_0 ?_
  refine sw_iload_1 X dX4_savepoint_1 ?_
  refine sw_iload_2 X dX4_savepoint_2 ?_
  refine ca_X4_108 X (by decide) dX4_savepoint_3 (Nat.le_of_ble_eq_true rfl) (c_X4_savepointError hq) ?_
  refine sw_istore_3 X dX4_savepoint_6 trivial ?_
  refine sw_iload_3 X dX4_savepoint_7 ?_
  refine sw_if_ge X 13 dX4_savepoint_8 (by decide) (fun h8 => ?_) (fun h8 => ?_)
  ·
    exact absurd hE (Int32.not_lt.mpr h8)
  ·
    refine sw_iload_3 X dX4_savepoint_11 ?_
    exact sw_iret X Y dX4_savepoint_12 (rfl) (rfl)
set_option maxHeartbeats 4000000 in
set_option maxRecDepth 100000 in
theorem c_X4_savepoint_x {G : sv_G} {M : sv_Mem} {v nm : Int32} (hv : ¬ inR v (nI 0) (nI 2)) : sv_Ct G M_X4_savepoint 3 [.ref (sv_ad G 4 9 0), .int v, .int nm] M (some (.int (-1))) (M) := by
  refine sv_Ct_of (lo := [some (.ref (sv_ad G 4 9 0)), some (.int v), some (.int nm), none]) (pn_X4) rfl (Nat.le_of_ble_eq_true rfl) rfl (fun K X Y => ?_)
  replace X : sv_X G K cX4_savepoint RX4 4 3 := X
  replace Y : sv_Y G K (some .int) _ _ := Y
  show sw_W G K 4 0 _ _ _
  refine sw_aload_0 X dX4_savepoint_0 ?_
  refine sw_iload_1 X dX4_savepoint_1 ?_
  refine sw_iload_2 X dX4_savepoint_2 ?_
  refine ca_X4_108 X (by decide) dX4_savepoint_3 (Nat.le_of_ble_eq_true rfl) (c_X4_savepointError_x hv) ?_
  refine sw_istore_3 X dX4_savepoint_6 trivial ?_
  refine sw_iload_3 X dX4_savepoint_7 ?_
  refine sw_if_ge X 13 dX4_savepoint_8 (by decide) (fun h8 => ?_) (fun h8 => ?_)
  ·
    exact absurd h8 ge_c.1
  ·
    refine sw_iload_3 X dX4_savepoint_11 ?_
    exact sw_iret X Y dX4_savepoint_12 (rfl) (rfl)
set_option maxHeartbeats 4000000 in
set_option maxRecDepth 100000 in
theorem c_X4_undoTo_y {G : sv_G} {M : sv_Mem} {q t mq : Nat} {nm : Int32} (hmq : M 9 5 0 (27 + q) = nI mq) (hmq2 : mq ≤ 12) (hq : q < 3) (hE : nmE (M 9 5 0) q nm mq = nI 0) {p : Nat} (hp : nmR (M 9 5 0) q nm mq = nI p) (hp2 : p < mq) (hkp : M 9 4 0 2 = nI t) (ht : t ≤ 5) : sv_Ct G M_X4_undoTo 4 [.ref (sv_ad G 4 9 0), .int (nI q), .int nm] M (some (.int (nI (othR (M 9 5 0) q (p + 1) mq)))) (mS (rcM M t) (utF (M 9 5 0) q (p + 1) mq)) := by
  refine sv_Ct_of (lo := [some (.ref (sv_ad G 4 9 0)), some (.int (nI q)), some (.int nm), none]) (pn_X4) rfl (Nat.le_of_ble_eq_true rfl) rfl (fun K X Y => ?_)
  replace X : sv_X G K cX4_undoTo RX4 4 4 := X
  replace Y : sv_Y G K (some .int) _ _ := Y
  show sw_W G K 4 0 _ _ _
  refine sw_aload_0 X dX4_undoTo_0 ?_
  refine sw_iload_1 X dX4_undoTo_1 ?_
  refine sw_iload_2 X dX4_undoTo_2 ?_
  refine ca_X4_114 X (by decide) dX4_undoTo_3 (Nat.le_of_ble_eq_true rfl) (c_X4_nameError hq hmq hmq2) ?_
  refine sw_tope hE ?_
  refine sw_istore_3 X dX4_undoTo_6 trivial ?_
  refine sw_iload_3 X dX4_undoTo_7 ?_
  refine sw_if_ge X 13 dX4_undoTo_8 (by decide) (fun h8 => ?_) (fun h8 => ?_)
  ·
    refine sw_aload_0 X dX4_undoTo_13 ?_
    refine ca_X4_65 X (by decide) dX4_undoTo_14 (Nat.le_of_ble_eq_true rfl) (c_X4_record hkp ht) ?_
    refine sw_aload_0 X dX4_undoTo_17 ?_
    refine sw_iload_1 X dX4_undoTo_18 ?_
    refine sw_iload_2 X dX4_undoTo_19 ?_
    refine ca_X4_117 X (by decide) dX4_undoTo_20 (Nat.le_of_ble_eq_true rfl) (c_X4_doUndoTo hq (by rw [rc_s]; exact hmq) hmq2 (by rw [rc_s]; exact hp) hp2) ?_
    exact sw_iret X Y dX4_undoTo_23 (by simp only [rc_s]) (by simp only [rc_s])
  ·
    exact absurd ge_c.2.2.2 h8
set_option maxHeartbeats 4000000 in
set_option maxRecDepth 100000 in
theorem c_X4_undoTo_n {G : sv_G} {M : sv_Mem} {q mq : Nat} {nm : Int32} (hmq : M 9 5 0 (27 + q) = nI mq) (hmq2 : mq ≤ 12) (hq : q < 3) (hE : nmE (M 9 5 0) q nm mq < 0) : sv_Ct G M_X4_undoTo 4 [.ref (sv_ad G 4 9 0), .int (nI q), .int nm] M (some (.int (nmE (M 9 5 0) q nm mq))) (M) := by
  refine sv_Ct_of (lo := [some (.ref (sv_ad G 4 9 0)), some (.int (nI q)), some (.int nm), none]) (pn_X4) rfl (Nat.le_of_ble_eq_true rfl) rfl (fun K X Y => ?_)
  replace X : sv_X G K cX4_undoTo RX4 4 4 := X
  replace Y : sv_Y G K (some .int) _ _ := Y
  show sw_W G K 4 0 _ _ _
  refine sw_aload_0 X dX4_undoTo_0 ?_
  refine sw_iload_1 X dX4_undoTo_1 ?_
  refine sw_iload_2 X dX4_undoTo_2 ?_
  refine ca_X4_114 X (by decide) dX4_undoTo_3 (Nat.le_of_ble_eq_true rfl) (c_X4_nameError hq hmq hmq2) ?_
  refine sw_istore_3 X dX4_undoTo_6 trivial ?_
  refine sw_iload_3 X dX4_undoTo_7 ?_
  refine sw_if_ge X 13 dX4_undoTo_8 (by decide) (fun h8 => ?_) (fun h8 => ?_)
  ·
    exact absurd hE (Int32.not_lt.mpr h8)
  ·
    refine sw_iload_3 X dX4_undoTo_11 ?_
    exact sw_iret X Y dX4_undoTo_12 (rfl) (rfl)
set_option maxHeartbeats 4000000 in
set_option maxRecDepth 100000 in
theorem c_X4_undoTo_x {G : sv_G} {M : sv_Mem} {v nm : Int32} (hv : ¬ inR v (nI 0) (nI 2)) : sv_Ct G M_X4_undoTo 4 [.ref (sv_ad G 4 9 0), .int v, .int nm] M (some (.int (-1))) (M) := by
  refine sv_Ct_of (lo := [some (.ref (sv_ad G 4 9 0)), some (.int v), some (.int nm), none]) (pn_X4) rfl (Nat.le_of_ble_eq_true rfl) rfl (fun K X Y => ?_)
  replace X : sv_X G K cX4_undoTo RX4 4 4 := X
  replace Y : sv_Y G K (some .int) _ _ := Y
  show sw_W G K 4 0 _ _ _
  refine sw_aload_0 X dX4_undoTo_0 ?_
  refine sw_iload_1 X dX4_undoTo_1 ?_
  refine sw_iload_2 X dX4_undoTo_2 ?_
  refine ca_X4_114 X (by decide) dX4_undoTo_3 (Nat.le_of_ble_eq_true rfl) (c_X4_nameError_x hv) ?_
  refine sw_istore_3 X dX4_undoTo_6 trivial ?_
  refine sw_iload_3 X dX4_undoTo_7 ?_
  refine sw_if_ge X 13 dX4_undoTo_8 (by decide) (fun h8 => ?_) (fun h8 => ?_)
  ·
    exact absurd h8 ge_c.1
  ·
    refine sw_iload_3 X dX4_undoTo_11 ?_
    exact sw_iret X Y dX4_undoTo_12 (rfl) (rfl)
set_option maxHeartbeats 4000000 in
set_option maxRecDepth 100000 in
theorem c_X4_release_y {G : sv_G} {M : sv_Mem} {q t mq : Nat} {nm : Int32} (hmq : M 9 5 0 (27 + q) = nI mq) (hmq2 : mq ≤ 12) (hq : q < 3) (hE : nmE (M 9 5 0) q nm mq = nI 0) {p : Nat} (hp : nmR (M 9 5 0) q nm mq = nI p) (hp2 : p < mq) (hkp : M 9 4 0 2 = nI t) (ht : t ≤ 5) : sv_Ct G M_X4_release 3 [.ref (sv_ad G 4 9 0), .int (nI q), .int nm] M (some (.int (nI (mq - p)))) (mS (rcM M t) (rlF (M 9 5 0) q p mq)) := by
  refine sv_Ct_of (lo := [some (.ref (sv_ad G 4 9 0)), some (.int (nI q)), some (.int nm), none]) (pn_X4) rfl (Nat.le_of_ble_eq_true rfl) rfl (fun K X Y => ?_)
  replace X : sv_X G K cX4_release RX4 4 3 := X
  replace Y : sv_Y G K (some .int) _ _ := Y
  show sw_W G K 4 0 _ _ _
  refine sw_aload_0 X dX4_release_0 ?_
  refine sw_iload_1 X dX4_release_1 ?_
  refine sw_iload_2 X dX4_release_2 ?_
  refine ca_X4_114 X (by decide) dX4_release_3 (Nat.le_of_ble_eq_true rfl) (c_X4_nameError hq hmq hmq2) ?_
  refine sw_tope hE ?_
  refine sw_istore_3 X dX4_release_6 trivial ?_
  refine sw_iload_3 X dX4_release_7 ?_
  refine sw_if_ge X 13 dX4_release_8 (by decide) (fun h8 => ?_) (fun h8 => ?_)
  ·
    refine sw_aload_0 X dX4_release_13 ?_
    refine ca_X4_65 X (by decide) dX4_release_14 (Nat.le_of_ble_eq_true rfl) (c_X4_record hkp ht) ?_
    refine sw_aload_0 X dX4_release_17 ?_
    refine sw_iload_1 X dX4_release_18 ?_
    refine sw_iload_2 X dX4_release_19 ?_
    refine ca_X4_120 X (by decide) dX4_release_20 (Nat.le_of_ble_eq_true rfl) (c_X4_doRelease hq (by rw [rc_s]; exact hmq) hmq2 (by rw [rc_s]; exact hp) hp2) ?_
    exact sw_iret X Y dX4_release_23 (by simp only [rc_s]) (by simp only [rc_s])
  ·
    exact absurd ge_c.2.2.2 h8
set_option maxHeartbeats 4000000 in
set_option maxRecDepth 100000 in
theorem c_X4_release_n {G : sv_G} {M : sv_Mem} {q mq : Nat} {nm : Int32} (hmq : M 9 5 0 (27 + q) = nI mq) (hmq2 : mq ≤ 12) (hq : q < 3) (hE : nmE (M 9 5 0) q nm mq < 0) : sv_Ct G M_X4_release 3 [.ref (sv_ad G 4 9 0), .int (nI q), .int nm] M (some (.int (nmE (M 9 5 0) q nm mq))) (M) := by
  refine sv_Ct_of (lo := [some (.ref (sv_ad G 4 9 0)), some (.int (nI q)), some (.int nm), none]) (pn_X4) rfl (Nat.le_of_ble_eq_true rfl) rfl (fun K X Y => ?_)
  replace X : sv_X G K cX4_release RX4 4 3 := X
  replace Y : sv_Y G K (some .int) _ _ := Y
  show sw_W G K 4 0 _ _ _
  refine sw_aload_0 X dX4_release_0 ?_
  refine sw_iload_1 X dX4_release_1 ?_
  refine sw_iload_2 X dX4_release_2 ?_
  refine ca_X4_114 X (by decide) dX4_release_3 (Nat.le_of_ble_eq_true rfl) (c_X4_nameError hq hmq hmq2) ?_
  refine sw_istore_3 X dX4_release_6 trivial ?_
  refine sw_iload_3 X dX4_release_7 ?_
  refine sw_if_ge X 13 dX4_release_8 (by decide) (fun h8 => ?_) (fun h8 => ?_)
  ·
    exact absurd hE (Int32.not_lt.mpr h8)
  ·
    refine sw_iload_3 X dX4_release_11 ?_
    exact sw_iret X Y dX4_release_12 (rfl) (rfl)
set_option maxHeartbeats 4000000 in
set_option maxRecDepth 100000 in
theorem c_X4_release_x {G : sv_G} {M : sv_Mem} {v nm : Int32} (hv : ¬ inR v (nI 0) (nI 2)) : sv_Ct G M_X4_release 3 [.ref (sv_ad G 4 9 0), .int v, .int nm] M (some (.int (-1))) (M) := by
  refine sv_Ct_of (lo := [some (.ref (sv_ad G 4 9 0)), some (.int v), some (.int nm), none]) (pn_X4) rfl (Nat.le_of_ble_eq_true rfl) rfl (fun K X Y => ?_)
  replace X : sv_X G K cX4_release RX4 4 3 := X
  replace Y : sv_Y G K (some .int) _ _ := Y
  show sw_W G K 4 0 _ _ _
  refine sw_aload_0 X dX4_release_0 ?_
  refine sw_iload_1 X dX4_release_1 ?_
  refine sw_iload_2 X dX4_release_2 ?_
  refine ca_X4_114 X (by decide) dX4_release_3 (Nat.le_of_ble_eq_true rfl) (c_X4_nameError_x hv) ?_
  refine sw_istore_3 X dX4_release_6 trivial ?_
  refine sw_iload_3 X dX4_release_7 ?_
  refine sw_if_ge X 13 dX4_release_8 (by decide) (fun h8 => ?_) (fun h8 => ?_)
  ·
    exact absurd h8 ge_c.1
  ·
    refine sw_iload_3 X dX4_release_11 ?_
    exact sw_iret X Y dX4_release_12 (rfl) (rfl)
set_option maxHeartbeats 4000000 in
set_option maxRecDepth 100000 in
theorem c_X4_read_y {G : sv_G} {M : sv_Mem} {q k t mq : Nat} (hmq : M 9 5 0 (27 + q) = nI mq) (hmq2 : mq ≤ 12) (hq : q < 3) (hk : k < 16) (ho : M 9 5 0 (24 + q) = nI 1) (hkp : M 9 4 0 2 = nI t) (ht : t ≤ 5) : sv_Ct G M_X4_read 4 [.ref (sv_ad G 4 9 0), .int (nI q), .int (nI k)] M (some (.int (if busyR (M 9 5 0) q k (nI 1) then -6 else outs ((M 9 5 0) (8 + k))))) (mS (mN (rcM M t) (drN (M 9 5 0) (fg1 (M 9 9 0) 0) q k)) (drS (M 9 5 0) (fg1 (M 9 9 0) 0) q k mq)) := by
  refine sv_Ct_of (lo := [some (.ref (sv_ad G 4 9 0)), some (.int (nI q)), some (.int (nI k)), none]) (pn_X4) rfl (Nat.le_of_ble_eq_true rfl) rfl (fun K X Y => ?_)
  replace X : sv_X G K cX4_read RX4 4 4 := X
  replace Y : sv_Y G K (some .int) _ _ := Y
  show sw_W G K 4 0 _ _ _
  refine sw_aload_0 X dX4_read_0 ?_
  refine sw_iload_1 X dX4_read_1 ?_
  refine sw_iload_2 X dX4_read_2 ?_
  refine ca_X4_144 X (by decide) dX4_read_3 (Nat.le_of_ble_eq_true rfl) (c_X4_keyError hq hk) ?_
  refine sw_tope (if_pos ho) ?_
  refine sw_istore_3 X dX4_read_6 trivial ?_
  refine sw_iload_3 X dX4_read_7 ?_
  refine sw_if_ge X 13 dX4_read_8 (by decide) (fun h8 => ?_) (fun h8 => ?_)
  ·
    refine sw_aload_0 X dX4_read_13 ?_
    refine ca_X4_65 X (by decide) dX4_read_14 (Nat.le_of_ble_eq_true rfl) (c_X4_record hkp ht) ?_
    refine sw_aload_0 X dX4_read_17 ?_
    refine sw_iload_1 X dX4_read_18 ?_
    refine sw_iload_2 X dX4_read_19 ?_
    refine ca_X4_147 X (by decide) dX4_read_20 (Nat.le_of_ble_eq_true rfl) (c_X4_doRead hq hk (by rw [rc_s]; exact hmq) hmq2) ?_
    exact sw_iret X Y dX4_read_23 (by simp only [rc_s]) (by simp only [rc_s, rc_n])
  ·
    exact absurd ge_c.2.2.2 h8
set_option maxHeartbeats 4000000 in
set_option maxRecDepth 100000 in
theorem c_X4_read_n {G : sv_G} {M : sv_Mem} {q k : Nat} (hq : q < 3) (hk : k < 16) (ho : ¬ M 9 5 0 (24 + q) = nI 1) : sv_Ct G M_X4_read 4 [.ref (sv_ad G 4 9 0), .int (nI q), .int (nI k)] M (some (.int (-4))) (M) := by
  refine sv_Ct_of (lo := [some (.ref (sv_ad G 4 9 0)), some (.int (nI q)), some (.int (nI k)), none]) (pn_X4) rfl (Nat.le_of_ble_eq_true rfl) rfl (fun K X Y => ?_)
  replace X : sv_X G K cX4_read RX4 4 4 := X
  replace Y : sv_Y G K (some .int) _ _ := Y
  show sw_W G K 4 0 _ _ _
  refine sw_aload_0 X dX4_read_0 ?_
  refine sw_iload_1 X dX4_read_1 ?_
  refine sw_iload_2 X dX4_read_2 ?_
  refine ca_X4_144 X (by decide) dX4_read_3 (Nat.le_of_ble_eq_true rfl) (c_X4_keyError hq hk) ?_
  refine sw_tope (if_neg ho) ?_
  refine sw_istore_3 X dX4_read_6 trivial ?_
  refine sw_iload_3 X dX4_read_7 ?_
  refine sw_if_ge X 13 dX4_read_8 (by decide) (fun h8 => ?_) (fun h8 => ?_)
  ·
    exact absurd h8 ge_c.2.2.1
  ·
    refine sw_iload_3 X dX4_read_11 ?_
    exact sw_iret X Y dX4_read_12 (rfl) (rfl)
set_option maxHeartbeats 4000000 in
set_option maxRecDepth 100000 in
theorem c_X4_read_x {G : sv_G} {M : sv_Mem} {v kv : Int32} (h : ¬ inR v (nI 0) (nI 2) ∨ ¬ inR kv (nI 0) (nI 15)) : sv_Ct G M_X4_read 4 [.ref (sv_ad G 4 9 0), .int v, .int kv] M (some (.int (-1))) (M) := by
  refine sv_Ct_of (lo := [some (.ref (sv_ad G 4 9 0)), some (.int v), some (.int kv), none]) (pn_X4) rfl (Nat.le_of_ble_eq_true rfl) rfl (fun K X Y => ?_)
  replace X : sv_X G K cX4_read RX4 4 4 := X
  replace Y : sv_Y G K (some .int) _ _ := Y
  show sw_W G K 4 0 _ _ _
  refine sw_aload_0 X dX4_read_0 ?_
  refine sw_iload_1 X dX4_read_1 ?_
  refine sw_iload_2 X dX4_read_2 ?_
  refine ca_X4_144 X (by decide) dX4_read_3 (Nat.le_of_ble_eq_true rfl) (c_X4_keyError_x h) ?_
  refine sw_istore_3 X dX4_read_6 trivial ?_
  refine sw_iload_3 X dX4_read_7 ?_
  refine sw_if_ge X 13 dX4_read_8 (by decide) (fun h8 => ?_) (fun h8 => ?_)
  ·
    exact absurd h8 ge_c.1
  ·
    refine sw_iload_3 X dX4_read_11 ?_
    exact sw_iret X Y dX4_read_12 (rfl) (rfl)
set_option maxHeartbeats 4000000 in
set_option maxRecDepth 100000 in
theorem c_X4_erase_y {G : sv_G} {M : sv_Mem} {q k t mq : Nat} (hmq : M 9 5 0 (27 + q) = nI mq) (hmq2 : mq ≤ 12) (hq : q < 3) (hk : k < 16) (ho : M 9 5 0 (24 + q) = nI 1) (hkp : M 9 4 0 2 = nI t) (ht : t ≤ 5) : sv_Ct G M_X4_erase 4 [.ref (sv_ad G 4 9 0), .int (nI q), .int (nI k)] M (some (.int (if busyR (M 9 5 0) q k (nI 2) then -6 else outs ((M 9 5 0) (8 + k))))) (mS (mN (rcM M t) (dwN (M 9 5 0) (fg1 (M 9 9 0) 0) q k)) (dwS (M 9 5 0) (fg1 (M 9 9 0) 0) q k mq (-1))) := by
  refine sv_Ct_of (lo := [some (.ref (sv_ad G 4 9 0)), some (.int (nI q)), some (.int (nI k)), none]) (pn_X4) rfl (Nat.le_of_ble_eq_true rfl) rfl (fun K X Y => ?_)
  replace X : sv_X G K cX4_erase RX4 4 4 := X
  replace Y : sv_Y G K (some .int) _ _ := Y
  show sw_W G K 4 0 _ _ _
  refine sw_aload_0 X dX4_erase_0 ?_
  refine sw_iload_1 X dX4_erase_1 ?_
  refine sw_iload_2 X dX4_erase_2 ?_
  refine ca_X4_144 X (by decide) dX4_erase_3 (Nat.le_of_ble_eq_true rfl) (c_X4_keyError hq hk) ?_
  refine sw_tope (if_pos ho) ?_
  refine sw_istore_3 X dX4_erase_6 trivial ?_
  refine sw_iload_3 X dX4_erase_7 ?_
  refine sw_if_ge X 13 dX4_erase_8 (by decide) (fun h8 => ?_) (fun h8 => ?_)
  ·
    refine sw_aload_0 X dX4_erase_13 ?_
    refine ca_X4_65 X (by decide) dX4_erase_14 (Nat.le_of_ble_eq_true rfl) (c_X4_record hkp ht) ?_
    refine sw_aload_0 X dX4_erase_17 ?_
    refine sw_iload_1 X dX4_erase_18 ?_
    refine sw_iload_2 X dX4_erase_19 ?_
    refine sw_iconst X (-1) dX4_erase_20 (by decide) ?_
    refine ca_X4_153 X (by decide) dX4_erase_21 (Nat.le_of_ble_eq_true rfl) (c_X4_doWrite hq hk (by rw [rc_s]; exact hmq) hmq2) ?_
    exact sw_iret X Y dX4_erase_24 (by simp only [rc_s]) (by simp only [rc_s, rc_n])
  ·
    exact absurd ge_c.2.2.2 h8
set_option maxHeartbeats 4000000 in
set_option maxRecDepth 100000 in
theorem c_X4_erase_n {G : sv_G} {M : sv_Mem} {q k : Nat} (hq : q < 3) (hk : k < 16) (ho : ¬ M 9 5 0 (24 + q) = nI 1) : sv_Ct G M_X4_erase 4 [.ref (sv_ad G 4 9 0), .int (nI q), .int (nI k)] M (some (.int (-4))) (M) := by
  refine sv_Ct_of (lo := [some (.ref (sv_ad G 4 9 0)), some (.int (nI q)), some (.int (nI k)), none]) (pn_X4) rfl (Nat.le_of_ble_eq_true rfl) rfl (fun K X Y => ?_)
  replace X : sv_X G K cX4_erase RX4 4 4 := X
  replace Y : sv_Y G K (some .int) _ _ := Y
  show sw_W G K 4 0 _ _ _
  refine sw_aload_0 X dX4_erase_0 ?_
  refine sw_iload_1 X dX4_erase_1 ?_
  refine sw_iload_2 X dX4_erase_2 ?_
  refine ca_X4_144 X (by decide) dX4_erase_3 (Nat.le_of_ble_eq_true rfl) (c_X4_keyError hq hk) ?_
  refine sw_tope (if_neg ho) ?_
  refine sw_istore_3 X dX4_erase_6 trivial ?_
  refine sw_iload_3 X dX4_erase_7 ?_
  refine sw_if_ge X 13 dX4_erase_8 (by decide) (fun h8 => ?_) (fun h8 => ?_)
  ·
    exact absurd h8 ge_c.2.2.1
  ·
    refine sw_iload_3 X dX4_erase_11 ?_
    exact sw_iret X Y dX4_erase_12 (rfl) (rfl)
set_option maxHeartbeats 4000000 in
set_option maxRecDepth 100000 in
theorem c_X4_erase_x {G : sv_G} {M : sv_Mem} {v kv : Int32} (h : ¬ inR v (nI 0) (nI 2) ∨ ¬ inR kv (nI 0) (nI 15)) : sv_Ct G M_X4_erase 4 [.ref (sv_ad G 4 9 0), .int v, .int kv] M (some (.int (-1))) (M) := by
  refine sv_Ct_of (lo := [some (.ref (sv_ad G 4 9 0)), some (.int v), some (.int kv), none]) (pn_X4) rfl (Nat.le_of_ble_eq_true rfl) rfl (fun K X Y => ?_)
  replace X : sv_X G K cX4_erase RX4 4 4 := X
  replace Y : sv_Y G K (some .int) _ _ := Y
  show sw_W G K 4 0 _ _ _
  refine sw_aload_0 X dX4_erase_0 ?_
  refine sw_iload_1 X dX4_erase_1 ?_
  refine sw_iload_2 X dX4_erase_2 ?_
  refine ca_X4_144 X (by decide) dX4_erase_3 (Nat.le_of_ble_eq_true rfl) (c_X4_keyError_x h) ?_
  refine sw_istore_3 X dX4_erase_6 trivial ?_
  refine sw_iload_3 X dX4_erase_7 ?_
  refine sw_if_ge X 13 dX4_erase_8 (by decide) (fun h8 => ?_) (fun h8 => ?_)
  ·
    exact absurd h8 ge_c.1
  ·
    refine sw_iload_3 X dX4_erase_11 ?_
    exact sw_iret X Y dX4_erase_12 (rfl) (rfl)
set_option maxHeartbeats 4000000 in
set_option maxRecDepth 100000 in
theorem c_X4_write_y {G : sv_G} {M : sv_Mem} {q k t mq : Nat} {w : Int32} (hmq : M 9 5 0 (27 + q) = nI mq) (hmq2 : mq ≤ 12) (hq : q < 3) (hk : k < 16) (hw : inR w (nI 0) (nI 9999)) (ho : M 9 5 0 (24 + q) = nI 1) (hkp : M 9 4 0 2 = nI t) (ht : t ≤ 5) : sv_Ct G M_X4_write 4 [.ref (sv_ad G 4 9 0), .int (nI q), .int (nI k), .int w] M (some (.int (if busyR (M 9 5 0) q k (nI 2) then -6 else outs ((M 9 5 0) (8 + k))))) (mS (mN (rcM M t) (dwN (M 9 5 0) (fg1 (M 9 9 0) 0) q k)) (dwS (M 9 5 0) (fg1 (M 9 9 0) 0) q k mq w)) := by
  refine sv_Ct_of (lo := [some (.ref (sv_ad G 4 9 0)), some (.int (nI q)), some (.int (nI k)), some (.int w), none]) (pn_X4) rfl (Nat.le_of_ble_eq_true rfl) rfl (fun K X Y => ?_)
  replace X : sv_X G K cX4_write RX4 5 4 := X
  replace Y : sv_Y G K (some .int) _ _ := Y
  show sw_W G K 5 0 _ _ _
  refine sw_aload_0 X dX4_write_0 ?_
  refine sw_iload_1 X dX4_write_1 ?_
  refine sw_iload_2 X dX4_write_2 ?_
  refine sw_iload_3 X dX4_write_3 ?_
  refine ca_X4_150 X (by decide) dX4_write_4 (Nat.le_of_ble_eq_true rfl) (c_X4_writeError hq hk) ?_
  refine sw_tope ((if_pos hw).trans (if_pos ho)) ?_
  refine sw_istore_4 X dX4_write_7 trivial ?_
  refine sw_iload_4 X dX4_write_9 ?_
  refine sw_if_ge X 17 dX4_write_11 (by decide) (fun h11 => ?_) (fun h11 => ?_)
  ·
    refine sw_aload_0 X dX4_write_17 ?_
    refine ca_X4_65 X (by decide) dX4_write_18 (Nat.le_of_ble_eq_true rfl) (c_X4_record hkp ht) ?_
    refine sw_aload_0 X dX4_write_21 ?_
    refine sw_iload_1 X dX4_write_22 ?_
    refine sw_iload_2 X dX4_write_23 ?_
    refine sw_iload_3 X dX4_write_24 ?_
    refine ca_X4_153 X (by decide) dX4_write_25 (Nat.le_of_ble_eq_true rfl) (c_X4_doWrite hq hk (by rw [rc_s]; exact hmq) hmq2) ?_
    exact sw_iret X Y dX4_write_28 (by simp only [rc_s]) (by simp only [rc_s, rc_n])
  ·
    exact absurd ge_c.2.2.2 h11
set_option maxHeartbeats 4000000 in
set_option maxRecDepth 100000 in
theorem c_X4_write_n {G : sv_G} {M : sv_Mem} {q k : Nat} {w : Int32} (hq : q < 3) (hk : k < 16) (hw : inR w (nI 0) (nI 9999)) (ho : ¬ M 9 5 0 (24 + q) = nI 1) : sv_Ct G M_X4_write 4 [.ref (sv_ad G 4 9 0), .int (nI q), .int (nI k), .int w] M (some (.int (-4))) (M) := by
  refine sv_Ct_of (lo := [some (.ref (sv_ad G 4 9 0)), some (.int (nI q)), some (.int (nI k)), some (.int w), none]) (pn_X4) rfl (Nat.le_of_ble_eq_true rfl) rfl (fun K X Y => ?_)
  replace X : sv_X G K cX4_write RX4 5 4 := X
  replace Y : sv_Y G K (some .int) _ _ := Y
  show sw_W G K 5 0 _ _ _
  refine sw_aload_0 X dX4_write_0 ?_
  refine sw_iload_1 X dX4_write_1 ?_
  refine sw_iload_2 X dX4_write_2 ?_
  refine sw_iload_3 X dX4_write_3 ?_
  refine ca_X4_150 X (by decide) dX4_write_4 (Nat.le_of_ble_eq_true rfl) (c_X4_writeError hq hk) ?_
  refine sw_tope ((if_pos hw).trans (if_neg ho)) ?_
  refine sw_istore_4 X dX4_write_7 trivial ?_
  refine sw_iload_4 X dX4_write_9 ?_
  refine sw_if_ge X 17 dX4_write_11 (by decide) (fun h11 => ?_) (fun h11 => ?_)
  ·
    exact absurd h11 ge_c.2.2.1
  ·
    refine sw_iload_4 X dX4_write_14 ?_
    exact sw_iret X Y dX4_write_16 (rfl) (rfl)
set_option maxHeartbeats 4000000 in
set_option maxRecDepth 100000 in
theorem c_X4_write_b {G : sv_G} {M : sv_Mem} {q k : Nat} {w : Int32} (hq : q < 3) (hk : k < 16) (hw : ¬ inR w (nI 0) (nI 9999)) : sv_Ct G M_X4_write 4 [.ref (sv_ad G 4 9 0), .int (nI q), .int (nI k), .int w] M (some (.int (-2))) (M) := by
  refine sv_Ct_of (lo := [some (.ref (sv_ad G 4 9 0)), some (.int (nI q)), some (.int (nI k)), some (.int w), none]) (pn_X4) rfl (Nat.le_of_ble_eq_true rfl) rfl (fun K X Y => ?_)
  replace X : sv_X G K cX4_write RX4 5 4 := X
  replace Y : sv_Y G K (some .int) _ _ := Y
  show sw_W G K 5 0 _ _ _
  refine sw_aload_0 X dX4_write_0 ?_
  refine sw_iload_1 X dX4_write_1 ?_
  refine sw_iload_2 X dX4_write_2 ?_
  refine sw_iload_3 X dX4_write_3 ?_
  refine ca_X4_150 X (by decide) dX4_write_4 (Nat.le_of_ble_eq_true rfl) (c_X4_writeError hq hk) ?_
  refine sw_tope (if_neg hw) ?_
  refine sw_istore_4 X dX4_write_7 trivial ?_
  refine sw_iload_4 X dX4_write_9 ?_
  refine sw_if_ge X 17 dX4_write_11 (by decide) (fun h11 => ?_) (fun h11 => ?_)
  ·
    exact absurd h11 ge_c.2.1
  ·
    refine sw_iload_4 X dX4_write_14 ?_
    exact sw_iret X Y dX4_write_16 (rfl) (rfl)
set_option maxHeartbeats 4000000 in
set_option maxRecDepth 100000 in
theorem c_X4_write_x {G : sv_G} {M : sv_Mem} {v kv w : Int32} (h : ¬ inR v (nI 0) (nI 2) ∨ ¬ inR kv (nI 0) (nI 15)) : sv_Ct G M_X4_write 4 [.ref (sv_ad G 4 9 0), .int v, .int kv, .int w] M (some (.int (-1))) (M) := by
  refine sv_Ct_of (lo := [some (.ref (sv_ad G 4 9 0)), some (.int v), some (.int kv), some (.int w), none]) (pn_X4) rfl (Nat.le_of_ble_eq_true rfl) rfl (fun K X Y => ?_)
  replace X : sv_X G K cX4_write RX4 5 4 := X
  replace Y : sv_Y G K (some .int) _ _ := Y
  show sw_W G K 5 0 _ _ _
  refine sw_aload_0 X dX4_write_0 ?_
  refine sw_iload_1 X dX4_write_1 ?_
  refine sw_iload_2 X dX4_write_2 ?_
  refine sw_iload_3 X dX4_write_3 ?_
  refine ca_X4_150 X (by decide) dX4_write_4 (Nat.le_of_ble_eq_true rfl) (c_X4_writeError_x h) ?_
  refine sw_istore_4 X dX4_write_7 trivial ?_
  refine sw_iload_4 X dX4_write_9 ?_
  refine sw_if_ge X 17 dX4_write_11 (by decide) (fun h11 => ?_) (fun h11 => ?_)
  ·
    exact absurd h11 ge_c.1
  ·
    refine sw_iload_4 X dX4_write_14 ?_
    exact sw_iret X Y dX4_write_16 (rfl) (rfl)
