set_option maxHeartbeats 4000000 in
set_option maxRecDepth 100000 in
theorem c_X4_close {G : sv_G} {M : sv_Mem} {q mq : Nat} (hq : q < 3) (hmq : M 9 5 0 (27 + q) = nI mq) (hmq2 : mq ≤ 12) : sv_Ct G M_X4_close 1 [.ref (sv_ad G 4 9 0), .int (nI q)] M (none) (mS M (clF (M 9 5 0) q mq)) := by
  refine sv_Ct_of (lo := [some (.ref (sv_ad G 4 9 0)), some (.int (nI q)), none]) (pn_X4) rfl (Nat.le_of_ble_eq_true rfl) rfl (fun K X Y => ?_)
  replace X : sv_X G K cX4_close RX4 3 1 := X
  replace Y : sv_Y G K none _ _ := Y
  show sw_W G K 3 0 _ _ _
  have L : ∀ c r s2, r + c = mq + 1 → s2 (27 + q) = nI mq → fgt q c r s2 = fgt q (mq + 1) 0 (M 9 5 0) → sw_W G K 3 2 [some (.ref (sv_ad G 4 9 0)), some (.int (nI q)), some (.int (nI r))] [] (mS M s2) := by
    intro c
    induction c with
    | zero =>
      intro r s2 hr h27 hv
      refine sw_iload_2 X dX4_close_2 ?_
      refine sw_aload_0 X dX4_close_3 ?_
      refine gf_X4_7 X dX4_close_4 ?_
      refine sw_bipush X (nI 27) dX4_close_7 (by decide) ?_
      refine sw_iload_1 X dX4_close_9 ?_
      refine sw_iadd X dX4_close_10 ?_
      try refine sw_tope (nI_add _ _) ?_
      refine ia_5 X rfl (by omega) dX4_close_11 ?_
      refine sw_tope (v2 := nI mq) (by rw [mS_s]; exact h27) ?_
      refine sw_icmp_gt X 33 dX4_close_12 (by decide) (fun h12 => ?_) (fun h12 => ?_)
      ·
        refine sw_aload_0 X dX4_close_33 ?_
        refine gf_X4_7 X dX4_close_34 ?_
        refine sw_bipush X (nI 24) dX4_close_37 (by decide) ?_
        refine sw_iload_1 X dX4_close_39 ?_
        refine sw_iadd X dX4_close_40 ?_
        try refine sw_tope (nI_add _ _) ?_
        refine sw_iconst X (nI 0) dX4_close_41 (by decide) ?_
        refine is_5 X rfl (by omega) dX4_close_42 ?_
        refine sw_aload_0 X dX4_close_43 ?_
        refine gf_X4_7 X dX4_close_44 ?_
        refine sw_bipush X (nI 27) dX4_close_47 (by decide) ?_
        refine sw_iload_1 X dX4_close_49 ?_
        refine sw_iadd X dX4_close_50 ?_
        try refine sw_tope (nI_add _ _) ?_
        refine sw_iconst X (nI 0) dX4_close_51 (by decide) ?_
        refine is_5 X rfl (by omega) dX4_close_52 ?_
        refine sw_aload_0 X dX4_close_53 ?_
        refine gf_X4_7 X dX4_close_54 ?_
        refine sw_bipush X (nI 30) dX4_close_57 (by decide) ?_
        refine sw_iload_1 X dX4_close_59 ?_
        refine sw_iadd X dX4_close_60 ?_
        try refine sw_tope (nI_add _ _) ?_
        refine sw_iconst X (nI 0) dX4_close_61 (by decide) ?_
        refine is_5 X rfl (by omega) dX4_close_62 ?_
        exact sw_vret X Y dX4_close_63 rfl (by simp only [up5, mS_mS, mS_s]; unfold clF; rw [← hv]; rfl)
      ·
        exact absurd ((nI_ltI (by omega) (by omega)).mpr (by omega)) h12
    | succ c ih =>
      intro r s2 hr h27 hv
      refine sw_iload_2 X dX4_close_2 ?_
      refine sw_aload_0 X dX4_close_3 ?_
      refine gf_X4_7 X dX4_close_4 ?_
      refine sw_bipush X (nI 27) dX4_close_7 (by decide) ?_
      refine sw_iload_1 X dX4_close_9 ?_
      refine sw_iadd X dX4_close_10 ?_
      try refine sw_tope (nI_add _ _) ?_
      refine ia_5 X rfl (by omega) dX4_close_11 ?_
      refine sw_tope (v2 := nI mq) (by rw [mS_s]; exact h27) ?_
      refine sw_icmp_gt X 33 dX4_close_12 (by decide) (fun h12 => ?_) (fun h12 => ?_)
      ·
        exact absurd ((nI_ltI (by omega) (by omega)).mp h12) (by omega)
      ·
        refine sw_aload_0 X dX4_close_15 ?_
        refine gf_X4_7 X dX4_close_16 ?_
        refine sw_iload_1 X dX4_close_19 ?_
        refine sw_iload_2 X dX4_close_20 ?_
        refine ca_X4_48 X (by decide) dX4_close_21 (Nat.le_of_ble_eq_true rfl) c_X4_at ?_
        refine ca_X4_61 X (by decide) dX4_close_24 (Nat.le_of_ble_eq_true rfl) (c_X4_forget_5 (by unfold rAt; omega)) ?_
        simp only [mS_mS, mS_s]
        first | refine sw_inc1_2 X dX4_close_27 trivial ?_ | refine sw_iinc_2 X _ dX4_close_27 rfl trivial ?_
        refine sw_goto X 2 dX4_close_30 (by decide) ?_
        exact ih (r + 1) _ (by omega) (by show fg1 _ _ _ = _; rw [fg1_out (by unfold rAt; omega)]; exact h27) hv
  refine sw_iconst X (nI 0) dX4_close_0 (by decide) ?_
  refine sw_istore_2 X dX4_close_1 trivial ?_
  exact sw_mem (by rw [mS_id]) (L (mq + 1) 0 _ (by omega) hmq rfl)
set_option maxHeartbeats 4000000 in
set_option maxRecDepth 100000 in
theorem c_X4_nearestOf {G : sv_G} {M : sv_Mem} {q mq : Nat} {nm : Int32} (hq : q < 3) (hmq : M 9 5 0 (27 + q) = nI mq) (hmq2 : mq ≤ 12) : sv_Ct G M_X4_nearestOf 0 [.ref (sv_ad G 4 9 0), .int (nI q), .int nm] M (some (.int (nmR (M 9 5 0) q nm mq))) (M) := by
  refine sv_Ct_of (lo := [some (.ref (sv_ad G 4 9 0)), some (.int (nI q)), some (.int nm), none]) (pn_X4) rfl (Nat.le_of_ble_eq_true rfl) rfl (fun K X Y => ?_)
  replace X : sv_X G K cX4_nearestOf RX4 4 0 := X
  replace Y : sv_Y G K (some .int) _ _ := Y
  show sw_W G K 4 0 _ _ _
  have L : ∀ c, c ≤ mq → nmR (M 9 5 0) q nm mq = nmR (M 9 5 0) q nm c → ∀ x, x = nI c - nI 1 → sw_W G K 4 12 [some (.ref (sv_ad G 4 9 0)), some (.int (nI q)), some (.int nm), some (.int x)] [] M := by
    intro c
    induction c with
    | zero =>
      intro hc hv x hx
      refine sw_iload_3 X dX4_nearestOf_12 ?_
      refine sw_if_lt X 42 dX4_nearestOf_13 (by decide) (fun h13 => ?_) (fun h13 => ?_)
      ·
        refine sw_bipush X (-5) dX4_nearestOf_42 (by decide) ?_
        exact sw_iret X Y dX4_nearestOf_44 (ri_of hv) (rfl)
      ·
        exact absurd (by rw [hx]; decide) h13
    | succ c ih =>
      intro hc hv x hx
      have hx2 : x = nI c := by rw [hx, pk_sub (by omega)]; rfl
      subst hx2
      refine sw_iload_3 X dX4_nearestOf_12 ?_
      refine sw_if_lt X 42 dX4_nearestOf_13 (by decide) (fun h13 => ?_) (fun h13 => ?_)
      ·
        exact absurd h13 (nI_pos (by omega))
      ·
        refine sw_aload_0 X dX4_nearestOf_16 ?_
        refine gf_X4_7 X dX4_nearestOf_17 ?_
        refine sw_bipush X (nI 33) dX4_nearestOf_20 (by decide) ?_
        refine sw_bipush X (nI 12) dX4_nearestOf_22 (by decide) ?_
        refine sw_iload_1 X dX4_nearestOf_24 ?_
        refine sw_imul X dX4_nearestOf_25 ?_
        try refine sw_tope (pk_mul _ _) ?_
        refine sw_iadd X dX4_nearestOf_26 ?_
        try refine sw_tope (nI_add _ _) ?_
        refine sw_iload_3 X dX4_nearestOf_27 ?_
        refine sw_iadd X dX4_nearestOf_28 ?_
        try refine sw_tope (nI_add _ _) ?_
        refine ia_5 X rfl (by omega) dX4_nearestOf_29 ?_
        refine sw_iload_2 X dX4_nearestOf_30 ?_
        refine sw_icmp_ne X 36 dX4_nearestOf_31 (by decide) (fun h31 => ?_) (fun h31 => ?_)
        ·
          have hv2 := hv.trans (if_neg h31)
          refine sw_iinc_3 X _ dX4_nearestOf_36 rfl trivial ?_
          refine sw_goto X 12 dX4_nearestOf_39 (by decide) ?_
          exact ih (by omega) hv2 _ (by rw [Int32.sub_eq_add_neg]; rfl)
        ·
          have hv2 := hv.trans (if_pos (by first | exact h31 | exact Decidable.of_not_not h31))
          refine sw_iload_3 X dX4_nearestOf_34 ?_
          exact sw_iret X Y dX4_nearestOf_35 (ri_of hv2) (rfl)
  refine sw_aload_0 X dX4_nearestOf_0 ?_
  refine gf_X4_7 X dX4_nearestOf_1 ?_
  refine sw_bipush X (nI 27) dX4_nearestOf_4 (by decide) ?_
  refine sw_iload_1 X dX4_nearestOf_6 ?_
  refine sw_iadd X dX4_nearestOf_7 ?_
  try refine sw_tope (nI_add _ _) ?_
  refine ia_5 X rfl (by omega) dX4_nearestOf_8 ?_
  refine sw_tope hmq ?_
  refine sw_iconst X (nI 1) dX4_nearestOf_9 (by decide) ?_
  refine sw_isub X dX4_nearestOf_10 ?_
  refine sw_istore_3 X dX4_nearestOf_11 trivial ?_
  exact L mq (Nat.le_refl _) rfl _ rfl
