set_option maxHeartbeats 4000000 in
set_option maxRecDepth 100000 in
theorem c_X4_goBack {G : sv_G} {M : sv_Mem} {q m mq : Nat} (hq : q < 3) (hm : m ≤ mq) (hmq : M 9 5 0 (27 + q) = nI mq) (hmq2 : mq ≤ 12) : sv_Ct G M_X4_goBack 2 [.ref (sv_ad G 4 9 0), .int (nI q), .int (nI m)] M (none) (mS M (gbF (M 9 5 0) q m mq)) := by
  refine sv_Ct_of (lo := [some (.ref (sv_ad G 4 9 0)), some (.int (nI q)), some (.int (nI m)), none]) (pn_X4) rfl (Nat.le_of_ble_eq_true rfl) rfl (fun K X Y => ?_)
  replace X : sv_X G K cX4_goBack RX4 4 2 := X
  replace Y : sv_Y G K none _ _ := Y
  show sw_W G K 4 0 _ _ _
  have hm2 : m ≤ mq + 1 := by omega
  have L2 : ∀ c r s2, r + c = mq + 1 → m < r → s2 (27 + q) = nI mq → gbE (mrg q m c r s2) q m = gbF (M 9 5 0) q m mq → sw_W G K 4 72 [some (.ref (sv_ad G 4 9 0)), some (.int (nI q)), some (.int (nI m)), some (.int (nI r))] [] (mS M s2) := by
    intro c
    induction c with
    | zero =>
      intro r s2 hr hmr h27 hv
      refine sw_iload_3 X dX4_goBack_72 ?_
      refine sw_aload_0 X dX4_goBack_73 ?_
      refine gf_X4_7 X dX4_goBack_74 ?_
      refine sw_bipush X (nI 27) dX4_goBack_77 (by decide) ?_
      refine sw_iload_1 X dX4_goBack_79 ?_
      refine sw_iadd X dX4_goBack_80 ?_
      try refine sw_tope (nI_add _ _) ?_
      refine ia_5 X rfl (by omega) dX4_goBack_81 ?_
      refine sw_tope (v2 := nI mq) (by rw [mS_s]; exact h27) ?_
      refine sw_icmp_gt X 124 dX4_goBack_82 (by decide) (fun h82 => ?_) (fun h82 => ?_)
      ·
        refine sw_aload_0 X dX4_goBack_124 ?_
        refine gf_X4_7 X dX4_goBack_125 ?_
        refine sw_iload_1 X dX4_goBack_128 ?_
        refine sw_iload_2 X dX4_goBack_129 ?_
        refine ca_X4_48 X (by decide) dX4_goBack_130 (Nat.le_of_ble_eq_true rfl) c_X4_at ?_
        refine sw_iconst X (nI 0) dX4_goBack_133 (by decide) ?_
        refine sw_iadd X dX4_goBack_134 ?_
        try refine sw_tope (nI_add _ _) ?_
        refine sw_iconst X (nI 0) dX4_goBack_135 (by decide) ?_
        refine is_5 X rfl (by unfold rAt; omega) dX4_goBack_136 ?_
        refine sw_aload_0 X dX4_goBack_137 ?_
        refine gf_X4_7 X dX4_goBack_138 ?_
        refine sw_iload_1 X dX4_goBack_141 ?_
        refine sw_iload_2 X dX4_goBack_142 ?_
        refine ca_X4_48 X (by decide) dX4_goBack_143 (Nat.le_of_ble_eq_true rfl) c_X4_at ?_
        refine sw_iconst X (nI 1) dX4_goBack_146 (by decide) ?_
        refine sw_iadd X dX4_goBack_147 ?_
        try refine sw_tope (nI_add _ _) ?_
        refine sw_aload_0 X dX4_goBack_148 ?_
        refine gf_X4_7 X dX4_goBack_149 ?_
        refine sw_iconst X (nI 0) dX4_goBack_152 (by decide) ?_
        refine ia_5 X rfl (by omega) dX4_goBack_153 ?_
        refine sw_tope (v2 := s2 0) (by simp only [up5, mS_mS, mS_s]; rw [va_up_ne _ _ (by unfold rAt; omega)]) ?_
        refine sw_if_ne X 161 dX4_goBack_154 (by decide) (fun h154 => ?_) (fun h154 => ?_)
        ·
          refine sw_aload_0 X dX4_goBack_161 ?_
          refine gf_X4_7 X dX4_goBack_162 ?_
          refine sw_iload_1 X dX4_goBack_165 ?_
          refine sw_iload_2 X dX4_goBack_166 ?_
          refine ca_X4_48 X (by decide) dX4_goBack_167 (Nat.le_of_ble_eq_true rfl) c_X4_at ?_
          refine sw_iconst X (nI 1) dX4_goBack_170 (by decide) ?_
          refine sw_iadd X dX4_goBack_171 ?_
          try refine sw_tope (nI_add _ _) ?_
          refine ia_5 X rfl (by unfold rAt; omega) dX4_goBack_172 ?_
          refine is_5 X rfl (by unfold rAt; omega) dX4_goBack_173 ?_
          refine sw_aload_0 X dX4_goBack_174 ?_
          refine gf_X4_7 X dX4_goBack_175 ?_
          refine sw_bipush X (nI 27) dX4_goBack_178 (by decide) ?_
          refine sw_iload_1 X dX4_goBack_180 ?_
          refine sw_iadd X dX4_goBack_181 ?_
          try refine sw_tope (nI_add _ _) ?_
          refine sw_iload_2 X dX4_goBack_182 ?_
          refine is_5 X rfl (by omega) dX4_goBack_183 ?_
          exact sw_vret X Y dX4_goBack_184 rfl (by simp only [up5, mS_mS, mS_s]; rw [← hv]; unfold gbE mrg; first | (rw [if_pos (Decidable.of_not_not h154)]; done) | (rw [if_pos h154]; done) | (rw [if_neg h154, va_up_ne _ _ (by omega)]; done))
        ·
          refine sw_iconst X (nI 0) dX4_goBack_157 (by decide) ?_
          refine sw_goto X 173 dX4_goBack_158 (by decide) ?_
          refine is_5 X rfl (by unfold rAt; omega) dX4_goBack_173 ?_
          refine sw_aload_0 X dX4_goBack_174 ?_
          refine gf_X4_7 X dX4_goBack_175 ?_
          refine sw_bipush X (nI 27) dX4_goBack_178 (by decide) ?_
          refine sw_iload_1 X dX4_goBack_180 ?_
          refine sw_iadd X dX4_goBack_181 ?_
          try refine sw_tope (nI_add _ _) ?_
          refine sw_iload_2 X dX4_goBack_182 ?_
          refine is_5 X rfl (by omega) dX4_goBack_183 ?_
          exact sw_vret X Y dX4_goBack_184 rfl (by simp only [up5, mS_mS, mS_s]; rw [← hv]; unfold gbE mrg; first | (rw [if_pos (Decidable.of_not_not h154)]; done) | (rw [if_pos h154]; done) | (rw [if_neg h154, va_up_ne _ _ (by omega)]; done))
      ·
        exact absurd ((nI_ltI (by omega) (by omega)).mpr (by omega)) h82
    | succ c ih =>
      intro r s2 hr hmr h27 hv
      refine sw_iload_3 X dX4_goBack_72 ?_
      refine sw_aload_0 X dX4_goBack_73 ?_
      refine gf_X4_7 X dX4_goBack_74 ?_
      refine sw_bipush X (nI 27) dX4_goBack_77 (by decide) ?_
      refine sw_iload_1 X dX4_goBack_79 ?_
      refine sw_iadd X dX4_goBack_80 ?_
      try refine sw_tope (nI_add _ _) ?_
      refine ia_5 X rfl (by omega) dX4_goBack_81 ?_
      refine sw_tope (v2 := nI mq) (by rw [mS_s]; exact h27) ?_
      refine sw_icmp_gt X 124 dX4_goBack_82 (by decide) (fun h82 => ?_) (fun h82 => ?_)
      ·
        exact absurd ((nI_ltI (by omega) (by omega)).mp h82) (by omega)
      ·
        refine sw_aload_0 X dX4_goBack_85 ?_
        refine gf_X4_7 X dX4_goBack_86 ?_
        refine sw_iload_1 X dX4_goBack_89 ?_
        refine sw_iload_2 X dX4_goBack_90 ?_
        refine ca_X4_48 X (by decide) dX4_goBack_91 (Nat.le_of_ble_eq_true rfl) c_X4_at ?_
        refine sw_aload_0 X dX4_goBack_94 ?_
        refine gf_X4_7 X dX4_goBack_95 ?_
        refine sw_iload_1 X dX4_goBack_98 ?_
        refine sw_iload_3 X dX4_goBack_99 ?_
        refine ca_X4_48 X (by decide) dX4_goBack_100 (Nat.le_of_ble_eq_true rfl) c_X4_at ?_
        refine ca_X4_57 X (by decide) dX4_goBack_103 (Nat.le_of_ble_eq_true rfl) (c_X4_join_5 (by unfold rAt; omega) (by unfold rAt; omega) (by unfold rAt; omega)) ?_
        refine sw_aload_0 X dX4_goBack_106 ?_
        refine gf_X4_7 X dX4_goBack_107 ?_
        refine sw_iload_1 X dX4_goBack_110 ?_
        refine sw_iload_3 X dX4_goBack_111 ?_
        refine ca_X4_48 X (by decide) dX4_goBack_112 (Nat.le_of_ble_eq_true rfl) c_X4_at ?_
        refine ca_X4_61 X (by decide) dX4_goBack_115 (Nat.le_of_ble_eq_true rfl) (c_X4_forget_5 (by unfold rAt; omega)) ?_
        simp only [mS_mS, mS_s]
        first | refine sw_inc1_3 X dX4_goBack_118 trivial ?_ | refine sw_iinc_3 X _ dX4_goBack_118 rfl trivial ?_
        refine sw_goto X 72 dX4_goBack_121 (by decide) ?_
        exact ih (r + 1) _ (by omega) (by omega) (by show fg1 _ _ _ = _; rw [fg1_out (by unfold rAt; omega), jnF_out (by unfold rAt; omega)]; exact h27) hv
  have L : ∀ r, r ≤ 16 → (fun r => sw_W G K 4 2 [some (.ref (sv_ad G 4 9 0)), some (.int (nI q)), some (.int (nI m)), some (.int (nI r))] [] (mS M (gbV (M 9 5 0) q (mq + 1 - m) m r))) r := by
    refine up_ind (N := 16) (P := fun r => sw_W G K 4 2 [some (.ref (sv_ad G 4 9 0)), some (.int (nI q)), some (.int (nI m)), some (.int (nI r))] [] (mS M (gbV (M 9 5 0) q (mq + 1 - m) m r))) ?_
    intro r hr ih
    show sw_W _ _ _ _ _ _ _
    refine sw_iload_3 X dX4_goBack_2 ?_
    refine sw_bipush X (nI 16) dX4_goBack_3 (by decide) ?_
    refine sw_icmp_ge X 68 dX4_goBack_5 (by decide) (fun h5 => ?_) (fun h5 => ?_)
    ·
      have e : r = 16 := by have := (nI_leI (by omega) (by omega)).mp h5; omega
      subst e
      refine sw_iload_2 X dX4_goBack_68 ?_
      refine sw_iconst X (nI 1) dX4_goBack_69 (by decide) ?_
      refine sw_iadd X dX4_goBack_70 ?_
      try refine sw_tope (nI_add _ _) ?_
      refine sw_istore_3 X dX4_goBack_71 trivial ?_
      exact L2 (mq - m) (m + 1) _ (by omega) (by omega) (by rw [gbV_hi (by omega) (by omega)]; exact hmq) rfl
    ·
      have hr3 : r < 16 := by have := mt (nI_leI (by omega) (by omega)).mpr h5; omega
      have hV27 : (mS M (gbV (M 9 5 0) q (mq + 1 - m) m r)) 9 5 0 (27 + q) = nI mq := by rw [mS_s, gbV_hi (by omega) (by omega)]; exact hmq
      refine sw_aload_0 X dX4_goBack_8 ?_
      refine gf_X4_7 X dX4_goBack_9 ?_
      refine sw_bipush X (nI 8) dX4_goBack_12 (by decide) ?_
      refine sw_iload_3 X dX4_goBack_14 ?_
      refine sw_iadd X dX4_goBack_15 ?_
      try refine sw_tope (nI_add _ _) ?_
      refine sw_aload_0 X dX4_goBack_16 ?_
      refine sw_iload_1 X dX4_goBack_17 ?_
      refine sw_iload_2 X dX4_goBack_18 ?_
      refine sw_iload_3 X dX4_goBack_19 ?_
      refine ca_X4_51 X (by decide) dX4_goBack_20 (Nat.le_of_ble_eq_true rfl) (c_X4_before hq hr3 hm2 hV27 hmq2) ?_
      refine sw_tope (by rw [mS_s, gbV_bf hr3 hq]) ?_
      refine is_5 X rfl (by omega) dX4_goBack_23 ?_
      refine sw_aload_0 X dX4_goBack_24 ?_
      refine gf_X4_7 X dX4_goBack_25 ?_
      refine sw_iconst X (nI 0) dX4_goBack_28 (by decide) ?_
      refine ia_5 X rfl (by omega) dX4_goBack_29 ?_
      refine sw_tope (v2 := (M 9 5 0) 0) (by simp only [up5, mS_mS, mS_s]; rw [va_up_ne _ _ (by omega), gbV_hi (by omega) (by omega)]) ?_
      refine sw_if_ne X 62 dX4_goBack_30 (by decide) (fun h30 => ?_) (fun h30 => ?_)
      ·
        refine sw_mem (M2 := mS M (gbV (M 9 5 0) q (mq + 1 - m) m (r + 1))) ?_ (sw_inc1_3 X dX4_goBack_62 trivial (sw_goto X 2 dX4_goBack_65 (by decide) (ih (r + 1) (by omega) (by omega))))
        simp only [up5, mS_mS, mS_s]
        rw [gbV_step hr3 hq]
        first | (rw [if_pos h30]; done) | (rw [if_neg h30]; done)
      ·
        refine sw_aload_0 X dX4_goBack_33 ?_
        refine gf_X4_7 X dX4_goBack_34 ?_
        refine sw_bipush X (nI 30) dX4_goBack_37 (by decide) ?_
        refine sw_iload_1 X dX4_goBack_39 ?_
        refine sw_iadd X dX4_goBack_40 ?_
        try refine sw_tope (nI_add _ _) ?_
        refine sw_aload_0 X dX4_goBack_41 ?_
        refine gf_X4_7 X dX4_goBack_42 ?_
        refine sw_bipush X (nI 30) dX4_goBack_45 (by decide) ?_
        refine sw_iload_1 X dX4_goBack_47 ?_
        refine sw_iadd X dX4_goBack_48 ?_
        try refine sw_tope (nI_add _ _) ?_
        refine ia_5 X rfl (by omega) dX4_goBack_49 ?_
        refine sw_tope (v2 := gbV (M 9 5 0) q (mq + 1 - m) m r (30 + q)) (by simp only [up5, mS_mS, mS_s]; rw [va_up_ne _ _ (by omega)]) ?_
        refine sw_iload_3 X dX4_goBack_50 ?_
        refine sw_aload_0 X dX4_goBack_51 ?_
        refine sw_iload_1 X dX4_goBack_52 ?_
        refine sw_iload_2 X dX4_goBack_53 ?_
        refine sw_iload_3 X dX4_goBack_54 ?_
        refine ca_X4_54 X (by decide) dX4_goBack_55 (Nat.le_of_ble_eq_true rfl) (c_X4_modeBefore hq hr3 hm2 (by simp only [up5, mS_mS, mS_s]; rw [va_up_ne _ _ (by omega), gbV_hi (by omega) (by omega)]; exact hmq) hmq2) ?_
        refine sw_tope (by simp only [up5, mS_mS, mS_s]; rw [gbV_mb hr3 hq]) ?_
        refine ca_X4_44 X (by decide) dX4_goBack_58 (Nat.le_of_ble_eq_true rfl) (c_X4_withMode hr3) ?_
        refine is_5 X rfl (by omega) dX4_goBack_61 ?_
        refine sw_mem (M2 := mS M (gbV (M 9 5 0) q (mq + 1 - m) m (r + 1))) ?_ (sw_inc1_3 X dX4_goBack_62 trivial (sw_goto X 2 dX4_goBack_65 (by decide) (ih (r + 1) (by omega) (by omega))))
        simp only [up5, mS_mS, mS_s]
        rw [gbV_step hr3 hq]
        first | (rw [if_pos h30]; done) | (rw [if_neg h30]; done)
  refine sw_iconst X (nI 0) dX4_goBack_0 (by decide) ?_
  refine sw_istore_3 X dX4_goBack_1 trivial ?_
  exact sw_mem (by rw [gbV_0, mS_id]) (L 0 (by omega))
