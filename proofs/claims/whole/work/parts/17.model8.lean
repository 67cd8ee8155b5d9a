set_option maxHeartbeats 4000000 in
set_option maxRecDepth 100000 in
theorem c_X4_endBadly {G : sv_G} {M : sv_Mem} {q mq : Nat} {res : Int32} (hq : q < 3) (hmq : M 9 5 0 (27 + q) = nI mq) (hmq2 : mq ≤ 12) : sv_Ct G M_X4_endBadly 2 [.ref (sv_ad G 4 9 0), .int (nI q), .int res] M (some (.int res)) (mS (mN M (ebN (M 9 5 0) (M 9 9 0))) (ebS (M 9 5 0) (M 9 9 0) q mq res)) := by
  refine sv_Ct_of (lo := [some (.ref (sv_ad G 4 9 0)), some (.int (nI q)), some (.int res), none]) (pn_X4) rfl (Nat.le_of_ble_eq_true rfl) rfl (fun K X Y => ?_)
  replace X : sv_X G K cX4_endBadly RX4 4 2 := X
  replace Y : sv_Y G K (some .int) _ _ := Y
  show sw_W G K 4 0 _ _ _
  have L : ∀ r, r ≤ 16 → (fun r => sw_W G K 4 2 [some (.ref (sv_ad G 4 9 0)), some (.int (nI q)), some (.int res), some (.int (nI r))] [] (mS M (ebV (M 9 5 0) (M 9 9 0) q r))) r := by
    refine up_ind (N := 16) (P := fun r => sw_W G K 4 2 [some (.ref (sv_ad G 4 9 0)), some (.int (nI q)), some (.int res), some (.int (nI r))] [] (mS M (ebV (M 9 5 0) (M 9 9 0) q r))) ?_
    intro r hr ih
    show sw_W _ _ _ _ _ _ _
    refine sw_iload_3 X dX4_endBadly_2 ?_
    refine sw_bipush X (nI 16) dX4_endBadly_3 (by decide) ?_
    refine sw_icmp_ge X 112 dX4_endBadly_5 (by decide) (fun h5 => ?_) (fun h5 => ?_)
    ·
      have e : r = 16 := by have := (nI_leI (by omega) (by omega)).mp h5; omega
      subst e
      refine sw_aload_0 X dX4_endBadly_112 ?_
      refine gf_X4_22 X dX4_endBadly_113 ?_
      refine sw_iconst X (nI 0) dX4_endBadly_116 (by decide) ?_
      refine sw_iconst X (nI 0) dX4_endBadly_117 (by decide) ?_
      refine is_9 X rfl (by omega) dX4_endBadly_118 ?_
      refine sw_aload_0 X dX4_endBadly_119 ?_
      refine gf_X4_22 X dX4_endBadly_120 ?_
      refine sw_iconst X (nI 1) dX4_endBadly_123 (by decide) ?_
      refine sw_aload_0 X dX4_endBadly_124 ?_
      refine gf_X4_7 X dX4_endBadly_125 ?_
      refine sw_iconst X (nI 0) dX4_endBadly_128 (by decide) ?_
      refine ia_5 X rfl (by omega) dX4_endBadly_129 ?_
      refine sw_tope (v2 := (M 9 5 0) 0) (by rw [up9, mN_s, mS_s, ebV_hi (by omega) (by omega)]) ?_
      refine sw_if_ne X 137 dX4_endBadly_130 (by decide) (fun h130 => ?_) (fun h130 => ?_)
      ·
        refine sw_aload_0 X dX4_endBadly_137 ?_
        refine gf_X4_22 X dX4_endBadly_138 ?_
        refine sw_iconst X (nI 1) dX4_endBadly_141 (by decide) ?_
        refine ia_9 X rfl (by omega) dX4_endBadly_142 ?_
        refine sw_tope (v2 := (if (M 9 5 0) 0 = 0 then nI 0 else (M 9 9 0) 1)) (by first | (rw [if_pos (by first | exact h130 | exact Decidable.of_not_not h130)]; done) | (rw [if_neg h130, up9, mN_n, va_up_ne _ _ (by omega), mS_n]; done)) ?_
        refine is_9 X rfl (by omega) dX4_endBadly_143 ?_
        refine sw_aload_0 X dX4_endBadly_144 ?_
        refine gf_X4_7 X dX4_endBadly_145 ?_
        refine sw_iload_1 X dX4_endBadly_148 ?_
        refine sw_aload_0 X dX4_endBadly_149 ?_
        refine gf_X4_7 X dX4_endBadly_150 ?_
        refine sw_bipush X (nI 27) dX4_endBadly_153 (by decide) ?_
        refine sw_iload_1 X dX4_endBadly_155 ?_
        refine sw_iadd X dX4_endBadly_156 ?_
        try refine sw_tope (nI_add _ _) ?_
        refine ia_5 X rfl (by omega) dX4_endBadly_157 ?_
        refine sw_tope (v2 := nI mq) (by simp only [up9, mN_s, mS_s]; rw [ebV_hi (by omega) (by omega)]; exact hmq) ?_
        refine ca_X4_48 X (by decide) dX4_endBadly_158 (Nat.le_of_ble_eq_true rfl) c_X4_at ?_
        refine sw_aload_0 X dX4_endBadly_161 ?_
        refine gf_X4_22 X dX4_endBadly_162 ?_
        refine sw_iconst X (nI 0) dX4_endBadly_165 (by decide) ?_
        refine ca_X4_57 X (by decide) dX4_endBadly_166 (Nat.le_of_ble_eq_true rfl) (c_X4_join_9 (by unfold rAt; omega) (by omega)) ?_
        simp only [up9, mN_mN, mN_n, mN_s, mS_s, mS_n, mN_mS, mS_mS]
        refine sw_aload_0 X dX4_endBadly_169 ?_
        refine gf_X4_7 X dX4_endBadly_170 ?_
        refine sw_iconst X (nI 1) dX4_endBadly_173 (by decide) ?_
        refine sw_iload_2 X dX4_endBadly_174 ?_
        refine sw_bipush X (-6) dX4_endBadly_175 (by decide) ?_
        refine sw_icmp_ne X 184 dX4_endBadly_177 (by decide) (fun h177 => ?_) (fun h177 => ?_)
        ·
          refine sw_iconst X (nI 4) dX4_endBadly_184 (by decide) ?_
          refine sw_iadd X dX4_endBadly_185 ?_
          try refine sw_tope (nI_add _ _) ?_
          refine sw_dup2 X dX4_endBadly_186 rfl rfl ?_
          refine ia_5 X rfl (by omega) dX4_endBadly_187 ?_
          refine sw_iconst X (nI 1) dX4_endBadly_188 (by decide) ?_
          refine sw_iadd X dX4_endBadly_189 ?_
          try refine sw_tope (nI_add _ _) ?_
          refine is_5 X rfl (by omega) dX4_endBadly_190 ?_
          refine sw_iload_2 X dX4_endBadly_191 ?_
          exact sw_iret X Y dX4_endBadly_192 (rfl) (by simp only [up5, up9, mN_mS, mS_mS, mN_mN, mS_s, mN_n, mS_n, mN_s, mS_id, mN_id, rc_s, rc_n]; unfold ebS ebJ ebN; first | (rw [if_pos h177]; try rfl) | (rw [if_neg h177]; try rfl))
        ·
          refine sw_iconst X (nI 3) dX4_endBadly_180 (by decide) ?_
          refine sw_goto X 185 dX4_endBadly_181 (by decide) ?_
          refine sw_iadd X dX4_endBadly_185 ?_
          try refine sw_tope (nI_add _ _) ?_
          refine sw_dup2 X dX4_endBadly_186 rfl rfl ?_
          refine ia_5 X rfl (by omega) dX4_endBadly_187 ?_
          refine sw_iconst X (nI 1) dX4_endBadly_188 (by decide) ?_
          refine sw_iadd X dX4_endBadly_189 ?_
          try refine sw_tope (nI_add _ _) ?_
          refine is_5 X rfl (by omega) dX4_endBadly_190 ?_
          refine sw_iload_2 X dX4_endBadly_191 ?_
          exact sw_iret X Y dX4_endBadly_192 (rfl) (by simp only [up5, up9, mN_mS, mS_mS, mN_mN, mS_s, mN_n, mS_n, mN_s, mS_id, mN_id, rc_s, rc_n]; unfold ebS ebJ ebN; first | (rw [if_pos h177]; try rfl) | (rw [if_neg h177]; try rfl))
      ·
        refine sw_iconst X (nI 0) dX4_endBadly_133 (by decide) ?_
        refine sw_goto X 143 dX4_endBadly_134 (by decide) ?_
        refine sw_tope (v2 := (if (M 9 5 0) 0 = 0 then nI 0 else (M 9 9 0) 1)) (by first | (rw [if_pos (by first | exact h130 | exact Decidable.of_not_not h130)]; done) | (rw [if_neg h130, up9, mN_n, va_up_ne _ _ (by omega), mS_n]; done)) ?_
        refine is_9 X rfl (by omega) dX4_endBadly_143 ?_
        refine sw_aload_0 X dX4_endBadly_144 ?_
        refine gf_X4_7 X dX4_endBadly_145 ?_
        refine sw_iload_1 X dX4_endBadly_148 ?_
        refine sw_aload_0 X dX4_endBadly_149 ?_
        refine gf_X4_7 X dX4_endBadly_150 ?_
        refine sw_bipush X (nI 27) dX4_endBadly_153 (by decide) ?_
        refine sw_iload_1 X dX4_endBadly_155 ?_
        refine sw_iadd X dX4_endBadly_156 ?_
        try refine sw_tope (nI_add _ _) ?_
        refine ia_5 X rfl (by omega) dX4_endBadly_157 ?_
        refine sw_tope (v2 := nI mq) (by simp only [up9, mN_s, mS_s]; rw [ebV_hi (by omega) (by omega)]; exact hmq) ?_
        refine ca_X4_48 X (by decide) dX4_endBadly_158 (Nat.le_of_ble_eq_true rfl) c_X4_at ?_
        refine sw_aload_0 X dX4_endBadly_161 ?_
        refine gf_X4_22 X dX4_endBadly_162 ?_
        refine sw_iconst X (nI 0) dX4_endBadly_165 (by decide) ?_
        refine ca_X4_57 X (by decide) dX4_endBadly_166 (Nat.le_of_ble_eq_true rfl) (c_X4_join_9 (by unfold rAt; omega) (by omega)) ?_
        simp only [up9, mN_mN, mN_n, mN_s, mS_s, mS_n, mN_mS, mS_mS]
        refine sw_aload_0 X dX4_endBadly_169 ?_
        refine gf_X4_7 X dX4_endBadly_170 ?_
        refine sw_iconst X (nI 1) dX4_endBadly_173 (by decide) ?_
        refine sw_iload_2 X dX4_endBadly_174 ?_
        refine sw_bipush X (-6) dX4_endBadly_175 (by decide) ?_
        refine sw_icmp_ne X 184 dX4_endBadly_177 (by decide) (fun h177 => ?_) (fun h177 => ?_)
        ·
          refine sw_iconst X (nI 4) dX4_endBadly_184 (by decide) ?_
          refine sw_iadd X dX4_endBadly_185 ?_
          try refine sw_tope (nI_add _ _) ?_
          refine sw_dup2 X dX4_endBadly_186 rfl rfl ?_
          refine ia_5 X rfl (by omega) dX4_endBadly_187 ?_
          refine sw_iconst X (nI 1) dX4_endBadly_188 (by decide) ?_
          refine sw_iadd X dX4_endBadly_189 ?_
          try refine sw_tope (nI_add _ _) ?_
          refine is_5 X rfl (by omega) dX4_endBadly_190 ?_
          refine sw_iload_2 X dX4_endBadly_191 ?_
          exact sw_iret X Y dX4_endBadly_192 (rfl) (by simp only [up5, up9, mN_mS, mS_mS, mN_mN, mS_s, mN_n, mS_n, mN_s, mS_id, mN_id, rc_s, rc_n]; unfold ebS ebJ ebN; first | (rw [if_pos h177]; try rfl) | (rw [if_neg h177]; try rfl))
        ·
          refine sw_iconst X (nI 3) dX4_endBadly_180 (by decide) ?_
          refine sw_goto X 185 dX4_endBadly_181 (by decide) ?_
          refine sw_iadd X dX4_endBadly_185 ?_
          try refine sw_tope (nI_add _ _) ?_
          refine sw_dup2 X dX4_endBadly_186 rfl rfl ?_
          refine ia_5 X rfl (by omega) dX4_endBadly_187 ?_
          refine sw_iconst X (nI 1) dX4_endBadly_188 (by decide) ?_
          refine sw_iadd X dX4_endBadly_189 ?_
          try refine sw_tope (nI_add _ _) ?_
          refine is_5 X rfl (by omega) dX4_endBadly_190 ?_
          refine sw_iload_2 X dX4_endBadly_191 ?_
          exact sw_iret X Y dX4_endBadly_192 (rfl) (by simp only [up5, up9, mN_mS, mS_mS, mN_mN, mS_s, mN_n, mS_n, mN_s, mS_id, mN_id, rc_s, rc_n]; unfold ebS ebJ ebN; first | (rw [if_pos h177]; try rfl) | (rw [if_neg h177]; try rfl))
    ·
      have hr3 : r < 16 := by have := mt (nI_leI (by omega) (by omega)).mpr h5; omega
      have J : ∀ v, v = (if bt ((M 9 9 0) 0) r = true then (M 9 9 0) (3 + r) else (M 9 5 0) (8 + r)) → sw_W G K 4 49 [some (.ref (sv_ad G 4 9 0)), some (.int (nI q)), some (.int res), some (.int (nI r))] [.int v, .int (nI (8 + r)), .ref (sv_ad G 5 9 0)] (mS M (ebV (M 9 5 0) (M 9 9 0) q r)) := by
        intro v hv
        refine is_5 X rfl (by omega) dX4_endBadly_49 ?_
        refine sw_aload_0 X dX4_endBadly_50 ?_
        refine gf_X4_7 X dX4_endBadly_51 ?_
        refine sw_iconst X (nI 0) dX4_endBadly_54 (by decide) ?_
        refine ia_5 X rfl (by omega) dX4_endBadly_55 ?_
        refine sw_tope (v2 := (M 9 5 0) 0) (by simp only [up5, mS_mS, mS_s]; rw [va_up_ne _ _ (by omega), ebV_hi (by omega) (by omega)]) ?_
        refine sw_if_ne X 106 dX4_endBadly_56 (by decide) (fun h56 => ?_) (fun h56 => ?_)
        ·
          refine sw_mem (M2 := mS M (ebV (M 9 5 0) (M 9 9 0) q (r + 1))) ?_ (sw_inc1_3 X dX4_endBadly_106 trivial (sw_goto X 2 dX4_endBadly_109 (by decide) (ih (r + 1) (by omega) (by omega))))
          simp only [up5, mS_mS, mS_s]
          have e9 : ebA (M 9 5 0) (M 9 9 0) q r = va_up (ebV (M 9 5 0) (M 9 9 0) q r) (8 + r) v := by rw [hv]; rfl
          rw [ebV_step hr3, e9]
          first | (rw [if_pos ⟨h56, h69⟩]; done) | (rw [if_pos ⟨h56, h69⟩]; rfl) | (rw [if_neg (fun z => h56 z.1)]; done) | (rw [if_neg (fun z => h69 z.2)]; done)
        ·
          refine sw_aload_0 X dX4_endBadly_59 ?_
          refine gf_X4_22 X dX4_endBadly_60 ?_
          refine sw_iconst X (nI 1) dX4_endBadly_63 (by decide) ?_
          refine ia_9 X rfl (by omega) dX4_endBadly_64 ?_
          refine sw_tope (v2 := (M 9 9 0) 1) (by simp only [up5, mS_n]) ?_
          refine sw_iload_3 X dX4_endBadly_65 ?_
          refine ca_X4_40 X (by decide) dX4_endBadly_66 (Nat.le_of_ble_eq_true rfl) (c_X4_has (by omega)) ?_
          refine sw_ifB_eq X 106 dX4_endBadly_69 (by decide) (fun h69 => ?_) (fun h69 => ?_)
          ·
            refine sw_mem (M2 := mS M (ebV (M 9 5 0) (M 9 9 0) q (r + 1))) ?_ (sw_inc1_3 X dX4_endBadly_106 trivial (sw_goto X 2 dX4_endBadly_109 (by decide) (ih (r + 1) (by omega) (by omega))))
            simp only [up5, mS_mS, mS_s]
            have e9 : ebA (M 9 5 0) (M 9 9 0) q r = va_up (ebV (M 9 5 0) (M 9 9 0) q r) (8 + r) v := by rw [hv]; rfl
            rw [ebV_step hr3, e9]
            first | (rw [if_pos ⟨h56, h69⟩]; done) | (rw [if_pos ⟨h56, h69⟩]; rfl) | (rw [if_neg (fun z => h56 z.1)]; done) | (rw [if_neg (fun z => h69 z.2)]; done)
          ·
            refine sw_aload_0 X dX4_endBadly_72 ?_
            refine gf_X4_7 X dX4_endBadly_73 ?_
            refine sw_bipush X (nI 30) dX4_endBadly_76 (by decide) ?_
            refine sw_iload_1 X dX4_endBadly_78 ?_
            refine sw_iadd X dX4_endBadly_79 ?_
            try refine sw_tope (nI_add _ _) ?_
            refine sw_aload_0 X dX4_endBadly_80 ?_
            refine gf_X4_7 X dX4_endBadly_81 ?_
            refine sw_bipush X (nI 30) dX4_endBadly_84 (by decide) ?_
            refine sw_iload_1 X dX4_endBadly_86 ?_
            refine sw_iadd X dX4_endBadly_87 ?_
            try refine sw_tope (nI_add _ _) ?_
            refine ia_5 X rfl (by omega) dX4_endBadly_88 ?_
            refine sw_tope (v2 := ebV (M 9 5 0) (M 9 9 0) q r (30 + q)) (by simp only [up5, mS_mS, mS_s]; rw [va_up_ne _ _ (by omega)]) ?_
            refine sw_iload_3 X dX4_endBadly_89 ?_
            refine sw_aload_0 X dX4_endBadly_90 ?_
            refine gf_X4_22 X dX4_endBadly_91 ?_
            refine sw_iconst X (nI 2) dX4_endBadly_94 (by decide) ?_
            refine ia_9 X rfl (by omega) dX4_endBadly_95 ?_
            refine sw_tope (v2 := (M 9 9 0) 2) (by simp only [up5, mS_n]) ?_
            refine sw_iconst X (nI 2) dX4_endBadly_96 (by decide) ?_
            refine sw_iload_3 X dX4_endBadly_97 ?_
            refine sw_imul X dX4_endBadly_98 ?_
            try refine sw_tope (pk_mul _ _) ?_
            refine sw_ishr X dX4_endBadly_99 ?_
            refine sw_iconst X (nI 3) dX4_endBadly_100 (by decide) ?_
            refine sw_iand X dX4_endBadly_101 ?_
            refine ca_X4_44 X (by decide) dX4_endBadly_102 (Nat.le_of_ble_eq_true rfl) (c_X4_withMode hr3) ?_
            refine is_5 X rfl (by omega) dX4_endBadly_105 ?_
            refine sw_mem (M2 := mS M (ebV (M 9 5 0) (M 9 9 0) q (r + 1))) ?_ (sw_inc1_3 X dX4_endBadly_106 trivial (sw_goto X 2 dX4_endBadly_109 (by decide) (ih (r + 1) (by omega) (by omega))))
            simp only [up5, mS_mS, mS_s]
            have e9 : ebA (M 9 5 0) (M 9 9 0) q r = va_up (ebV (M 9 5 0) (M 9 9 0) q r) (8 + r) v := by rw [hv]; rfl
            rw [ebV_step hr3, e9]
            first | (rw [if_pos ⟨h56, h69⟩]; done) | (rw [if_pos ⟨h56, h69⟩]; rfl) | (rw [if_neg (fun z => h56 z.1)]; done) | (rw [if_neg (fun z => h69 z.2)]; done)
      refine sw_aload_0 X dX4_endBadly_8 ?_
      refine gf_X4_7 X dX4_endBadly_9 ?_
      refine sw_bipush X (nI 8) dX4_endBadly_12 (by decide) ?_
      refine sw_iload_3 X dX4_endBadly_14 ?_
      refine sw_iadd X dX4_endBadly_15 ?_
      try refine sw_tope (nI_add _ _) ?_
      refine sw_aload_0 X dX4_endBadly_16 ?_
      refine gf_X4_22 X dX4_endBadly_17 ?_
      refine sw_iconst X (nI 0) dX4_endBadly_20 (by decide) ?_
      refine ia_9 X rfl (by omega) dX4_endBadly_21 ?_
      refine sw_tope (v2 := (M 9 9 0) 0) (by rw [mS_n]) ?_
      refine sw_iload_3 X dX4_endBadly_22 ?_
      refine ca_X4_40 X (by decide) dX4_endBadly_23 (Nat.le_of_ble_eq_true rfl) (c_X4_has (by omega)) ?_
      refine sw_ifB_eq X 40 dX4_endBadly_26 (by decide) (fun h26 => ?_) (fun h26 => ?_)
      ·
        refine sw_aload_0 X dX4_endBadly_40 ?_
        refine gf_X4_7 X dX4_endBadly_41 ?_
        refine sw_bipush X (nI 8) dX4_endBadly_44 (by decide) ?_
        refine sw_iload_3 X dX4_endBadly_46 ?_
        refine sw_iadd X dX4_endBadly_47 ?_
        try refine sw_tope (nI_add _ _) ?_
        refine ia_5 X rfl (by omega) dX4_endBadly_48 ?_
        first | exact J _ (if_pos h26).symm | exact J _ ((if_neg h26).trans (by rw [mS_s, ebV_hi (by omega) (by omega)])).symm
      ·
        refine sw_aload_0 X dX4_endBadly_29 ?_
        refine gf_X4_22 X dX4_endBadly_30 ?_
        refine sw_iconst X (nI 3) dX4_endBadly_33 (by decide) ?_
        refine sw_iload_3 X dX4_endBadly_34 ?_
        refine sw_iadd X dX4_endBadly_35 ?_
        try refine sw_tope (nI_add _ _) ?_
        refine ia_9 X rfl (by omega) dX4_endBadly_36 ?_
        refine sw_tope (v2 := (M 9 9 0) (3 + r)) (by rw [mS_n]) ?_
        refine sw_goto X 49 dX4_endBadly_37 (by decide) ?_
        first | exact J _ (if_pos h26).symm | exact J _ ((if_neg h26).trans (by rw [mS_s, ebV_hi (by omega) (by omega)])).symm
  refine sw_iconst X (nI 0) dX4_endBadly_0 (by decide) ?_
  refine sw_istore_3 X dX4_endBadly_1 trivial ?_
  exact sw_mem (by rw [ebV_0, mS_id]) (L 0 (by omega))
