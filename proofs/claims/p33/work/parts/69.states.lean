theorem busy_bit {T : sv_T} {k q : Nat} {mode : Int32} (hq : q < 3) : (bcS T k mode 3 >>> (nI q &&& 31)) &&& nI 1 = if busyC T q k mode then nI 1 else nI 0 := by
  rw [bt_shr1 _ (by omega), bcS_bt (by omega) 3 (Nat.le_refl _), decide_eq_true hq, Bool.true_and]
  by_cases h : busyC T q k mode
  · rw [if_pos h, if_pos (decide_eq_true h)]
  · rw [if_neg h, if_neg (by rw [decide_eq_false h]; decide)]
theorem ad0 (x : Int32) : x + nI 0 = x := Int32.add_zero x

set_option maxHeartbeats 4000000 in
set_option maxRecDepth 100000 in
theorem c_L_states_c {G : sv_G} {M : sv_Mem} (hg : 2 < gn G) {cs : Nat → Nat} {q s : Nat} (hq : q < 3) (hs : s < 6) (hl : cs q ≤ 13) {v kv : Int32} {M2 : sv_Mem} (cD : sv_Ct G M_L_doneBy 6 [.ref (sv_ad G 0 8 0), .int (nI s), .int (nI q), .int v] M (some (.int (-4))) M2) (hc2 : M2 0 14 q 0 = nI (cs q)) (hz : cs q = 0) (hV : (∀ k, k < 16 → M2 0 11 0 k = M2 9 5 0 k)) (hMo : ∀ r, r < 48 → r / 16 ≠ 3 → md (M2 0 14 (r / 16) 1) (r % 16) = M2 9 6 0 r) (ht : M2 0 13 0 2 = M 0 13 0 2) : sv_Ct G M_L_states 7 [.ref (sv_ad G 0 8 0), .int (nI s), .int (nI q), .int v, .int kv, .ref (sv_ad G 5 9 0), .ref (sv_ad G 6 9 0)] M (some (.int (nI 1))) (M2) := by
  refine sv_Ct_of (lo := [some (.ref (sv_ad G 0 8 0)), some (.int (nI s)), some (.int (nI q)), some (.int v), some (.int kv), some (.ref (sv_ad G 5 9 0)), some (.ref (sv_ad G 6 9 0)), none, none, none, none, none, none, none, none]) (pn_L) rfl (Nat.le_of_ble_eq_true rfl) rfl (fun K X Y => ?_)
  replace X : sv_X G K cL_states RL 15 7 := X
  replace Y : sv_Y G K (some .boolean) _ _ := Y
  show sw_W G K 15 0 _ _ _
  have hk5 := lowN_lt v (n := 5) (by decide)
  have H28 : ∀ x8 : Int32, x8 = (if busyC (M 0) q (lowN v 5) (nI (if s = 0 then 1 else 2)) then nI 1 else nI 0) → sw_W G K 15 28 [some (.ref (sv_ad G 0 8 0)), some (.int (nI s)), some (.int (nI q)), some (.int v), some (.int kv), some (.ref (sv_ad G 5 9 0)), some (.ref (sv_ad G 6 9 0)), some (.int (nI (lowN v 5))), some (.int x8), none, none, none, none, none, none] [] M := by
    intro x8 hx8
    refine sw_aload_0 X dL_states_28 ?_
    refine sw_iconst X (nI 2) dL_states_29 (by decide) ?_
    refine ca_L_69 X (by decide) dL_states_30 (Nat.le_of_ble_eq_true rfl) (c_X3_total_y (w := 2) (by omega)) ?_
    refine sw_istore_9 X dL_states_33 trivial ?_
    refine sw_aload_0 X dL_states_35 ?_
    refine sw_iconst X (nI 3) dL_states_36 (by decide) ?_
    refine ca_L_69 X (by decide) dL_states_37 (Nat.le_of_ble_eq_true rfl) (c_X3_total_y (w := 3) (by omega)) ?_
    refine sw_istore_10 X dL_states_40 trivial ?_
    refine sw_aload_0 X dL_states_42 ?_
    refine sw_iconst X (nI 4) dL_states_43 (by decide) ?_
    refine ca_L_69 X (by decide) dL_states_44 (Nat.le_of_ble_eq_true rfl) (c_X3_total_y (w := 4) (by omega)) ?_
    refine sw_istore_11 X dL_states_47 trivial ?_
    refine sw_aload_0 X dL_states_49 ?_
    refine sw_iload_1 X dL_states_50 ?_
    refine sw_iload_2 X dL_states_51 ?_
    refine sw_iload_3 X dL_states_52 ?_
    refine ca_L_72 X (by decide) dL_states_53 (Nat.le_of_ble_eq_true rfl) cD ?_
    refine sw_istore_12 X dL_states_56 trivial ?_
    refine sw_aload_0 X dL_states_58 ?_
    refine sw_iload_2 X dL_states_59 ?_
    refine sw_iconst X (nI 0) dL_states_60 (by decide) ?_
    refine ca_L_23 X (by decide) dL_states_61 (Nat.le_of_ble_eq_true rfl) (c_X3_session_0 hq hc2 hl) ?_
    refine sw_if_ne X 109 dL_states_64 (by decide) (fun h64 => ?_) (fun h64 => ?_)
    ·
      exact absurd (bI_f (fun z => z hz)) h64
    ·
      refine sw_iload_12 X dL_states_67 ?_
      refine sw_bipush X (-4) dL_states_69 (by decide) ?_
      refine sw_icmp_ne X 107 dL_states_71 (by decide) (fun h71 => ?_) (fun h71 => ?_)
      ·
        exact absurd rfl h71
      ·
        refine sw_aload_0 X dL_states_74 ?_
        refine sw_aload_5 X dL_states_75 ?_
        refine ca_L_76 X (by decide) dL_states_77 (Nat.le_of_ble_eq_true rfl) (c_L_areValues (by omega) hV) ?_
        refine sw_if_eq X 107 dL_states_80 (by decide) (fun h80 => ?_) (fun h80 => ?_)
        ·
          exact absurd h80 (by decide)
        ·
          refine sw_aload_0 X dL_states_83 ?_
          refine sw_aload_6 X dL_states_84 ?_
          refine sw_iconst X (nI 3) dL_states_86 (by decide) ?_
          refine ca_L_80 X (by decide) dL_states_87 (Nat.le_of_ble_eq_true rfl) (c_L_otherModes (by omega) (bn := 3) hMo) ?_
          refine sw_if_ne X 107 dL_states_90 (by decide) (fun h90 => ?_) (fun h90 => ?_)
          ·
            exact absurd rfl h90
          ·
            refine sw_aload_0 X dL_states_93 ?_
            refine sw_iconst X (nI 2) dL_states_94 (by decide) ?_
            refine ca_L_69 X (by decide) dL_states_95 (Nat.le_of_ble_eq_true rfl) (c_X3_total_y (w := 2) (by omega)) ?_
            refine sw_iload_9 X dL_states_98 ?_
            refine sw_icmp_ne X 107 dL_states_100 (by decide) (fun h100 => ?_) (fun h100 => ?_)
            ·
              exact absurd ht h100
            ·
              refine sw_iconst X (nI 1) dL_states_103 (by decide) ?_
              refine sw_goto X 108 dL_states_104 (by decide) ?_
              exact sw_zret X Y dL_states_108 (by first | rfl | exact sv_nzB) (rfl) (rfl)
  refine sw_iload_3 X dL_states_0 ?_
  refine sw_iconst X (nI 5) dL_states_1 (by decide) ?_
  refine ca_L_46 X (by decide) dL_states_2 (Nat.le_of_ble_eq_true rfl) (c_L_low (n := 5) (by decide) (by decide)) ?_
  refine sw_istore_7 X dL_states_5 trivial ?_
  refine sw_aload_0 X dL_states_7 ?_
  refine sw_iload_7 X dL_states_8 ?_
  refine sw_iload_1 X dL_states_10 ?_
  refine sw_if_ne X 18 dL_states_11 (by decide) (fun h11 => ?_) (fun h11 => ?_)
  ·
    refine sw_iconst X (nI 2) dL_states_18 (by decide) ?_
    refine ca_L_66 X (by decide) dL_states_19 (Nat.le_of_ble_eq_true rfl) (c_X3_busyFor_y (by omega) (by first | exact Or.inr rfl | exact Or.inl rfl)) ?_
    refine sw_iload_2 X dL_states_22 ?_
    refine sw_ishr X dL_states_23 ?_
    refine sw_iconst X (nI 1) dL_states_24 (by decide) ?_
    refine sw_iand X dL_states_25 ?_
    refine sw_istore_8 X dL_states_26 trivial ?_
    exact H28 _ (by rw [busy_bit hq]; first | rw [if_neg (fun z : s = 0 => h11 (by rw [z]; rfl))] | rw [if_pos (show s = 0 from nJ (b := 0) (by omega) (by omega) h11)])
  ·
    refine sw_iconst X (nI 1) dL_states_14 (by decide) ?_
    refine sw_goto X 19 dL_states_15 (by decide) ?_
    refine ca_L_66 X (by decide) dL_states_19 (Nat.le_of_ble_eq_true rfl) (c_X3_busyFor_y (by omega) (by first | exact Or.inr rfl | exact Or.inl rfl)) ?_
    refine sw_iload_2 X dL_states_22 ?_
    refine sw_ishr X dL_states_23 ?_
    refine sw_iconst X (nI 1) dL_states_24 (by decide) ?_
    refine sw_iand X dL_states_25 ?_
    refine sw_istore_8 X dL_states_26 trivial ?_
    exact H28 _ (by rw [busy_bit hq]; first | rw [if_neg (fun z : s = 0 => h11 (by rw [z]; rfl))] | rw [if_pos (show s = 0 from nJ (b := 0) (by omega) (by omega) h11)])
set_option maxHeartbeats 4000000 in
set_option maxRecDepth 100000 in
theorem c_L_states_6 {G : sv_G} {M : sv_Mem} (hg : 2 < gn G) {cs : Nat → Nat} {q s : Nat} (hq : q < 3) (hs : s < 6) (hl : cs q ≤ 13) {v kv : Int32} {M2 : sv_Mem} (cD : sv_Ct G M_L_doneBy 6 [.ref (sv_ad G 0 8 0), .int (nI s), .int (nI q), .int v] M (some (.int (-6))) M2) (hc2 : M2 0 14 q 0 = nI (cs q)) (hz : cs q ≠ 0) (hMq : ∀ r, r < 48 → r / 16 ≠ q → md (M2 0 14 (r / 16) 1) (r % 16) = M2 9 6 0 r) (hV : (∀ k, k < 16 → M2 0 11 0 k = M2 9 5 0 k)) (hM3 : ¬ kv = nI 1 → ∀ r, r < 48 → r / 16 ≠ 3 → md (M2 0 14 (r / 16) 1) (r % 16) = M2 9 6 0 r) (ht2 : M2 0 13 0 2 = M 0 13 0 2) (ht3 : M2 0 13 0 3 = M 0 13 0 3 + nI 1) (ht4 : M2 0 13 0 4 = M 0 13 0 4) (hbz : s < 4 → busyC (M 0) q (lowN v 5) (nI (if s = 0 then 1 else 2))) : sv_Ct G M_L_states 7 [.ref (sv_ad G 0 8 0), .int (nI s), .int (nI q), .int v, .int kv, .ref (sv_ad G 5 9 0), .ref (sv_ad G 6 9 0)] M (some (.int (nI 1))) (M2) := by
  refine sv_Ct_of (lo := [some (.ref (sv_ad G 0 8 0)), some (.int (nI s)), some (.int (nI q)), some (.int v), some (.int kv), some (.ref (sv_ad G 5 9 0)), some (.ref (sv_ad G 6 9 0)), none, none, none, none, none, none, none, none]) (pn_L) rfl (Nat.le_of_ble_eq_true rfl) rfl (fun K X Y => ?_)
  replace X : sv_X G K cL_states RL 15 7 := X
  replace Y : sv_Y G K (some .boolean) _ _ := Y
  show sw_W G K 15 0 _ _ _
  have hk5 := lowN_lt v (n := 5) (by decide)
  have H28 : ∀ x8 : Int32, x8 = (if busyC (M 0) q (lowN v 5) (nI (if s = 0 then 1 else 2)) then nI 1 else nI 0) → sw_W G K 15 28 [some (.ref (sv_ad G 0 8 0)), some (.int (nI s)), some (.int (nI q)), some (.int v), some (.int kv), some (.ref (sv_ad G 5 9 0)), some (.ref (sv_ad G 6 9 0)), some (.int (nI (lowN v 5))), some (.int x8), none, none, none, none, none, none] [] M := by
    intro x8 hx8
    refine sw_aload_0 X dL_states_28 ?_
    refine sw_iconst X (nI 2) dL_states_29 (by decide) ?_
    refine ca_L_69 X (by decide) dL_states_30 (Nat.le_of_ble_eq_true rfl) (c_X3_total_y (w := 2) (by omega)) ?_
    refine sw_istore_9 X dL_states_33 trivial ?_
    refine sw_aload_0 X dL_states_35 ?_
    refine sw_iconst X (nI 3) dL_states_36 (by decide) ?_
    refine ca_L_69 X (by decide) dL_states_37 (Nat.le_of_ble_eq_true rfl) (c_X3_total_y (w := 3) (by omega)) ?_
    refine sw_istore_10 X dL_states_40 trivial ?_
    refine sw_aload_0 X dL_states_42 ?_
    refine sw_iconst X (nI 4) dL_states_43 (by decide) ?_
    refine ca_L_69 X (by decide) dL_states_44 (Nat.le_of_ble_eq_true rfl) (c_X3_total_y (w := 4) (by omega)) ?_
    refine sw_istore_11 X dL_states_47 trivial ?_
    refine sw_aload_0 X dL_states_49 ?_
    refine sw_iload_1 X dL_states_50 ?_
    refine sw_iload_2 X dL_states_51 ?_
    refine sw_iload_3 X dL_states_52 ?_
    refine ca_L_72 X (by decide) dL_states_53 (Nat.le_of_ble_eq_true rfl) cD ?_
    refine sw_istore_12 X dL_states_56 trivial ?_
    refine sw_aload_0 X dL_states_58 ?_
    refine sw_iload_2 X dL_states_59 ?_
    refine sw_iconst X (nI 0) dL_states_60 (by decide) ?_
    refine ca_L_23 X (by decide) dL_states_61 (Nat.le_of_ble_eq_true rfl) (c_X3_session_0 hq hc2 hl) ?_
    refine sw_if_ne X 109 dL_states_64 (by decide) (fun h64 => ?_) (fun h64 => ?_)
    ·
      refine sw_iload_12 X dL_states_109 ?_
      refine sw_bipush X (-6) dL_states_111 (by decide) ?_
      refine sw_icmp_eq X 123 dL_states_113 (by decide) (fun h113 => ?_) (fun h113 => ?_)
      ·
        refine sw_iconst X (nI 1) dL_states_123 (by decide) ?_
        refine sw_goto X 128 dL_states_124 (by decide) ?_
        refine sw_istore_13 X dL_states_128 trivial ?_
        refine sw_aload_0 X dL_states_130 ?_
        refine sw_iconst X (nI 2) dL_states_131 (by decide) ?_
        refine ca_L_69 X (by decide) dL_states_132 (Nat.le_of_ble_eq_true rfl) (c_X3_total_y (w := 2) (by omega)) ?_
        refine sw_iload_9 X dL_states_135 ?_
        refine sw_iload_13 X dL_states_137 ?_
        refine sw_if_eq X 146 dL_states_139 (by decide) (fun h139 => ?_) (fun h139 => ?_)
        ·
          exact absurd h139 (by decide)
        ·
          refine sw_iconst X (nI 0) dL_states_142 (by decide) ?_
          refine sw_goto X 147 dL_states_143 (by decide) ?_
          refine sw_iadd X dL_states_147 ?_
          try refine sw_tope (nI_add _ _) ?_
          refine sw_icmp_ne X 242 dL_states_148 (by decide) (fun h148 => ?_) (fun h148 => ?_)
          ·
            exact absurd (ht2.trans (ad0 _).symm) h148
          ·
            refine sw_aload_0 X dL_states_151 ?_
            refine sw_iconst X (nI 3) dL_states_152 (by decide) ?_
            refine ca_L_69 X (by decide) dL_states_153 (Nat.le_of_ble_eq_true rfl) (c_X3_total_y (w := 3) (by omega)) ?_
            refine sw_iload_10 X dL_states_156 ?_
            refine sw_iload_12 X dL_states_158 ?_
            refine sw_bipush X (-6) dL_states_160 (by decide) ?_
            refine sw_icmp_ne X 169 dL_states_162 (by decide) (fun h162 => ?_) (fun h162 => ?_)
            ·
              exact absurd rfl h162
            ·
              refine sw_iconst X (nI 1) dL_states_165 (by decide) ?_
              refine sw_goto X 170 dL_states_166 (by decide) ?_
              refine sw_iadd X dL_states_170 ?_
              try refine sw_tope (nI_add _ _) ?_
              refine sw_icmp_ne X 242 dL_states_171 (by decide) (fun h171 => ?_) (fun h171 => ?_)
              ·
                exact absurd ht3 h171
              ·
                refine sw_aload_0 X dL_states_174 ?_
                refine sw_iconst X (nI 4) dL_states_175 (by decide) ?_
                refine ca_L_69 X (by decide) dL_states_176 (Nat.le_of_ble_eq_true rfl) (c_X3_total_y (w := 4) (by omega)) ?_
                refine sw_iload_11 X dL_states_179 ?_
                refine sw_iload_12 X dL_states_181 ?_
                refine sw_bipush X (-7) dL_states_183 (by decide) ?_
                refine sw_icmp_ne X 192 dL_states_185 (by decide) (fun h185 => ?_) (fun h185 => ?_)
                ·
                  refine sw_iconst X (nI 0) dL_states_192 (by decide) ?_
                  refine sw_iadd X dL_states_193 ?_
                  try refine sw_tope (nI_add _ _) ?_
                  refine sw_icmp_ne X 242 dL_states_194 (by decide) (fun h194 => ?_) (fun h194 => ?_)
                  ·
                    exact absurd (ht4.trans (ad0 _).symm) h194
                  ·
                    refine sw_aload_0 X dL_states_197 ?_
                    refine sw_aload_6 X dL_states_198 ?_
                    refine sw_iload_2 X dL_states_200 ?_
                    refine ca_L_80 X (by decide) dL_states_201 (Nat.le_of_ble_eq_true rfl) (c_L_otherModes (by omega) (bn := q) hMq) ?_
                    refine sw_if_ne X 242 dL_states_204 (by decide) (fun h204 => ?_) (fun h204 => ?_)
                    ·
                      exact absurd rfl h204
                    ·
                      refine sw_iload_1 X dL_states_207 ?_
                      refine sw_iconst X (nI 3) dL_states_208 (by decide) ?_
                      refine sw_icmp_gt X 238 dL_states_209 (by decide) (fun h209 => ?_) (fun h209 => ?_)
                      ·
                        refine sw_iconst X (nI 1) dL_states_238 (by decide) ?_
                        refine sw_goto X 243 dL_states_239 (by decide) ?_
                        refine sw_istore_14 X dL_states_243 trivial ?_
                        refine sw_iload_13 X dL_states_245 ?_
                        refine sw_if_eq X 286 dL_states_247 (by decide) (fun h247 => ?_) (fun h247 => ?_)
                        ·
                          exact absurd h247 (by decide)
                        ·
                          refine sw_iload_14 X dL_states_250 ?_
                          refine sw_if_eq X 284 dL_states_252 (by decide) (fun h252 => ?_) (fun h252 => ?_)
                          ·
                            exact absurd h252 (by decide)
                          ·
                            refine sw_aload_0 X dL_states_255 ?_
                            refine sw_aload_5 X dL_states_256 ?_
                            refine ca_L_76 X (by decide) dL_states_258 (Nat.le_of_ble_eq_true rfl) (c_L_areValues (by omega) hV) ?_
                            refine sw_if_eq X 284 dL_states_261 (by decide) (fun h261 => ?_) (fun h261 => ?_)
                            ·
                              exact absurd h261 (by decide)
                            ·
                              refine sw_iload_4 X dL_states_264 ?_
                              refine sw_iconst X (nI 1) dL_states_266 (by decide) ?_
                              refine sw_icmp_eq X 280 dL_states_267 (by decide) (fun h267 => ?_) (fun h267 => ?_)
                              ·
                                refine sw_iconst X (nI 1) dL_states_280 (by decide) ?_
                                refine sw_goto X 285 dL_states_281 (by decide) ?_
                                exact sw_zret X Y dL_states_285 (by first | rfl | exact sv_nzB) (rfl) (rfl)
                              ·
                                refine sw_aload_0 X dL_states_270 ?_
                                refine sw_aload_6 X dL_states_271 ?_
                                refine sw_iconst X (nI 3) dL_states_273 (by decide) ?_
                                refine ca_L_80 X (by decide) dL_states_274 (Nat.le_of_ble_eq_true rfl) (c_L_otherModes (by omega) (bn := 3) (hM3 h267)) ?_
                                refine sw_if_ne X 284 dL_states_277 (by decide) (fun h277 => ?_) (fun h277 => ?_)
                                ·
                                  exact absurd rfl h277
                                ·
                                  refine sw_iconst X (nI 1) dL_states_280 (by decide) ?_
                                  refine sw_goto X 285 dL_states_281 (by decide) ?_
                                  exact sw_zret X Y dL_states_285 (by first | rfl | exact sv_nzB) (rfl) (rfl)
                      ·
                        refine sw_iload_12 X dL_states_212 ?_
                        refine sw_bipush X (-6) dL_states_214 (by decide) ?_
                        refine sw_icmp_ne X 223 dL_states_216 (by decide) (fun h216 => ?_) (fun h216 => ?_)
                        ·
                          exact absurd rfl h216
                        ·
                          refine sw_iconst X (nI 1) dL_states_219 (by decide) ?_
                          refine sw_goto X 224 dL_states_220 (by decide) ?_
                          refine sw_iload_8 X dL_states_224 ?_
                          refine sw_iconst X (nI 1) dL_states_226 (by decide) ?_
                          refine sw_icmp_ne X 234 dL_states_227 (by decide) (fun h227 => ?_) (fun h227 => ?_)
                          ·
                            exact absurd (hx8.trans (if_pos (hbz (by have := mt (nI_ltI (a := 3) (b := s) (by omega) (by omega)).mpr h209; omega)))) h227
                          ·
                            refine sw_iconst X (nI 1) dL_states_230 (by decide) ?_
                            refine sw_goto X 235 dL_states_231 (by decide) ?_
                            refine sw_icmp_ne X 242 dL_states_235 (by decide) (fun h235 => ?_) (fun h235 => ?_)
                            ·
                              exact absurd rfl h235
                            ·
                              refine sw_iconst X (nI 1) dL_states_238 (by decide) ?_
                              refine sw_goto X 243 dL_states_239 (by decide) ?_
                              refine sw_istore_14 X dL_states_243 trivial ?_
                              refine sw_iload_13 X dL_states_245 ?_
                              refine sw_if_eq X 286 dL_states_247 (by decide) (fun h247 => ?_) (fun h247 => ?_)
                              ·
                                exact absurd h247 (by decide)
                              ·
                                refine sw_iload_14 X dL_states_250 ?_
                                refine sw_if_eq X 284 dL_states_252 (by decide) (fun h252 => ?_) (fun h252 => ?_)
                                ·
                                  exact absurd h252 (by decide)
                                ·
                                  refine sw_aload_0 X dL_states_255 ?_
                                  refine sw_aload_5 X dL_states_256 ?_
                                  refine ca_L_76 X (by decide) dL_states_258 (Nat.le_of_ble_eq_true rfl) (c_L_areValues (by omega) hV) ?_
                                  refine sw_if_eq X 284 dL_states_261 (by decide) (fun h261 => ?_) (fun h261 => ?_)
                                  ·
                                    exact absurd h261 (by decide)
                                  ·
                                    refine sw_iload_4 X dL_states_264 ?_
                                    refine sw_iconst X (nI 1) dL_states_266 (by decide) ?_
                                    refine sw_icmp_eq X 280 dL_states_267 (by decide) (fun h267 => ?_) (fun h267 => ?_)
                                    ·
                                      refine sw_iconst X (nI 1) dL_states_280 (by decide) ?_
                                      refine sw_goto X 285 dL_states_281 (by decide) ?_
                                      exact sw_zret X Y dL_states_285 (by first | rfl | exact sv_nzB) (rfl) (rfl)
                                    ·
                                      refine sw_aload_0 X dL_states_270 ?_
                                      refine sw_aload_6 X dL_states_271 ?_
                                      refine sw_iconst X (nI 3) dL_states_273 (by decide) ?_
                                      refine ca_L_80 X (by decide) dL_states_274 (Nat.le_of_ble_eq_true rfl) (c_L_otherModes (by omega) (bn := 3) (hM3 h267)) ?_
                                      refine sw_if_ne X 284 dL_states_277 (by decide) (fun h277 => ?_) (fun h277 => ?_)
                                      ·
                                        exact absurd rfl h277
                                      ·
                                        refine sw_iconst X (nI 1) dL_states_280 (by decide) ?_
                                        refine sw_goto X 285 dL_states_281 (by decide) ?_
                                        exact sw_zret X Y dL_states_285 (by first | rfl | exact sv_nzB) (rfl) (rfl)
                ·
                  exact absurd h185 (by decide)
      ·
        exact absurd rfl h113
    ·
      exact absurd hz (bI_eq0.mp h64)
  refine sw_iload_3 X dL_states_0 ?_
  refine sw_iconst X (nI 5) dL_states_1 (by decide) ?_
  refine ca_L_46 X (by decide) dL_states_2 (Nat.le_of_ble_eq_true rfl) (c_L_low (n := 5) (by decide) (by decide)) ?_
  refine sw_istore_7 X dL_states_5 trivial ?_
  refine sw_aload_0 X dL_states_7 ?_
  refine sw_iload_7 X dL_states_8 ?_
  refine sw_iload_1 X dL_states_10 ?_
  refine sw_if_ne X 18 dL_states_11 (by decide) (fun h11 => ?_) (fun h11 => ?_)
  ·
    refine sw_iconst X (nI 2) dL_states_18 (by decide) ?_
    refine ca_L_66 X (by decide) dL_states_19 (Nat.le_of_ble_eq_true rfl) (c_X3_busyFor_y (by omega) (by first | exact Or.inr rfl | exact Or.inl rfl)) ?_
    refine sw_iload_2 X dL_states_22 ?_
    refine sw_ishr X dL_states_23 ?_
    refine sw_iconst X (nI 1) dL_states_24 (by decide) ?_
    refine sw_iand X dL_states_25 ?_
    refine sw_istore_8 X dL_states_26 trivial ?_
    exact H28 _ (by rw [busy_bit hq]; first | rw [if_neg (fun z : s = 0 => h11 (by rw [z]; rfl))] | rw [if_pos (show s = 0 from nJ (b := 0) (by omega) (by omega) h11)])
  ·
    refine sw_iconst X (nI 1) dL_states_14 (by decide) ?_
    refine sw_goto X 19 dL_states_15 (by decide) ?_
    refine ca_L_66 X (by decide) dL_states_19 (Nat.le_of_ble_eq_true rfl) (c_X3_busyFor_y (by omega) (by first | exact Or.inr rfl | exact Or.inl rfl)) ?_
    refine sw_iload_2 X dL_states_22 ?_
    refine sw_ishr X dL_states_23 ?_
    refine sw_iconst X (nI 1) dL_states_24 (by decide) ?_
    refine sw_iand X dL_states_25 ?_
    refine sw_istore_8 X dL_states_26 trivial ?_
    exact H28 _ (by rw [busy_bit hq]; first | rw [if_neg (fun z : s = 0 => h11 (by rw [z]; rfl))] | rw [if_pos (show s = 0 from nJ (b := 0) (by omega) (by omega) h11)])
set_option maxHeartbeats 4000000 in
set_option maxRecDepth 100000 in
theorem c_L_states_7 {G : sv_G} {M : sv_Mem} (hg : 2 < gn G) {cs : Nat → Nat} {q s : Nat} (hq : q < 3) (hs : s < 6) (hl : cs q ≤ 13) {v kv : Int32} {M2 : sv_Mem} (cD : sv_Ct G M_L_doneBy 6 [.ref (sv_ad G 0 8 0), .int (nI s), .int (nI q), .int v] M (some (.int (-7))) M2) (hc2 : M2 0 14 q 0 = nI (cs q)) (hz : cs q ≠ 0) (hMq : ∀ r, r < 48 → r / 16 ≠ q → md (M2 0 14 (r / 16) 1) (r % 16) = M2 9 6 0 r) (hV : (∀ k, k < 16 → M2 0 11 0 k = M2 9 5 0 k)) (hM3 : ¬ kv = nI 1 → ∀ r, r < 48 → r / 16 ≠ 3 → md (M2 0 14 (r / 16) 1) (r % 16) = M2 9 6 0 r) (ht2 : M2 0 13 0 2 = M 0 13 0 2) (ht3 : M2 0 13 0 3 = M 0 13 0 3) (ht4 : M2 0 13 0 4 = M 0 13 0 4 + nI 1) (hs4 : 4 ≤ s) : sv_Ct G M_L_states 7 [.ref (sv_ad G 0 8 0), .int (nI s), .int (nI q), .int v, .int kv, .ref (sv_ad G 5 9 0), .ref (sv_ad G 6 9 0)] M (some (.int (nI 1))) (M2) := by
  refine sv_Ct_of (lo := [some (.ref (sv_ad G 0 8 0)), some (.int (nI s)), some (.int (nI q)), some (.int v), some (.int kv), some (.ref (sv_ad G 5 9 0)), some (.ref (sv_ad G 6 9 0)), none, none, none, none, none, none, none, none]) (pn_L) rfl (Nat.le_of_ble_eq_true rfl) rfl (fun K X Y => ?_)
  replace X : sv_X G K cL_states RL 15 7 := X
  replace Y : sv_Y G K (some .boolean) _ _ := Y
  show sw_W G K 15 0 _ _ _
  have hk5 := lowN_lt v (n := 5) (by decide)
  have H28 : ∀ x8 : Int32, x8 = (if busyC (M 0) q (lowN v 5) (nI (if s = 0 then 1 else 2)) then nI 1 else nI 0) → sw_W G K 15 28 [some (.ref (sv_ad G 0 8 0)), some (.int (nI s)), some (.int (nI q)), some (.int v), some (.int kv), some (.ref (sv_ad G 5 9 0)), some (.ref (sv_ad G 6 9 0)), some (.int (nI (lowN v 5))), some (.int x8), none, none, none, none, none, none] [] M := by
    intro x8 hx8
    refine sw_aload_0 X dL_states_28 ?_
    refine sw_iconst X (nI 2) dL_states_29 (by decide) ?_
    refine ca_L_69 X (by decide) dL_states_30 (Nat.le_of_ble_eq_true rfl) (c_X3_total_y (w := 2) (by omega)) ?_
    refine sw_istore_9 X dL_states_33 trivial ?_
    refine sw_aload_0 X dL_states_35 ?_
    refine sw_iconst X (nI 3) dL_states_36 (by decide) ?_
    refine ca_L_69 X (by decide) dL_states_37 (Nat.le_of_ble_eq_true rfl) (c_X3_total_y (w := 3) (by omega)) ?_
    refine sw_istore_10 X dL_states_40 trivial ?_
    refine sw_aload_0 X dL_states_42 ?_
    refine sw_iconst X (nI 4) dL_states_43 (by decide) ?_
    refine ca_L_69 X (by decide) dL_states_44 (Nat.le_of_ble_eq_true rfl) (c_X3_total_y (w := 4) (by omega)) ?_
    refine sw_istore_11 X dL_states_47 trivial ?_
    refine sw_aload_0 X dL_states_49 ?_
    refine sw_iload_1 X dL_states_50 ?_
    refine sw_iload_2 X dL_states_51 ?_
    refine sw_iload_3 X dL_states_52 ?_
    refine ca_L_72 X (by decide) dL_states_53 (Nat.le_of_ble_eq_true rfl) cD ?_
    refine sw_istore_12 X dL_states_56 trivial ?_
    refine sw_aload_0 X dL_states_58 ?_
    refine sw_iload_2 X dL_states_59 ?_
    refine sw_iconst X (nI 0) dL_states_60 (by decide) ?_
    refine ca_L_23 X (by decide) dL_states_61 (Nat.le_of_ble_eq_true rfl) (c_X3_session_0 hq hc2 hl) ?_
    refine sw_if_ne X 109 dL_states_64 (by decide) (fun h64 => ?_) (fun h64 => ?_)
    ·
      refine sw_iload_12 X dL_states_109 ?_
      refine sw_bipush X (-6) dL_states_111 (by decide) ?_
      refine sw_icmp_eq X 123 dL_states_113 (by decide) (fun h113 => ?_) (fun h113 => ?_)
      ·
        exact absurd h113 (by decide)
      ·
        refine sw_iload_12 X dL_states_116 ?_
        refine sw_bipush X (-7) dL_states_118 (by decide) ?_
        refine sw_icmp_ne X 127 dL_states_120 (by decide) (fun h120 => ?_) (fun h120 => ?_)
        ·
          exact absurd rfl h120
        ·
          refine sw_iconst X (nI 1) dL_states_123 (by decide) ?_
          refine sw_goto X 128 dL_states_124 (by decide) ?_
          refine sw_istore_13 X dL_states_128 trivial ?_
          refine sw_aload_0 X dL_states_130 ?_
          refine sw_iconst X (nI 2) dL_states_131 (by decide) ?_
          refine ca_L_69 X (by decide) dL_states_132 (Nat.le_of_ble_eq_true rfl) (c_X3_total_y (w := 2) (by omega)) ?_
          refine sw_iload_9 X dL_states_135 ?_
          refine sw_iload_13 X dL_states_137 ?_
          refine sw_if_eq X 146 dL_states_139 (by decide) (fun h139 => ?_) (fun h139 => ?_)
          ·
            exact absurd h139 (by decide)
          ·
            refine sw_iconst X (nI 0) dL_states_142 (by decide) ?_
            refine sw_goto X 147 dL_states_143 (by decide) ?_
            refine sw_iadd X dL_states_147 ?_
            try refine sw_tope (nI_add _ _) ?_
            refine sw_icmp_ne X 242 dL_states_148 (by decide) (fun h148 => ?_) (fun h148 => ?_)
            ·
              exact absurd (ht2.trans (ad0 _).symm) h148
            ·
              refine sw_aload_0 X dL_states_151 ?_
              refine sw_iconst X (nI 3) dL_states_152 (by decide) ?_
              refine ca_L_69 X (by decide) dL_states_153 (Nat.le_of_ble_eq_true rfl) (c_X3_total_y (w := 3) (by omega)) ?_
              refine sw_iload_10 X dL_states_156 ?_
              refine sw_iload_12 X dL_states_158 ?_
              refine sw_bipush X (-6) dL_states_160 (by decide) ?_
              refine sw_icmp_ne X 169 dL_states_162 (by decide) (fun h162 => ?_) (fun h162 => ?_)
              ·
                refine sw_iconst X (nI 0) dL_states_169 (by decide) ?_
                refine sw_iadd X dL_states_170 ?_
                try refine sw_tope (nI_add _ _) ?_
                refine sw_icmp_ne X 242 dL_states_171 (by decide) (fun h171 => ?_) (fun h171 => ?_)
                ·
                  exact absurd (ht3.trans (ad0 _).symm) h171
                ·
                  refine sw_aload_0 X dL_states_174 ?_
                  refine sw_iconst X (nI 4) dL_states_175 (by decide) ?_
                  refine ca_L_69 X (by decide) dL_states_176 (Nat.le_of_ble_eq_true rfl) (c_X3_total_y (w := 4) (by omega)) ?_
                  refine sw_iload_11 X dL_states_179 ?_
                  refine sw_iload_12 X dL_states_181 ?_
                  refine sw_bipush X (-7) dL_states_183 (by decide) ?_
                  refine sw_icmp_ne X 192 dL_states_185 (by decide) (fun h185 => ?_) (fun h185 => ?_)
                  ·
                    exact absurd rfl h185
                  ·
                    refine sw_iconst X (nI 1) dL_states_188 (by decide) ?_
                    refine sw_goto X 193 dL_states_189 (by decide) ?_
                    refine sw_iadd X dL_states_193 ?_
                    try refine sw_tope (nI_add _ _) ?_
                    refine sw_icmp_ne X 242 dL_states_194 (by decide) (fun h194 => ?_) (fun h194 => ?_)
                    ·
                      exact absurd ht4 h194
                    ·
                      refine sw_aload_0 X dL_states_197 ?_
                      refine sw_aload_6 X dL_states_198 ?_
                      refine sw_iload_2 X dL_states_200 ?_
                      refine ca_L_80 X (by decide) dL_states_201 (Nat.le_of_ble_eq_true rfl) (c_L_otherModes (by omega) (bn := q) hMq) ?_
                      refine sw_if_ne X 242 dL_states_204 (by decide) (fun h204 => ?_) (fun h204 => ?_)
                      ·
                        exact absurd rfl h204
                      ·
                        refine sw_iload_1 X dL_states_207 ?_
                        refine sw_iconst X (nI 3) dL_states_208 (by decide) ?_
                        refine sw_icmp_gt X 238 dL_states_209 (by decide) (fun h209 => ?_) (fun h209 => ?_)
                        ·
                          refine sw_iconst X (nI 1) dL_states_238 (by decide) ?_
                          refine sw_goto X 243 dL_states_239 (by decide) ?_
                          refine sw_istore_14 X dL_states_243 trivial ?_
                          refine sw_iload_13 X dL_states_245 ?_
                          refine sw_if_eq X 286 dL_states_247 (by decide) (fun h247 => ?_) (fun h247 => ?_)
                          ·
                            exact absurd h247 (by decide)
                          ·
                            refine sw_iload_14 X dL_states_250 ?_
                            refine sw_if_eq X 284 dL_states_252 (by decide) (fun h252 => ?_) (fun h252 => ?_)
                            ·
                              exact absurd h252 (by decide)
                            ·
                              refine sw_aload_0 X dL_states_255 ?_
                              refine sw_aload_5 X dL_states_256 ?_
                              refine ca_L_76 X (by decide) dL_states_258 (Nat.le_of_ble_eq_true rfl) (c_L_areValues (by omega) hV) ?_
                              refine sw_if_eq X 284 dL_states_261 (by decide) (fun h261 => ?_) (fun h261 => ?_)
                              ·
                                exact absurd h261 (by decide)
                              ·
                                refine sw_iload_4 X dL_states_264 ?_
                                refine sw_iconst X (nI 1) dL_states_266 (by decide) ?_
                                refine sw_icmp_eq X 280 dL_states_267 (by decide) (fun h267 => ?_) (fun h267 => ?_)
                                ·
                                  refine sw_iconst X (nI 1) dL_states_280 (by decide) ?_
                                  refine sw_goto X 285 dL_states_281 (by decide) ?_
                                  exact sw_zret X Y dL_states_285 (by first | rfl | exact sv_nzB) (rfl) (rfl)
                                ·
                                  refine sw_aload_0 X dL_states_270 ?_
                                  refine sw_aload_6 X dL_states_271 ?_
                                  refine sw_iconst X (nI 3) dL_states_273 (by decide) ?_
                                  refine ca_L_80 X (by decide) dL_states_274 (Nat.le_of_ble_eq_true rfl) (c_L_otherModes (by omega) (bn := 3) (hM3 h267)) ?_
                                  refine sw_if_ne X 284 dL_states_277 (by decide) (fun h277 => ?_) (fun h277 => ?_)
                                  ·
                                    exact absurd rfl h277
                                  ·
                                    refine sw_iconst X (nI 1) dL_states_280 (by decide) ?_
                                    refine sw_goto X 285 dL_states_281 (by decide) ?_
                                    exact sw_zret X Y dL_states_285 (by first | rfl | exact sv_nzB) (rfl) (rfl)
                        ·
                          exact absurd h209 (fun z => z ((nI_ltI (a := 3) (b := s) (by omega) (by omega)).mpr (by omega)))
              ·
                exact absurd h162 (by decide)
    ·
      exact absurd hz (bI_eq0.mp h64)
  refine sw_iload_3 X dL_states_0 ?_
  refine sw_iconst X (nI 5) dL_states_1 (by decide) ?_
  refine ca_L_46 X (by decide) dL_states_2 (Nat.le_of_ble_eq_true rfl) (c_L_low (n := 5) (by decide) (by decide)) ?_
  refine sw_istore_7 X dL_states_5 trivial ?_
  refine sw_aload_0 X dL_states_7 ?_
  refine sw_iload_7 X dL_states_8 ?_
  refine sw_iload_1 X dL_states_10 ?_
  refine sw_if_ne X 18 dL_states_11 (by decide) (fun h11 => ?_) (fun h11 => ?_)
  ·
    refine sw_iconst X (nI 2) dL_states_18 (by decide) ?_
    refine ca_L_66 X (by decide) dL_states_19 (Nat.le_of_ble_eq_true rfl) (c_X3_busyFor_y (by omega) (by first | exact Or.inr rfl | exact Or.inl rfl)) ?_
    refine sw_iload_2 X dL_states_22 ?_
    refine sw_ishr X dL_states_23 ?_
    refine sw_iconst X (nI 1) dL_states_24 (by decide) ?_
    refine sw_iand X dL_states_25 ?_
    refine sw_istore_8 X dL_states_26 trivial ?_
    exact H28 _ (by rw [busy_bit hq]; first | rw [if_neg (fun z : s = 0 => h11 (by rw [z]; rfl))] | rw [if_pos (show s = 0 from nJ (b := 0) (by omega) (by omega) h11)])
  ·
    refine sw_iconst X (nI 1) dL_states_14 (by decide) ?_
    refine sw_goto X 19 dL_states_15 (by decide) ?_
    refine ca_L_66 X (by decide) dL_states_19 (Nat.le_of_ble_eq_true rfl) (c_X3_busyFor_y (by omega) (by first | exact Or.inr rfl | exact Or.inl rfl)) ?_
    refine sw_iload_2 X dL_states_22 ?_
    refine sw_ishr X dL_states_23 ?_
    refine sw_iconst X (nI 1) dL_states_24 (by decide) ?_
    refine sw_iand X dL_states_25 ?_
    refine sw_istore_8 X dL_states_26 trivial ?_
    exact H28 _ (by rw [busy_bit hq]; first | rw [if_neg (fun z : s = 0 => h11 (by rw [z]; rfl))] | rw [if_pos (show s = 0 from nJ (b := 0) (by omega) (by omega) h11)])
set_option maxHeartbeats 4000000 in
set_option maxRecDepth 100000 in
theorem c_L_states_w {G : sv_G} {M : sv_Mem} (hg : 2 < gn G) {cs : Nat → Nat} {q s : Nat} (hq : q < 3) (hs : s < 6) (hl : cs q ≤ 13) {v kv r : Int32} {M2 : sv_Mem} (cD : sv_Ct G M_L_doneBy 6 [.ref (sv_ad G 0 8 0), .int (nI s), .int (nI q), .int v] M (some (.int (r))) M2) (hc2 : M2 0 14 q 0 = nI (cs q)) (hz : cs q ≠ 0) (h6 : r ≠ -6) (h7 : r ≠ -7) (hMq : ∀ r, r < 48 → r / 16 ≠ q → md (M2 0 14 (r / 16) 1) (r % 16) = M2 9 6 0 r) (ht2 : M2 0 13 0 2 = M 0 13 0 2 + nI 1) (ht3 : M2 0 13 0 3 = M 0 13 0 3) (ht4 : M2 0 13 0 4 = M 0 13 0 4) (hbz : s < 4 → ¬ busyC (M 0) q (lowN v 5) (nI (if s = 0 then 1 else 2))) (h0 : s = 0 → r = M2 9 5 0 (lowN v 5) ∧ (∀ k, k < 16 → M2 0 11 0 k = M2 9 5 0 k) ∧ ¬ md (M2 0 14 q 1) (lowN v 5) ≤ 0) (h1 : 1 ≤ s → s < 4 → r = M2 9 5 0 (lowN v 5) ∧ M2 0 11 0 (lowN v 5) = (if s = 1 then -5 else nI (lowN (sh3 v) 12)) ∧ md (M2 0 14 q 1) (lowN v 5) = nI 2) : sv_Ct G M_L_states 7 [.ref (sv_ad G 0 8 0), .int (nI s), .int (nI q), .int v, .int kv, .ref (sv_ad G 5 9 0), .ref (sv_ad G 6 9 0)] M (some (.int (nI 1))) (M2) := by
  refine sv_Ct_of (lo := [some (.ref (sv_ad G 0 8 0)), some (.int (nI s)), some (.int (nI q)), some (.int v), some (.int kv), some (.ref (sv_ad G 5 9 0)), some (.ref (sv_ad G 6 9 0)), none, none, none, none, none, none, none, none]) (pn_L) rfl (Nat.le_of_ble_eq_true rfl) rfl (fun K X Y => ?_)
  replace X : sv_X G K cL_states RL 15 7 := X
  replace Y : sv_Y G K (some .boolean) _ _ := Y
  show sw_W G K 15 0 _ _ _
  have hk5 := lowN_lt v (n := 5) (by decide)
  have H28 : ∀ x8 : Int32, x8 = (if busyC (M 0) q (lowN v 5) (nI (if s = 0 then 1 else 2)) then nI 1 else nI 0) → sw_W G K 15 28 [some (.ref (sv_ad G 0 8 0)), some (.int (nI s)), some (.int (nI q)), some (.int v), some (.int kv), some (.ref (sv_ad G 5 9 0)), some (.ref (sv_ad G 6 9 0)), some (.int (nI (lowN v 5))), some (.int x8), none, none, none, none, none, none] [] M := by
    intro x8 hx8
    refine sw_aload_0 X dL_states_28 ?_
    refine sw_iconst X (nI 2) dL_states_29 (by decide) ?_
    refine ca_L_69 X (by decide) dL_states_30 (Nat.le_of_ble_eq_true rfl) (c_X3_total_y (w := 2) (by omega)) ?_
    refine sw_istore_9 X dL_states_33 trivial ?_
    refine sw_aload_0 X dL_states_35 ?_
    refine sw_iconst X (nI 3) dL_states_36 (by decide) ?_
    refine ca_L_69 X (by decide) dL_states_37 (Nat.le_of_ble_eq_true rfl) (c_X3_total_y (w := 3) (by omega)) ?_
    refine sw_istore_10 X dL_states_40 trivial ?_
    refine sw_aload_0 X dL_states_42 ?_
    refine sw_iconst X (nI 4) dL_states_43 (by decide) ?_
    refine ca_L_69 X (by decide) dL_states_44 (Nat.le_of_ble_eq_true rfl) (c_X3_total_y (w := 4) (by omega)) ?_
    refine sw_istore_11 X dL_states_47 trivial ?_
    refine sw_aload_0 X dL_states_49 ?_
    refine sw_iload_1 X dL_states_50 ?_
    refine sw_iload_2 X dL_states_51 ?_
    refine sw_iload_3 X dL_states_52 ?_
    refine ca_L_72 X (by decide) dL_states_53 (Nat.le_of_ble_eq_true rfl) cD ?_
    refine sw_istore_12 X dL_states_56 trivial ?_
    refine sw_aload_0 X dL_states_58 ?_
    refine sw_iload_2 X dL_states_59 ?_
    refine sw_iconst X (nI 0) dL_states_60 (by decide) ?_
    refine ca_L_23 X (by decide) dL_states_61 (Nat.le_of_ble_eq_true rfl) (c_X3_session_0 hq hc2 hl) ?_
    refine sw_if_ne X 109 dL_states_64 (by decide) (fun h64 => ?_) (fun h64 => ?_)
    ·
      refine sw_iload_12 X dL_states_109 ?_
      refine sw_bipush X (-6) dL_states_111 (by decide) ?_
      refine sw_icmp_eq X 123 dL_states_113 (by decide) (fun h113 => ?_) (fun h113 => ?_)
      ·
        exact absurd h113 h6
      ·
        refine sw_iload_12 X dL_states_116 ?_
        refine sw_bipush X (-7) dL_states_118 (by decide) ?_
        refine sw_icmp_ne X 127 dL_states_120 (by decide) (fun h120 => ?_) (fun h120 => ?_)
        ·
          refine sw_iconst X (nI 0) dL_states_127 (by decide) ?_
          refine sw_istore_13 X dL_states_128 trivial ?_
          refine sw_aload_0 X dL_states_130 ?_
          refine sw_iconst X (nI 2) dL_states_131 (by decide) ?_
          refine ca_L_69 X (by decide) dL_states_132 (Nat.le_of_ble_eq_true rfl) (c_X3_total_y (w := 2) (by omega)) ?_
          refine sw_iload_9 X dL_states_135 ?_
          refine sw_iload_13 X dL_states_137 ?_
          refine sw_if_eq X 146 dL_states_139 (by decide) (fun h139 => ?_) (fun h139 => ?_)
          ·
            refine sw_iconst X (nI 1) dL_states_146 (by decide) ?_
            refine sw_iadd X dL_states_147 ?_
            try refine sw_tope (nI_add _ _) ?_
            refine sw_icmp_ne X 242 dL_states_148 (by decide) (fun h148 => ?_) (fun h148 => ?_)
            ·
              exact absurd ht2 h148
            ·
              refine sw_aload_0 X dL_states_151 ?_
              refine sw_iconst X (nI 3) dL_states_152 (by decide) ?_
              refine ca_L_69 X (by decide) dL_states_153 (Nat.le_of_ble_eq_true rfl) (c_X3_total_y (w := 3) (by omega)) ?_
              refine sw_iload_10 X dL_states_156 ?_
              refine sw_iload_12 X dL_states_158 ?_
              refine sw_bipush X (-6) dL_states_160 (by decide) ?_
              refine sw_icmp_ne X 169 dL_states_162 (by decide) (fun h162 => ?_) (fun h162 => ?_)
              ·
                refine sw_iconst X (nI 0) dL_states_169 (by decide) ?_
                refine sw_iadd X dL_states_170 ?_
                try refine sw_tope (nI_add _ _) ?_
                refine sw_icmp_ne X 242 dL_states_171 (by decide) (fun h171 => ?_) (fun h171 => ?_)
                ·
                  exact absurd (ht3.trans (ad0 _).symm) h171
                ·
                  refine sw_aload_0 X dL_states_174 ?_
                  refine sw_iconst X (nI 4) dL_states_175 (by decide) ?_
                  refine ca_L_69 X (by decide) dL_states_176 (Nat.le_of_ble_eq_true rfl) (c_X3_total_y (w := 4) (by omega)) ?_
                  refine sw_iload_11 X dL_states_179 ?_
                  refine sw_iload_12 X dL_states_181 ?_
                  refine sw_bipush X (-7) dL_states_183 (by decide) ?_
                  refine sw_icmp_ne X 192 dL_states_185 (by decide) (fun h185 => ?_) (fun h185 => ?_)
                  ·
                    refine sw_iconst X (nI 0) dL_states_192 (by decide) ?_
                    refine sw_iadd X dL_states_193 ?_
                    try refine sw_tope (nI_add _ _) ?_
                    refine sw_icmp_ne X 242 dL_states_194 (by decide) (fun h194 => ?_) (fun h194 => ?_)
                    ·
                      exact absurd (ht4.trans (ad0 _).symm) h194
                    ·
                      refine sw_aload_0 X dL_states_197 ?_
                      refine sw_aload_6 X dL_states_198 ?_
                      refine sw_iload_2 X dL_states_200 ?_
                      refine ca_L_80 X (by decide) dL_states_201 (Nat.le_of_ble_eq_true rfl) (c_L_otherModes (by omega) (bn := q) hMq) ?_
                      refine sw_if_ne X 242 dL_states_204 (by decide) (fun h204 => ?_) (fun h204 => ?_)
                      ·
                        exact absurd rfl h204
                      ·
                        refine sw_iload_1 X dL_states_207 ?_
                        refine sw_iconst X (nI 3) dL_states_208 (by decide) ?_
                        refine sw_icmp_gt X 238 dL_states_209 (by decide) (fun h209 => ?_) (fun h209 => ?_)
                        ·
                          refine sw_iconst X (nI 1) dL_states_238 (by decide) ?_
                          refine sw_goto X 243 dL_states_239 (by decide) ?_
                          refine sw_istore_14 X dL_states_243 trivial ?_
                          refine sw_iload_13 X dL_states_245 ?_
                          refine sw_if_eq X 286 dL_states_247 (by decide) (fun h247 => ?_) (fun h247 => ?_)
                          ·
                            refine sw_iload_14 X dL_states_286 ?_
                            refine sw_if_eq X 385 dL_states_288 (by decide) (fun h288 => ?_) (fun h288 => ?_)
                            ·
                              exact absurd h288 (by decide)
                            ·
                              refine sw_iload_1 X dL_states_291 ?_
                              refine sw_if_gt X 324 dL_states_292 (by decide) (fun h292 => ?_) (fun h292 => ?_)
                              ·
                                refine sw_iload_1 X dL_states_324 ?_
                                refine sw_if_eq X 381 dL_states_325 (by decide) (fun h325 => ?_) (fun h325 => ?_)
                                ·
                                  refine sw_iconst X (nI 1) dL_states_381 (by decide) ?_
                                  refine sw_goto X 386 dL_states_382 (by decide) ?_
                                  exact sw_zret X Y dL_states_386 (by first | rfl | exact sv_nzB) (rfl) (rfl)
                                ·
                                  have hs1 : s ≠ 0 := fun z => h325 (by rw [z]; rfl)
                                  refine sw_iload_1 X dL_states_328 ?_
                                  refine sw_iconst X (nI 3) dL_states_329 (by decide) ?_
                                  refine sw_icmp_gt X 381 dL_states_330 (by decide) (fun h330 => ?_) (fun h330 => ?_)
                                  ·
                                    refine sw_iconst X (nI 1) dL_states_381 (by decide) ?_
                                    refine sw_goto X 386 dL_states_382 (by decide) ?_
                                    exact sw_zret X Y dL_states_386 (by first | rfl | exact sv_nzB) (rfl) (rfl)
                                  ·
                                    have hs3 : s < 4 := by have := mt (nI_ltI (a := 3) (b := s) (by omega) (by omega)).mpr h330; omega
                                    obtain ⟨t1, t2, t3⟩ := h1 (by omega) hs3
                                    refine sw_iload_12 X dL_states_333 ?_
                                    refine sw_aload_5 X dL_states_335 ?_
                                    refine sw_iload_7 X dL_states_337 ?_
                                    refine ia_5 X (by omega) rfl (by omega) dL_states_339 ?_
                                    refine sw_icmp_ne X 385 dL_states_340 (by decide) (fun h340 => ?_) (fun h340 => ?_)
                                    ·
                                      exact absurd t1 h340
                                    ·
                                      refine sw_aload_0 X dL_states_343 ?_
                                      refine sw_iload_2 X dL_states_344 ?_
                                      refine sw_iload_7 X dL_states_345 ?_
                                      refine ca_L_19 X (by decide) dL_states_347 (Nat.le_of_ble_eq_true rfl) (c_X3_mode_y hq (by omega)) ?_
                                      refine sw_iconst X (nI 2) dL_states_350 (by decide) ?_
                                      refine sw_icmp_ne X 385 dL_states_351 (by decide) (fun h351 => ?_) (fun h351 => ?_)
                                      ·
                                        exact absurd t3 h351
                                      ·
                                        refine sw_aload_0 X dL_states_354 ?_
                                        refine sw_iload_7 X dL_states_355 ?_
                                        refine ca_L_10 X (by decide) dL_states_357 (Nat.le_of_ble_eq_true rfl) (c_X3_value_y (by omega)) ?_
                                        refine sw_iload_1 X dL_states_360 ?_
                                        refine sw_iconst X (nI 1) dL_states_361 (by decide) ?_
                                        refine sw_icmp_ne X 370 dL_states_362 (by decide) (fun h362 => ?_) (fun h362 => ?_)
                                        ·
                                          refine sw_iload_3 X dL_states_370 ?_
                                          refine sw_iconst X (nI 3) dL_states_371 (by decide) ?_
                                          refine sw_ishr X dL_states_372 ?_
                                          refine sw_bipush X (nI 12) dL_states_373 (by decide) ?_
                                          refine ca_L_46 X (by decide) dL_states_375 (Nat.le_of_ble_eq_true rfl) (c_L_low (n := 12) (by decide) (by decide)) ?_
                                          refine sw_icmp_ne X 385 dL_states_378 (by decide) (fun h378 => ?_) (fun h378 => ?_)
                                          ·
                                            exact absurd (t2.trans (by first | exact if_neg (fun z : s = 1 => h362 (by rw [z])) | exact if_pos (show s = 1 from nJ (by omega) (by omega) h362))) h378
                                          ·
                                            refine sw_iconst X (nI 1) dL_states_381 (by decide) ?_
                                            refine sw_goto X 386 dL_states_382 (by decide) ?_
                                            exact sw_zret X Y dL_states_386 (by first | rfl | exact sv_nzB) (rfl) (rfl)
                                        ·
                                          refine sw_bipush X (-5) dL_states_365 (by decide) ?_
                                          refine sw_goto X 378 dL_states_367 (by decide) ?_
                                          refine sw_icmp_ne X 385 dL_states_378 (by decide) (fun h378 => ?_) (fun h378 => ?_)
                                          ·
                                            exact absurd (t2.trans (by first | exact if_neg (fun z : s = 1 => h362 (by rw [z])) | exact if_pos (show s = 1 from nJ (by omega) (by omega) h362))) h378
                                          ·
                                            refine sw_iconst X (nI 1) dL_states_381 (by decide) ?_
                                            refine sw_goto X 386 dL_states_382 (by decide) ?_
                                            exact sw_zret X Y dL_states_386 (by first | rfl | exact sv_nzB) (rfl) (rfl)
                              ·
                                have hs0 : s = 0 := by have := mt (nI_ltI (a := 0) (b := s) (by omega) (by omega)).mpr h292; omega
                                obtain ⟨r1, r2, r3⟩ := h0 hs0
                                refine sw_iload_12 X dL_states_295 ?_
                                refine sw_aload_5 X dL_states_297 ?_
                                refine sw_iload_7 X dL_states_299 ?_
                                refine ia_5 X (by omega) rfl (by omega) dL_states_301 ?_
                                refine sw_icmp_ne X 385 dL_states_302 (by decide) (fun h302 => ?_) (fun h302 => ?_)
                                ·
                                  exact absurd r1 h302
                                ·
                                  refine sw_aload_0 X dL_states_305 ?_
                                  refine sw_aload_5 X dL_states_306 ?_
                                  refine ca_L_76 X (by decide) dL_states_308 (Nat.le_of_ble_eq_true rfl) (c_L_areValues (by omega) r2) ?_
                                  refine sw_if_eq X 385 dL_states_311 (by decide) (fun h311 => ?_) (fun h311 => ?_)
                                  ·
                                    exact absurd h311 (by decide)
                                  ·
                                    refine sw_aload_0 X dL_states_314 ?_
                                    refine sw_iload_2 X dL_states_315 ?_
                                    refine sw_iload_7 X dL_states_316 ?_
                                    refine ca_L_19 X (by decide) dL_states_318 (Nat.le_of_ble_eq_true rfl) (c_X3_mode_y hq (by omega)) ?_
                                    refine sw_if_le X 385 dL_states_321 (by decide) (fun h321 => ?_) (fun h321 => ?_)
                                    ·
                                      exact absurd r3 (fun z => z h321)
                                    ·
                                      refine sw_iload_1 X dL_states_324 ?_
                                      refine sw_if_eq X 381 dL_states_325 (by decide) (fun h325 => ?_) (fun h325 => ?_)
                                      ·
                                        refine sw_iconst X (nI 1) dL_states_381 (by decide) ?_
                                        refine sw_goto X 386 dL_states_382 (by decide) ?_
                                        exact sw_zret X Y dL_states_386 (by first | rfl | exact sv_nzB) (rfl) (rfl)
                                      ·
                                        have hs1 : s ≠ 0 := fun z => h325 (by rw [z]; rfl)
                                        refine sw_iload_1 X dL_states_328 ?_
                                        refine sw_iconst X (nI 3) dL_states_329 (by decide) ?_
                                        refine sw_icmp_gt X 381 dL_states_330 (by decide) (fun h330 => ?_) (fun h330 => ?_)
                                        ·
                                          refine sw_iconst X (nI 1) dL_states_381 (by decide) ?_
                                          refine sw_goto X 386 dL_states_382 (by decide) ?_
                                          exact sw_zret X Y dL_states_386 (by first | rfl | exact sv_nzB) (rfl) (rfl)
                                        ·
                                          have hs3 : s < 4 := by have := mt (nI_ltI (a := 3) (b := s) (by omega) (by omega)).mpr h330; omega
                                          obtain ⟨t1, t2, t3⟩ := h1 (by omega) hs3
                                          refine sw_iload_12 X dL_states_333 ?_
                                          refine sw_aload_5 X dL_states_335 ?_
                                          refine sw_iload_7 X dL_states_337 ?_
                                          refine ia_5 X (by omega) rfl (by omega) dL_states_339 ?_
                                          refine sw_icmp_ne X 385 dL_states_340 (by decide) (fun h340 => ?_) (fun h340 => ?_)
                                          ·
                                            exact absurd t1 h340
                                          ·
                                            refine sw_aload_0 X dL_states_343 ?_
                                            refine sw_iload_2 X dL_states_344 ?_
                                            refine sw_iload_7 X dL_states_345 ?_
                                            refine ca_L_19 X (by decide) dL_states_347 (Nat.le_of_ble_eq_true rfl) (c_X3_mode_y hq (by omega)) ?_
                                            refine sw_iconst X (nI 2) dL_states_350 (by decide) ?_
                                            refine sw_icmp_ne X 385 dL_states_351 (by decide) (fun h351 => ?_) (fun h351 => ?_)
                                            ·
                                              exact absurd t3 h351
                                            ·
                                              refine sw_aload_0 X dL_states_354 ?_
                                              refine sw_iload_7 X dL_states_355 ?_
                                              refine ca_L_10 X (by decide) dL_states_357 (Nat.le_of_ble_eq_true rfl) (c_X3_value_y (by omega)) ?_
                                              refine sw_iload_1 X dL_states_360 ?_
                                              refine sw_iconst X (nI 1) dL_states_361 (by decide) ?_
                                              refine sw_icmp_ne X 370 dL_states_362 (by decide) (fun h362 => ?_) (fun h362 => ?_)
                                              ·
                                                refine sw_iload_3 X dL_states_370 ?_
                                                refine sw_iconst X (nI 3) dL_states_371 (by decide) ?_
                                                refine sw_ishr X dL_states_372 ?_
                                                refine sw_bipush X (nI 12) dL_states_373 (by decide) ?_
                                                refine ca_L_46 X (by decide) dL_states_375 (Nat.le_of_ble_eq_true rfl) (c_L_low (n := 12) (by decide) (by decide)) ?_
                                                refine sw_icmp_ne X 385 dL_states_378 (by decide) (fun h378 => ?_) (fun h378 => ?_)
                                                ·
                                                  exact absurd (t2.trans (by first | exact if_neg (fun z : s = 1 => h362 (by rw [z])) | exact if_pos (show s = 1 from nJ (by omega) (by omega) h362))) h378
                                                ·
                                                  refine sw_iconst X (nI 1) dL_states_381 (by decide) ?_
                                                  refine sw_goto X 386 dL_states_382 (by decide) ?_
                                                  exact sw_zret X Y dL_states_386 (by first | rfl | exact sv_nzB) (rfl) (rfl)
                                              ·
                                                refine sw_bipush X (-5) dL_states_365 (by decide) ?_
                                                refine sw_goto X 378 dL_states_367 (by decide) ?_
                                                refine sw_icmp_ne X 385 dL_states_378 (by decide) (fun h378 => ?_) (fun h378 => ?_)
                                                ·
                                                  exact absurd (t2.trans (by first | exact if_neg (fun z : s = 1 => h362 (by rw [z])) | exact if_pos (show s = 1 from nJ (by omega) (by omega) h362))) h378
                                                ·
                                                  refine sw_iconst X (nI 1) dL_states_381 (by decide) ?_
                                                  refine sw_goto X 386 dL_states_382 (by decide) ?_
                                                  exact sw_zret X Y dL_states_386 (by first | rfl | exact sv_nzB) (rfl) (rfl)
                          ·
                            exact absurd rfl h247
                        ·
                          refine sw_iload_12 X dL_states_212 ?_
                          refine sw_bipush X (-6) dL_states_214 (by decide) ?_
                          refine sw_icmp_ne X 223 dL_states_216 (by decide) (fun h216 => ?_) (fun h216 => ?_)
                          ·
                            refine sw_iconst X (nI 0) dL_states_223 (by decide) ?_
                            refine sw_iload_8 X dL_states_224 ?_
                            refine sw_iconst X (nI 1) dL_states_226 (by decide) ?_
                            refine sw_icmp_ne X 234 dL_states_227 (by decide) (fun h227 => ?_) (fun h227 => ?_)
                            ·
                              refine sw_iconst X (nI 0) dL_states_234 (by decide) ?_
                              refine sw_icmp_ne X 242 dL_states_235 (by decide) (fun h235 => ?_) (fun h235 => ?_)
                              ·
                                exact absurd rfl h235
                              ·
                                refine sw_iconst X (nI 1) dL_states_238 (by decide) ?_
                                refine sw_goto X 243 dL_states_239 (by decide) ?_
                                refine sw_istore_14 X dL_states_243 trivial ?_
                                refine sw_iload_13 X dL_states_245 ?_
                                refine sw_if_eq X 286 dL_states_247 (by decide) (fun h247 => ?_) (fun h247 => ?_)
                                ·
                                  refine sw_iload_14 X dL_states_286 ?_
                                  refine sw_if_eq X 385 dL_states_288 (by decide) (fun h288 => ?_) (fun h288 => ?_)
                                  ·
                                    exact absurd h288 (by decide)
                                  ·
                                    refine sw_iload_1 X dL_states_291 ?_
                                    refine sw_if_gt X 324 dL_states_292 (by decide) (fun h292 => ?_) (fun h292 => ?_)
                                    ·
                                      refine sw_iload_1 X dL_states_324 ?_
                                      refine sw_if_eq X 381 dL_states_325 (by decide) (fun h325 => ?_) (fun h325 => ?_)
                                      ·
                                        refine sw_iconst X (nI 1) dL_states_381 (by decide) ?_
                                        refine sw_goto X 386 dL_states_382 (by decide) ?_
                                        exact sw_zret X Y dL_states_386 (by first | rfl | exact sv_nzB) (rfl) (rfl)
                                      ·
                                        have hs1 : s ≠ 0 := fun z => h325 (by rw [z]; rfl)
                                        refine sw_iload_1 X dL_states_328 ?_
                                        refine sw_iconst X (nI 3) dL_states_329 (by decide) ?_
                                        refine sw_icmp_gt X 381 dL_states_330 (by decide) (fun h330 => ?_) (fun h330 => ?_)
                                        ·
                                          refine sw_iconst X (nI 1) dL_states_381 (by decide) ?_
                                          refine sw_goto X 386 dL_states_382 (by decide) ?_
                                          exact sw_zret X Y dL_states_386 (by first | rfl | exact sv_nzB) (rfl) (rfl)
                                        ·
                                          have hs3 : s < 4 := by have := mt (nI_ltI (a := 3) (b := s) (by omega) (by omega)).mpr h330; omega
                                          obtain ⟨t1, t2, t3⟩ := h1 (by omega) hs3
                                          refine sw_iload_12 X dL_states_333 ?_
                                          refine sw_aload_5 X dL_states_335 ?_
                                          refine sw_iload_7 X dL_states_337 ?_
                                          refine ia_5 X (by omega) rfl (by omega) dL_states_339 ?_
                                          refine sw_icmp_ne X 385 dL_states_340 (by decide) (fun h340 => ?_) (fun h340 => ?_)
                                          ·
                                            exact absurd t1 h340
                                          ·
                                            refine sw_aload_0 X dL_states_343 ?_
                                            refine sw_iload_2 X dL_states_344 ?_
                                            refine sw_iload_7 X dL_states_345 ?_
                                            refine ca_L_19 X (by decide) dL_states_347 (Nat.le_of_ble_eq_true rfl) (c_X3_mode_y hq (by omega)) ?_
                                            refine sw_iconst X (nI 2) dL_states_350 (by decide) ?_
                                            refine sw_icmp_ne X 385 dL_states_351 (by decide) (fun h351 => ?_) (fun h351 => ?_)
                                            ·
                                              exact absurd t3 h351
                                            ·
                                              refine sw_aload_0 X dL_states_354 ?_
                                              refine sw_iload_7 X dL_states_355 ?_
                                              refine ca_L_10 X (by decide) dL_states_357 (Nat.le_of_ble_eq_true rfl) (c_X3_value_y (by omega)) ?_
                                              refine sw_iload_1 X dL_states_360 ?_
                                              refine sw_iconst X (nI 1) dL_states_361 (by decide) ?_
                                              refine sw_icmp_ne X 370 dL_states_362 (by decide) (fun h362 => ?_) (fun h362 => ?_)
                                              ·
                                                refine sw_iload_3 X dL_states_370 ?_
                                                refine sw_iconst X (nI 3) dL_states_371 (by decide) ?_
                                                refine sw_ishr X dL_states_372 ?_
                                                refine sw_bipush X (nI 12) dL_states_373 (by decide) ?_
                                                refine ca_L_46 X (by decide) dL_states_375 (Nat.le_of_ble_eq_true rfl) (c_L_low (n := 12) (by decide) (by decide)) ?_
                                                refine sw_icmp_ne X 385 dL_states_378 (by decide) (fun h378 => ?_) (fun h378 => ?_)
                                                ·
                                                  exact absurd (t2.trans (by first | exact if_neg (fun z : s = 1 => h362 (by rw [z])) | exact if_pos (show s = 1 from nJ (by omega) (by omega) h362))) h378
                                                ·
                                                  refine sw_iconst X (nI 1) dL_states_381 (by decide) ?_
                                                  refine sw_goto X 386 dL_states_382 (by decide) ?_
                                                  exact sw_zret X Y dL_states_386 (by first | rfl | exact sv_nzB) (rfl) (rfl)
                                              ·
                                                refine sw_bipush X (-5) dL_states_365 (by decide) ?_
                                                refine sw_goto X 378 dL_states_367 (by decide) ?_
                                                refine sw_icmp_ne X 385 dL_states_378 (by decide) (fun h378 => ?_) (fun h378 => ?_)
                                                ·
                                                  exact absurd (t2.trans (by first | exact if_neg (fun z : s = 1 => h362 (by rw [z])) | exact if_pos (show s = 1 from nJ (by omega) (by omega) h362))) h378
                                                ·
                                                  refine sw_iconst X (nI 1) dL_states_381 (by decide) ?_
                                                  refine sw_goto X 386 dL_states_382 (by decide) ?_
                                                  exact sw_zret X Y dL_states_386 (by first | rfl | exact sv_nzB) (rfl) (rfl)
                                    ·
                                      have hs0 : s = 0 := by have := mt (nI_ltI (a := 0) (b := s) (by omega) (by omega)).mpr h292; omega
                                      obtain ⟨r1, r2, r3⟩ := h0 hs0
                                      refine sw_iload_12 X dL_states_295 ?_
                                      refine sw_aload_5 X dL_states_297 ?_
                                      refine sw_iload_7 X dL_states_299 ?_
                                      refine ia_5 X (by omega) rfl (by omega) dL_states_301 ?_
                                      refine sw_icmp_ne X 385 dL_states_302 (by decide) (fun h302 => ?_) (fun h302 => ?_)
                                      ·
                                        exact absurd r1 h302
                                      ·
                                        refine sw_aload_0 X dL_states_305 ?_
                                        refine sw_aload_5 X dL_states_306 ?_
                                        refine ca_L_76 X (by decide) dL_states_308 (Nat.le_of_ble_eq_true rfl) (c_L_areValues (by omega) r2) ?_
                                        refine sw_if_eq X 385 dL_states_311 (by decide) (fun h311 => ?_) (fun h311 => ?_)
                                        ·
                                          exact absurd h311 (by decide)
                                        ·
                                          refine sw_aload_0 X dL_states_314 ?_
                                          refine sw_iload_2 X dL_states_315 ?_
                                          refine sw_iload_7 X dL_states_316 ?_
                                          refine ca_L_19 X (by decide) dL_states_318 (Nat.le_of_ble_eq_true rfl) (c_X3_mode_y hq (by omega)) ?_
                                          refine sw_if_le X 385 dL_states_321 (by decide) (fun h321 => ?_) (fun h321 => ?_)
                                          ·
                                            exact absurd r3 (fun z => z h321)
                                          ·
                                            refine sw_iload_1 X dL_states_324 ?_
                                            refine sw_if_eq X 381 dL_states_325 (by decide) (fun h325 => ?_) (fun h325 => ?_)
                                            ·
                                              refine sw_iconst X (nI 1) dL_states_381 (by decide) ?_
                                              refine sw_goto X 386 dL_states_382 (by decide) ?_
                                              exact sw_zret X Y dL_states_386 (by first | rfl | exact sv_nzB) (rfl) (rfl)
                                            ·
                                              have hs1 : s ≠ 0 := fun z => h325 (by rw [z]; rfl)
                                              refine sw_iload_1 X dL_states_328 ?_
                                              refine sw_iconst X (nI 3) dL_states_329 (by decide) ?_
                                              refine sw_icmp_gt X 381 dL_states_330 (by decide) (fun h330 => ?_) (fun h330 => ?_)
                                              ·
                                                refine sw_iconst X (nI 1) dL_states_381 (by decide) ?_
                                                refine sw_goto X 386 dL_states_382 (by decide) ?_
                                                exact sw_zret X Y dL_states_386 (by first | rfl | exact sv_nzB) (rfl) (rfl)
                                              ·
                                                have hs3 : s < 4 := by have := mt (nI_ltI (a := 3) (b := s) (by omega) (by omega)).mpr h330; omega
                                                obtain ⟨t1, t2, t3⟩ := h1 (by omega) hs3
                                                refine sw_iload_12 X dL_states_333 ?_
                                                refine sw_aload_5 X dL_states_335 ?_
                                                refine sw_iload_7 X dL_states_337 ?_
                                                refine ia_5 X (by omega) rfl (by omega) dL_states_339 ?_
                                                refine sw_icmp_ne X 385 dL_states_340 (by decide) (fun h340 => ?_) (fun h340 => ?_)
                                                ·
                                                  exact absurd t1 h340
                                                ·
                                                  refine sw_aload_0 X dL_states_343 ?_
                                                  refine sw_iload_2 X dL_states_344 ?_
                                                  refine sw_iload_7 X dL_states_345 ?_
                                                  refine ca_L_19 X (by decide) dL_states_347 (Nat.le_of_ble_eq_true rfl) (c_X3_mode_y hq (by omega)) ?_
                                                  refine sw_iconst X (nI 2) dL_states_350 (by decide) ?_
                                                  refine sw_icmp_ne X 385 dL_states_351 (by decide) (fun h351 => ?_) (fun h351 => ?_)
                                                  ·
                                                    exact absurd t3 h351
                                                  ·
                                                    refine sw_aload_0 X dL_states_354 ?_
                                                    refine sw_iload_7 X dL_states_355 ?_
                                                    refine ca_L_10 X (by decide) dL_states_357 (Nat.le_of_ble_eq_true rfl) (c_X3_value_y (by omega)) ?_
                                                    refine sw_iload_1 X dL_states_360 ?_
                                                    refine sw_iconst X (nI 1) dL_states_361 (by decide) ?_
                                                    refine sw_icmp_ne X 370 dL_states_362 (by decide) (fun h362 => ?_) (fun h362 => ?_)
                                                    ·
                                                      refine sw_iload_3 X dL_states_370 ?_
                                                      refine sw_iconst X (nI 3) dL_states_371 (by decide) ?_
                                                      refine sw_ishr X dL_states_372 ?_
                                                      refine sw_bipush X (nI 12) dL_states_373 (by decide) ?_
                                                      refine ca_L_46 X (by decide) dL_states_375 (Nat.le_of_ble_eq_true rfl) (c_L_low (n := 12) (by decide) (by decide)) ?_
                                                      refine sw_icmp_ne X 385 dL_states_378 (by decide) (fun h378 => ?_) (fun h378 => ?_)
                                                      ·
                                                        exact absurd (t2.trans (by first | exact if_neg (fun z : s = 1 => h362 (by rw [z])) | exact if_pos (show s = 1 from nJ (by omega) (by omega) h362))) h378
                                                      ·
                                                        refine sw_iconst X (nI 1) dL_states_381 (by decide) ?_
                                                        refine sw_goto X 386 dL_states_382 (by decide) ?_
                                                        exact sw_zret X Y dL_states_386 (by first | rfl | exact sv_nzB) (rfl) (rfl)
                                                    ·
                                                      refine sw_bipush X (-5) dL_states_365 (by decide) ?_
                                                      refine sw_goto X 378 dL_states_367 (by decide) ?_
                                                      refine sw_icmp_ne X 385 dL_states_378 (by decide) (fun h378 => ?_) (fun h378 => ?_)
                                                      ·
                                                        exact absurd (t2.trans (by first | exact if_neg (fun z : s = 1 => h362 (by rw [z])) | exact if_pos (show s = 1 from nJ (by omega) (by omega) h362))) h378
                                                      ·
                                                        refine sw_iconst X (nI 1) dL_states_381 (by decide) ?_
                                                        refine sw_goto X 386 dL_states_382 (by decide) ?_
                                                        exact sw_zret X Y dL_states_386 (by first | rfl | exact sv_nzB) (rfl) (rfl)
                                ·
                                  exact absurd rfl h247
                            ·
                              exact absurd ((hx8.trans (if_neg (hbz (by have := mt (nI_ltI (a := 3) (b := s) (by omega) (by omega)).mpr h209; omega)))).symm.trans h227) (by decide)
                          ·
                            exact absurd h216 h6
                  ·
                    exact absurd h185 h7
              ·
                exact absurd h162 h6
          ·
            exact absurd rfl h139
        ·
          exact absurd h120 h7
    ·
      exact absurd hz (bI_eq0.mp h64)
  refine sw_iload_3 X dL_states_0 ?_
  refine sw_iconst X (nI 5) dL_states_1 (by decide) ?_
  refine ca_L_46 X (by decide) dL_states_2 (Nat.le_of_ble_eq_true rfl) (c_L_low (n := 5) (by decide) (by decide)) ?_
  refine sw_istore_7 X dL_states_5 trivial ?_
  refine sw_aload_0 X dL_states_7 ?_
  refine sw_iload_7 X dL_states_8 ?_
  refine sw_iload_1 X dL_states_10 ?_
  refine sw_if_ne X 18 dL_states_11 (by decide) (fun h11 => ?_) (fun h11 => ?_)
  ·
    refine sw_iconst X (nI 2) dL_states_18 (by decide) ?_
    refine ca_L_66 X (by decide) dL_states_19 (Nat.le_of_ble_eq_true rfl) (c_X3_busyFor_y (by omega) (by first | exact Or.inr rfl | exact Or.inl rfl)) ?_
    refine sw_iload_2 X dL_states_22 ?_
    refine sw_ishr X dL_states_23 ?_
    refine sw_iconst X (nI 1) dL_states_24 (by decide) ?_
    refine sw_iand X dL_states_25 ?_
    refine sw_istore_8 X dL_states_26 trivial ?_
    exact H28 _ (by rw [busy_bit hq]; first | rw [if_neg (fun z : s = 0 => h11 (by rw [z]; rfl))] | rw [if_pos (show s = 0 from nJ (b := 0) (by omega) (by omega) h11)])
  ·
    refine sw_iconst X (nI 1) dL_states_14 (by decide) ?_
    refine sw_goto X 19 dL_states_15 (by decide) ?_
    refine ca_L_66 X (by decide) dL_states_19 (Nat.le_of_ble_eq_true rfl) (c_X3_busyFor_y (by omega) (by first | exact Or.inr rfl | exact Or.inl rfl)) ?_
    refine sw_iload_2 X dL_states_22 ?_
    refine sw_ishr X dL_states_23 ?_
    refine sw_iconst X (nI 1) dL_states_24 (by decide) ?_
    refine sw_iand X dL_states_25 ?_
    refine sw_istore_8 X dL_states_26 trivial ?_
    exact H28 _ (by rw [busy_bit hq]; first | rw [if_neg (fun z : s = 0 => h11 (by rw [z]; rfl))] | rw [if_pos (show s = 0 from nJ (b := 0) (by omega) (by omega) h11)])
/-- what is left behind a call of the law's: the invariant, the setting, the law's own rows -/
def RS (M M2 : sv_Mem) : Prop := (∃ cs2, SI (M2 0) cs2) ∧ HM M2 ∧ M2 9 4 0 0 = M 9 4 0 0 ∧ M2 0 10 0 0 = M 0 10 0 0
theorem BM_V {M M2 : sv_Mem} {cs : Nat → Nat} (hB : BM M (M 0) cs) (e9 : M2 9 = M 9) (h : ∀ k, k < 16 → M2 0 11 0 k = M 0 11 0 k) : ∀ k, k < 16 → M2 0 11 0 k = M2 9 5 0 k := fun k hk => by rw [h k hk, e9, hB.1 k hk]
theorem BM_M {M M2 : sv_Mem} {cs : Nat → Nat} (hB : BM M (M 0) cs) (e9 : M2 9 = M 9) {bn : Nat} (h : ∀ j, j ≠ bn → M2 0 14 j 1 = M 0 14 j 1) : ∀ r, r < 48 → r / 16 ≠ bn → md (M2 0 14 (r / 16) 1) (r % 16) = M2 9 6 0 r := fun r hr hn => by rw [h _ hn, e9, hB.2.2 r hr]
theorem states_all {M : sv_Mem} {cs : Nat → Nat} (hI : SI (M 0) cs) (hm : HM M) (hB : BM M (M 0) cs) {q s : Nat} (hq : q < 3) (hs : s < 6) (v : Int32) : ∃ M2 : sv_Mem, (∀ G : sv_G, 2 < gn G → sv_Ct G M_L_states 7 [.ref (sv_ad G 0 8 0), .int (nI s), .int (nI q), .int v, .int (M 0 10 0 0), .ref (sv_ad G 5 9 0), .ref (sv_ad G 6 9 0)] M (some (.int (nI 1))) M2) ∧ RS M M2 := by
  obtain ⟨r, M2, c, hD, e9, e8⟩ := doneBy_all hI hm hq hs v
  have hk5 := lowN_lt v (n := 5) (by decide)
  obtain ⟨hl, hS, -⟩ := hI.2.2.1 q hq
  rcases hD with ⟨hz, rfl, e0⟩ | ⟨hz, hR, h3, h0, h1⟩
  · refine ⟨M2, fun G hg => c_L_states_c hg hq hs hl (c G) (by rw [e0]; exact hS.1) hz (BM_V hB e9 (fun k _ => by rw [e0])) (BM_M hB e9 (fun j _ => by rw [e0])) (by rw [e0]), ⟨cs, by rw [e0]; exact hI⟩, e8, by rw [e9], by rw [e0]⟩
  · obtain ⟨a1, a2, a3, a4, a5, a6, a7⟩ := hR
    have hRS : RS M M2 := ⟨⟨cs, a1⟩, e8, by rw [e9], by rw [a4]⟩
    have hc2 : M2 0 14 q 0 = nI (cs q) := by rw [a3]; exact hS.1
    have hMq := BM_M hB e9 (bn := q) a2
    have hM3 : (r = -6 ∨ r = -7) → ¬ M 0 10 0 0 = nI 1 → ∀ i, i < 48 → i / 16 ≠ 3 → md (M2 0 14 (i / 16) 1) (i % 16) = M2 9 6 0 i := fun hb hk i hi hn => by
      have h00 : M 0 10 0 0 = nI 0 := hI.1.resolve_right hk
      by_cases e : i / 16 = q
      · rw [e, (a6 hb).2 h00, e9, hB.2.2 i hi, e]
      · exact hMq i hi e
    by_cases h6 : r = -6
    · subst h6
      refine ⟨M2, fun G hg => c_L_states_6 hg hq hs hl (c G) hc2 hz hMq (BM_V hB e9 (a6 (Or.inl rfl)).1) (hM3 (Or.inl rfl)) ?_ ?_ ?_ (fun z => (h3 z).2.mp rfl), hRS⟩
      · rw [a7, if_pos rfl, if_neg (by decide)]
      · rw [a7, if_pos rfl, if_pos rfl]
      · rw [a7, if_pos rfl, if_neg (by decide)]
    · by_cases h7 : r = -7
      · subst h7
        refine ⟨M2, fun G hg => c_L_states_7 hg hq hs hl (c G) hc2 hz hMq (BM_V hB e9 (a6 (Or.inr rfl)).1) (hM3 (Or.inr rfl)) ?_ ?_ ?_ (Nat.not_lt.mp (fun z => (h3 z).1 rfl)), hRS⟩
        · rw [a7, if_neg h6, if_pos rfl, if_neg (by decide)]
        · rw [a7, if_neg h6, if_pos rfl, if_neg (by decide)]
        · rw [a7, if_neg h6, if_pos rfl, if_pos rfl]
      · refine ⟨M2, fun G hg => c_L_states_w hg hq hs hl (c G) hc2 hz h6 h7 hMq ?_ ?_ ?_ (fun z w => h6 ((h3 z).2.mpr w)) (fun z => ?_) (fun z w => ?_), hRS⟩
        · rw [a7, if_neg h6, if_neg h7, if_pos rfl]
        · rw [a7, if_neg h6, if_neg h7, if_neg (by decide)]
        · rw [a7, if_neg h6, if_neg h7, if_neg (by decide)]
        · obtain ⟨b1, b2, b3⟩ := h0 z h6
          refine ⟨by rw [e9, hB.1 _ (by omega), b1], BM_V hB e9 (fun k _ => b2 k), fun y => ?_⟩
          rw [md_mm _ (by omega)] at y
          have l := mm_lt (M2 0 14 q 1) (lowN v 5)
          have := (nI_leI (b := 0) (by omega) (by omega)).mp y
          omega
        · obtain ⟨b1, b2, b3⟩ := h1 z w h6
          exact ⟨by rw [e9, hB.1 _ (by omega), b1], b2, (md_iff (by omega) (by omega)).mpr b3⟩
