/-- due, of which r are known -/
def duM (M : sv_Mem) (q c p r : Nat) : sv_Mem := sv_upA M 9 7 0 (fun n => if n < r then vaR (M 0) q n (M 0 11 0 n) c (p + 1) else 0)
theorem duM_0 (M : sv_Mem) (q c p r : Nat) : duM M q c p r 0 = M 0 := rfl
theorem duM_8 (M : sv_Mem) (q c p r : Nat) : duM M q c p r 8 = M 8 := rfl
theorem duM_9 (M : sv_Mem) (q c p r : Nat) {k j : Nat} (h : ¬ (k = 7 ∧ j = 0)) : duM M q c p r 9 k j = M 9 k j := by
  unfold duM
  exact sv_upA_get _ _ (by omega)
theorem duM_7 (M : sv_Mem) (q c p : Nat) {r n : Nat} (h : n < r) : duM M q c p r 9 7 0 n = vaR (M 0) q n (M 0 11 0 n) c (p + 1) := by
  unfold duM
  rw [sv_upA_at]
  exact if_pos h
theorem duM_00 (M : sv_Mem) (q c p : Nat) : sv_upA M 9 7 0 (fun _ => 0) = duM M q c p 0 := by
  unfold duM
  congr 1
theorem duM_up (M : sv_Mem) (q c p r : Nat) : sv_up (duM M q c p r) 9 7 0 r (vaR (M 0) q r (M 0 11 0 r) c (p + 1)) = duM M q c p (r + 1) := by
  refine mem_ext (fun i k j => ?_)
  by_cases e : k = 7 ∧ i = 9 ∧ j = 0
  · obtain ⟨rfl, rfl, rfl⟩ := e
    rw [sv_up_at]
    unfold duM
    rw [sv_upA_at, sv_upA_at]
    funext n
    by_cases h : n = r
    · subst h
      rw [va_up_self, if_pos (by omega)]
    · rw [va_up_ne _ _ h]
      by_cases h2 : n < r
      · rw [if_pos h2, if_pos (by omega)]
      · rw [if_neg h2, if_neg (show ¬ n < r + 1 by omega)]
  · rw [sv_up_ne _ _ _ _ _ _ _ _ _ e]
    unfold duM
    rw [sv_upA_get _ _ e, sv_upA_get _ _ e]

set_option maxHeartbeats 4000000 in
set_option maxRecDepth 100000 in
theorem c_L_undoes_n {G : sv_G} {M : sv_Mem} {q a c : Nat} (hq : q < 3) (ha : a < 8) (hl : c ≤ 13) (hc : M 0 14 q 0 = nI c) (hnr : nrR (M 0 16 q) (nI a) (c - 1) = -5) {kv : Int32} {M1 M2 : sv_Mem} (hU : sv_Ct G M_X3_undoTo 5 [.ref (sv_ad G 0 8 0), .int (nI q), .int (nI a)] M (some (.int (-4))) M1) (hR : sv_Ct G M_X3_release 5 [.ref (sv_ad G 0 8 0), .int (nI q), .int (nI a)] M1 (some (.int (-4))) M2) : sv_CtA G M_L_undoes 6 [.ref (sv_ad G 0 8 0), .int (nI q), .int (nI a), .int kv, .ref (sv_ad G 5 9 0), .ref (sv_ad G 6 9 0)] M (some (.int (nI 1))) (M2) 1 16 := by
  refine sv_CtA_of (lo := [some (.ref (sv_ad G 0 8 0)), some (.int (nI q)), some (.int (nI a)), some (.int kv), some (.ref (sv_ad G 5 9 0)), some (.ref (sv_ad G 6 9 0)), none, none, none, none, none, none, none]) (pn_L) rfl (Nat.le_of_ble_eq_true rfl) rfl (fun K XK YK hkc hks => ?_)
  replace XK : sv_X G K cL_undoes RL 13 6 := XK
  replace YK : sv_Y G K (some .boolean) _ _ := YK
  show sw_W G (sv_Kn K 0 0) 13 0 _ _ _
  have X := XK
  have Y := YK
  refine sw_widen (Nat.zero_le _) (Nat.zero_le _) ?_
  refine sw_aload_0 X dL_undoes_0 ?_
  refine sw_iload_1 X dL_undoes_1 ?_
  refine sw_iload_2 X dL_undoes_2 ?_
  refine ca_L_33 X (by decide) dL_undoes_3 (Nat.le_of_ble_eq_true rfl) (c_X3_nearest_y hq (nm_in ha) hc hl) ?_
  refine sw_tope hnr ?_
  refine sw_istore_6 X dL_undoes_6 trivial ?_
  refine sw_iload_6 X dL_undoes_8 ?_
  refine sw_if_ge X 41 dL_undoes_10 (by decide) (fun h10 => ?_) (fun h10 => ?_)
  ·
    exact absurd h10 (by decide)
  ·
    refine sw_aload_0 X dL_undoes_13 ?_
    refine sw_iload_1 X dL_undoes_14 ?_
    refine sw_iload_2 X dL_undoes_15 ?_
    refine ca_L_84 X (by decide) dL_undoes_16 (Nat.le_of_ble_eq_true rfl) hU ?_
    refine sw_bipush X (-4) dL_undoes_19 (by decide) ?_
    refine sw_icmp_ne X 39 dL_undoes_21 (by decide) (fun h21 => ?_) (fun h21 => ?_)
    ·
      exact absurd rfl h21
    ·
      refine sw_aload_0 X dL_undoes_24 ?_
      refine sw_iload_1 X dL_undoes_25 ?_
      refine sw_iload_2 X dL_undoes_26 ?_
      refine ca_L_87 X (by decide) dL_undoes_27 (Nat.le_of_ble_eq_true rfl) hR ?_
      refine sw_bipush X (-4) dL_undoes_30 (by decide) ?_
      refine sw_icmp_ne X 39 dL_undoes_32 (by decide) (fun h32 => ?_) (fun h32 => ?_)
      ·
        exact absurd rfl h32
      ·
        refine sw_iconst X (nI 1) dL_undoes_35 (by decide) ?_
        refine sw_goto X 40 dL_undoes_36 (by decide) ?_
        exact sw_zret X Y dL_undoes_40 (by first | rfl | exact sv_nzB) (rfl) (rfl)
set_option maxHeartbeats 4000000 in
set_option maxRecDepth 100000 in
theorem c_L_undoes_y {G : sv_G} {M : sv_Mem} (hg : gn G = 3) {cs : Nat → Nat} {q a p c : Nat} (hI : SI (M 0) cs) (hq : q < 3) (ha : a < 8) (hcs : c = cs q) (hl : c ≤ 13) (hc : M 0 14 q 0 = nI c) (hnr0 : nrR (M 0 16 q) (nI a) (c - 1) = nI p) (hp : p < c - 1) (hB : BM M (M 0) cs) {kv : Int32} {M2 : sv_Mem} (cU : ∀ G : sv_G, sv_Ct G M_X3_undoTo 5 [.ref (sv_ad G 0 8 0), .int (nI q), .int (nI a)] (duM M q c p 16) (some (.int (nI (cnt (difP (M 0) q (p + 1) c) 16)))) M2)
    (h2c : M2 0 14 q 0 = nI (p + 2)) (hch : chS (M2 0) q (p + 2) (p + 1) = nI 0) (hlk1 : kv = nI 1 → lkS (M2 0) q (p + 1) = lkS (M 0) q (p + 1)) (hlk0 : ¬ kv = nI 1 → lkS (M2 0) q (p + 1) = nI 0) (hMq : ∀ r, r < 48 → r / 16 ≠ q → md (M2 0 14 (r / 16) 1) (r % 16) = M2 9 6 0 r) (hM3 : ¬ kv = 0 → ∀ r, r < 48 → r / 16 ≠ 3 → md (M2 0 14 (r / 16) 1) (r % 16) = M2 9 6 0 r) (hdue : ∀ k, k < 16 → M2 0 11 0 k = M2 9 7 0 k) (hnc : ∀ k, k < 16 → ¬ bt (chS (M 0) q c (p + 1)) k = true → M2 9 7 0 k = M2 9 5 0 k) (hmk : ∀ k, k < 16 → ¬ kv = nI 1 → ¬ bt (lkS (M 0) q (p + 1)) k = true → md (M2 0 14 q 1) k = M2 9 6 0 (16 * q + k)) : sv_CtA G M_L_undoes 6 [.ref (sv_ad G 0 8 0), .int (nI q), .int (nI a), .int kv, .ref (sv_ad G 5 9 0), .ref (sv_ad G 6 9 0)] M (some (.int (nI 1))) (M2) 1 16 := by
  have hnr := hnr0
  have hnr2 : nrR (M 0 16 q) (nI a) (cs q - 1) = nI p := by rw [← hcs]; exact hnr0
  have hp2 : p < cs q - 1 := by rw [← hcs]; exact hp
  refine sv_CtA_of (lo := [some (.ref (sv_ad G 0 8 0)), some (.int (nI q)), some (.int (nI a)), some (.int kv), some (.ref (sv_ad G 5 9 0)), some (.ref (sv_ad G 6 9 0)), none, none, none, none, none, none, none]) (pn_L) rfl (Nat.le_of_ble_eq_true rfl) rfl (fun K XK YK hkc hks => ?_)
  replace XK : sv_X G K cL_undoes RL 13 6 := XK
  replace YK : sv_Y G K (some .boolean) _ _ := YK
  show sw_W G (sv_Kn K 0 0) 13 0 _ _ _
  have main : ∀ z, sw_W (g3 G z) K 13 45 [some (.ref (sv_ad G 0 8 0)), some (.int (nI q)), some (.int (nI a)), some (.int kv), some (.ref (sv_ad G 5 9 0)), some (.ref (sv_ad G 6 9 0)), some (.int (nI p)), none, none, none, none, none, none] [.ref (sv_ad (g3 G z) 7 9 0)] (sv_upA M 9 7 0 (fun _ => 0)) := by
    intro z
    obtain ⟨G3, hG3⟩ : ∃ G3, G3 = g3 G z := ⟨_, rfl⟩
    have e0 : sv_ad G 0 8 0 = sv_ad G3 0 8 0 := by rw [hG3]; rfl
    have e5 : sv_ad G 5 9 0 = sv_ad G3 5 9 0 := by rw [hG3]; rfl
    have e6 : sv_ad G 6 9 0 = sv_ad G3 6 9 0 := by rw [hG3]; rfl
    have hg4 : gn G3 = 4 := by rw [hG3]; rfl
    have X : sv_X G3 K cL_undoes RL 13 6 := by rw [hG3]; exact X_g3 XK
    have bk : ∀ pc lo rest N, sw_W G K 13 pc lo rest N → sw_W G3 K 13 pc lo rest N := fun pc lo rest N w => by rw [hG3]; exact sw_back3 hg w
    rw [← hG3, e0, e5, e6]
    have L73 : ∀ i0, i0 ≤ 16 → (fun r => ∀ x : Nat, x = cnt (difP (M 0) q (p + 1) c) r → sw_W G3 K 13 73 [some (.ref (sv_ad G3 0 8 0)), some (.int (nI q)), some (.int (nI a)), some (.int kv), some (.ref (sv_ad G3 5 9 0)), some (.ref (sv_ad G3 6 9 0)), some (.int (nI p)), some (.ref (sv_ad G3 7 9 0)), some (.int (nI x)), some (.int (lkS (M 0) q (p + 1))), some (.int (chS (M 0) q c (p + 1))), some (.int (nI r)), none] [] (duM M q c p r)) i0 := by
      refine up_ind (N := 16) (P := fun r => ∀ x : Nat, x = cnt (difP (M 0) q (p + 1) c) r → sw_W G3 K 13 73 [some (.ref (sv_ad G3 0 8 0)), some (.int (nI q)), some (.int (nI a)), some (.int kv), some (.ref (sv_ad G3 5 9 0)), some (.ref (sv_ad G3 6 9 0)), some (.int (nI p)), some (.ref (sv_ad G3 7 9 0)), some (.int (nI x)), some (.int (lkS (M 0) q (p + 1))), some (.int (chS (M 0) q c (p + 1))), some (.int (nI r)), none] [] (duM M q c p r)) ?_
      intro r hr3x ih x hx
      show sw_W _ _ _ _ _ _ _
      refine sw_iload_11 X dL_undoes_73 ?_
      refine sw_bipush X (nI 16) dL_undoes_75 (by decide) ?_
      refine sw_icmp_ge X 122 dL_undoes_77 (by decide) (fun h77 => ?_) (fun h77 => ?_)
      ·
        have e77 : r = 16 := by have := (nI_leI (by omega) (by omega)).mp h77; omega
        subst e77
        refine sw_aload_0 X dL_undoes_122 ?_
        refine sw_iload_1 X dL_undoes_123 ?_
        refine sw_iload_2 X dL_undoes_124 ?_
        refine ca_L_84 X (by decide) dL_undoes_125 (Nat.le_of_ble_eq_true rfl) (cU G3) ?_
        refine sw_iload_8 X dL_undoes_128 ?_
        refine sw_icmp_ne X 207 dL_undoes_130 (by decide) (fun h130 => ?_) (fun h130 => ?_)
        ·
          exact absurd (by rw [hx]) h130
        ·
          refine sw_aload_0 X dL_undoes_133 ?_
          refine sw_iload_1 X dL_undoes_134 ?_
          refine sw_iconst X (nI 1) dL_undoes_135 (by decide) ?_
          refine ca_L_23 X (by decide) dL_undoes_136 (Nat.le_of_ble_eq_true rfl) (c_X3_session_1 (M := M2) hq h2c (by omega)) ?_
          refine sw_iload_6 X dL_undoes_139 ?_
          refine sw_iconst X (nI 1) dL_undoes_141 (by decide) ?_
          refine sw_iadd X dL_undoes_142 ?_
          try refine sw_tope (nI_add _ _) ?_
          refine sw_icmp_ne X 207 dL_undoes_143 (by decide) (fun h143 => ?_) (fun h143 => ?_)
          ·
            exact absurd rfl h143
          ·
            refine sw_aload_0 X dL_undoes_146 ?_
            refine sw_iload_1 X dL_undoes_147 ?_
            refine sw_iload_6 X dL_undoes_148 ?_
            refine sw_iconst X (nI 0) dL_undoes_150 (by decide) ?_
            refine ca_L_26 X (by decide) dL_undoes_151 (Nat.le_of_ble_eq_true rfl) (cs_v (M := M2) hq h2c (by omega) (by omega)) ?_
            refine sw_if_ne X 207 dL_undoes_154 (by decide) (fun h154 => ?_) (fun h154 => ?_)
            ·
              exact absurd hch h154
            ·
              refine sw_aload_0 X dL_undoes_157 ?_
              refine sw_iload_1 X dL_undoes_158 ?_
              refine sw_iload_6 X dL_undoes_159 ?_
              refine sw_iconst X (nI 1) dL_undoes_161 (by decide) ?_
              refine ca_L_26 X (by decide) dL_undoes_162 (Nat.le_of_ble_eq_true rfl) (cs_l (M := M2) hq h2c (by omega) (by omega)) ?_
              refine sw_iload_3 X dL_undoes_165 ?_
              refine sw_iconst X (nI 1) dL_undoes_166 (by decide) ?_
              refine sw_icmp_ne X 175 dL_undoes_167 (by decide) (fun h167 => ?_) (fun h167 => ?_)
              ·
                refine sw_iconst X (nI 0) dL_undoes_175 (by decide) ?_
                refine sw_icmp_ne X 207 dL_undoes_176 (by decide) (fun h176 => ?_) (fun h176 => ?_)
                ·
                  first | exact absurd (hlk1 h167) h176 | exact absurd (hlk0 h167) h176
                ·
                  refine sw_aload_0 X dL_undoes_179 ?_
                  refine sw_aload_5 X dL_undoes_180 ?_
                  refine sw_iload_1 X dL_undoes_182 ?_
                  refine ca_L_80 X (by decide) dL_undoes_183 (Nat.le_of_ble_eq_true rfl) (c_L_otherModes (M := M2) (by omega) (bn := q) hMq) ?_
                  refine sw_if_ne X 207 dL_undoes_186 (by decide) (fun h186 => ?_) (fun h186 => ?_)
                  ·
                    exact absurd rfl h186
                  ·
                    refine sw_iload_3 X dL_undoes_189 ?_
                    refine sw_if_eq X 203 dL_undoes_190 (by decide) (fun h190 => ?_) (fun h190 => ?_)
                    ·
                      refine sw_iconst X (nI 1) dL_undoes_203 (by decide) ?_
                      refine sw_goto X 208 dL_undoes_204 (by decide) ?_
                      refine sw_istore_11 X dL_undoes_208 trivial ?_
                      refine sw_iconst X (nI 0) dL_undoes_210 (by decide) ?_
                      refine sw_istore_12 X dL_undoes_211 trivial ?_
                      have L213 : ∀ i0, i0 ≤ 16 → (fun k => sw_W G3 K 13 213 [some (.ref (sv_ad G3 0 8 0)), some (.int (nI q)), some (.int (nI a)), some (.int kv), some (.ref (sv_ad G3 5 9 0)), some (.ref (sv_ad G3 6 9 0)), some (.int (nI p)), some (.ref (sv_ad G3 7 9 0)), some (.int (nI x)), some (.int (lkS (M 0) q (p + 1))), some (.int (chS (M 0) q c (p + 1))), some (.int (nI 1)), some (.int (nI k))] [] M2) i0 := by
                        refine up_ind (N := 16) (P := fun k => sw_W G3 K 13 213 [some (.ref (sv_ad G3 0 8 0)), some (.int (nI q)), some (.int (nI a)), some (.int kv), some (.ref (sv_ad G3 5 9 0)), some (.ref (sv_ad G3 6 9 0)), some (.int (nI p)), some (.ref (sv_ad G3 7 9 0)), some (.int (nI x)), some (.int (lkS (M 0) q (p + 1))), some (.int (chS (M 0) q c (p + 1))), some (.int (nI 1)), some (.int (nI k))] [] M2) ?_
                        intro k hk3x ih4
                        show sw_W _ _ _ _ _ _ _
                        refine sw_iload_12 X dL_undoes_213 ?_
                        refine sw_bipush X (nI 16) dL_undoes_215 (by decide) ?_
                        refine sw_icmp_ge X 312 dL_undoes_217 (by decide) (fun h217 => ?_) (fun h217 => ?_)
                        ·
                          have e217 : k = 16 := by have := (nI_leI (by omega) (by omega)).mp h217; omega
                          subst e217
                          refine sw_iload_11 X dL_undoes_312 ?_
                          exact bk _ _ _ _ (sw_zret XK YK dL_undoes_314 (by first | rfl | exact sv_nzB) rfl rfl)
                        ·
                          have hk : k < 16 := by have := mt (nI_leI (by omega) (by omega)).mpr h217; omega
                          refine sw_iload_11 X dL_undoes_220 ?_
                          refine sw_if_eq X 312 dL_undoes_222 (by decide) (fun h222 => ?_) (fun h222 => ?_)
                          ·
                            exact absurd h222 (by decide)
                          ·
                            refine sw_aload_0 X dL_undoes_225 ?_
                            refine sw_iload_12 X dL_undoes_226 ?_
                            refine ca_L_10 X (by decide) dL_undoes_228 (Nat.le_of_ble_eq_true rfl) (c_X3_value_y hk) ?_
                            refine sw_aload_7 X dL_undoes_231 ?_
                            refine sw_iload_12 X dL_undoes_233 ?_
                            refine ia_7 X (by omega) rfl (by omega) dL_undoes_235 ?_
                            refine sw_icmp_ne X 303 dL_undoes_236 (by decide) (fun h236 => ?_) (fun h236 => ?_)
                            ·
                              exact absurd (hdue k hk) h236
                            ·
                              refine sw_iload_10 X dL_undoes_239 ?_
                              refine sw_iload_12 X dL_undoes_241 ?_
                              refine sw_ishr X dL_undoes_243 ?_
                              refine sw_iconst X (nI 1) dL_undoes_244 (by decide) ?_
                              refine sw_iand X dL_undoes_245 ?_
                              refine sw_iconst X (nI 1) dL_undoes_246 (by decide) ?_
                              refine sw_icmp_eq X 263 dL_undoes_247 (by decide) (fun h247 => ?_) (fun h247 => ?_)
                              ·
                                refine sw_iload_3 X dL_undoes_263 ?_
                                refine sw_iconst X (nI 1) dL_undoes_264 (by decide) ?_
                                refine sw_icmp_eq X 299 dL_undoes_265 (by decide) (fun h265 => ?_) (fun h265 => ?_)
                                ·
                                  refine sw_iconst X (nI 1) dL_undoes_299 (by decide) ?_
                                  refine sw_goto X 304 dL_undoes_300 (by decide) ?_
                                  refine sw_istore_11 X dL_undoes_304 trivial ?_
                                  first | refine sw_inc1_12 X dL_undoes_306 trivial ?_ | refine sw_iinc_12 X _ dL_undoes_306 rfl trivial ?_
                                  refine sw_goto X 213 dL_undoes_309 (by decide) ?_
                                  exact ih4 (k + 1) (by omega) (by omega)
                                ·
                                  refine sw_iload_9 X dL_undoes_268 ?_
                                  refine sw_iload_12 X dL_undoes_270 ?_
                                  refine sw_ishr X dL_undoes_272 ?_
                                  refine sw_iconst X (nI 1) dL_undoes_273 (by decide) ?_
                                  refine sw_iand X dL_undoes_274 ?_
                                  refine sw_iconst X (nI 1) dL_undoes_275 (by decide) ?_
                                  refine sw_icmp_eq X 299 dL_undoes_276 (by decide) (fun h276 => ?_) (fun h276 => ?_)
                                  ·
                                    refine sw_iconst X (nI 1) dL_undoes_299 (by decide) ?_
                                    refine sw_goto X 304 dL_undoes_300 (by decide) ?_
                                    refine sw_istore_11 X dL_undoes_304 trivial ?_
                                    first | refine sw_inc1_12 X dL_undoes_306 trivial ?_ | refine sw_iinc_12 X _ dL_undoes_306 rfl trivial ?_
                                    refine sw_goto X 213 dL_undoes_309 (by decide) ?_
                                    exact ih4 (k + 1) (by omega) (by omega)
                                  ·
                                    refine sw_aload_0 X dL_undoes_279 ?_
                                    refine sw_iload_1 X dL_undoes_280 ?_
                                    refine sw_iload_12 X dL_undoes_281 ?_
                                    refine ca_L_19 X (by decide) dL_undoes_283 (Nat.le_of_ble_eq_true rfl) (c_X3_mode_y hq hk) ?_
                                    refine sw_aload_5 X dL_undoes_286 ?_
                                    refine sw_bipush X (nI 16) dL_undoes_288 (by decide) ?_
                                    refine sw_iload_1 X dL_undoes_290 ?_
                                    refine sw_imul X dL_undoes_291 ?_
                                    try refine sw_tope (pk_mul _ _) ?_
                                    refine sw_iload_12 X dL_undoes_292 ?_
                                    refine sw_iadd X dL_undoes_294 ?_
                                    try refine sw_tope (nI_add _ _) ?_
                                    refine ia_6 X (by omega) rfl (by omega) dL_undoes_295 ?_
                                    refine sw_icmp_ne X 303 dL_undoes_296 (by decide) (fun h296 => ?_) (fun h296 => ?_)
                                    ·
                                      exact absurd (hmk k hk h265 (fun z => h276 ((bt_has _ (by omega)).mpr z))) h296
                                    ·
                                      refine sw_iconst X (nI 1) dL_undoes_299 (by decide) ?_
                                      refine sw_goto X 304 dL_undoes_300 (by decide) ?_
                                      refine sw_istore_11 X dL_undoes_304 trivial ?_
                                      first | refine sw_inc1_12 X dL_undoes_306 trivial ?_ | refine sw_iinc_12 X _ dL_undoes_306 rfl trivial ?_
                                      refine sw_goto X 213 dL_undoes_309 (by decide) ?_
                                      exact ih4 (k + 1) (by omega) (by omega)
                              ·
                                refine sw_aload_7 X dL_undoes_250 ?_
                                refine sw_iload_12 X dL_undoes_252 ?_
                                refine ia_7 X (by omega) rfl (by omega) dL_undoes_254 ?_
                                refine sw_aload_4 X dL_undoes_255 ?_
                                refine sw_iload_12 X dL_undoes_257 ?_
                                refine ia_5 X (by omega) rfl (by omega) dL_undoes_259 ?_
                                refine sw_icmp_ne X 303 dL_undoes_260 (by decide) (fun h260 => ?_) (fun h260 => ?_)
                                ·
                                  exact absurd (hnc k hk (fun z => h247 ((bt_has _ (by omega)).mpr z))) h260
                                ·
                                  refine sw_iload_3 X dL_undoes_263 ?_
                                  refine sw_iconst X (nI 1) dL_undoes_264 (by decide) ?_
                                  refine sw_icmp_eq X 299 dL_undoes_265 (by decide) (fun h265 => ?_) (fun h265 => ?_)
                                  ·
                                    refine sw_iconst X (nI 1) dL_undoes_299 (by decide) ?_
                                    refine sw_goto X 304 dL_undoes_300 (by decide) ?_
                                    refine sw_istore_11 X dL_undoes_304 trivial ?_
                                    first | refine sw_inc1_12 X dL_undoes_306 trivial ?_ | refine sw_iinc_12 X _ dL_undoes_306 rfl trivial ?_
                                    refine sw_goto X 213 dL_undoes_309 (by decide) ?_
                                    exact ih4 (k + 1) (by omega) (by omega)
                                  ·
                                    refine sw_iload_9 X dL_undoes_268 ?_
                                    refine sw_iload_12 X dL_undoes_270 ?_
                                    refine sw_ishr X dL_undoes_272 ?_
                                    refine sw_iconst X (nI 1) dL_undoes_273 (by decide) ?_
                                    refine sw_iand X dL_undoes_274 ?_
                                    refine sw_iconst X (nI 1) dL_undoes_275 (by decide) ?_
                                    refine sw_icmp_eq X 299 dL_undoes_276 (by decide) (fun h276 => ?_) (fun h276 => ?_)
                                    ·
                                      refine sw_iconst X (nI 1) dL_undoes_299 (by decide) ?_
                                      refine sw_goto X 304 dL_undoes_300 (by decide) ?_
                                      refine sw_istore_11 X dL_undoes_304 trivial ?_
                                      first | refine sw_inc1_12 X dL_undoes_306 trivial ?_ | refine sw_iinc_12 X _ dL_undoes_306 rfl trivial ?_
                                      refine sw_goto X 213 dL_undoes_309 (by decide) ?_
                                      exact ih4 (k + 1) (by omega) (by omega)
                                    ·
                                      refine sw_aload_0 X dL_undoes_279 ?_
                                      refine sw_iload_1 X dL_undoes_280 ?_
                                      refine sw_iload_12 X dL_undoes_281 ?_
                                      refine ca_L_19 X (by decide) dL_undoes_283 (Nat.le_of_ble_eq_true rfl) (c_X3_mode_y hq hk) ?_
                                      refine sw_aload_5 X dL_undoes_286 ?_
                                      refine sw_bipush X (nI 16) dL_undoes_288 (by decide) ?_
                                      refine sw_iload_1 X dL_undoes_290 ?_
                                      refine sw_imul X dL_undoes_291 ?_
                                      try refine sw_tope (pk_mul _ _) ?_
                                      refine sw_iload_12 X dL_undoes_292 ?_
                                      refine sw_iadd X dL_undoes_294 ?_
                                      try refine sw_tope (nI_add _ _) ?_
                                      refine ia_6 X (by omega) rfl (by omega) dL_undoes_295 ?_
                                      refine sw_icmp_ne X 303 dL_undoes_296 (by decide) (fun h296 => ?_) (fun h296 => ?_)
                                      ·
                                        exact absurd (hmk k hk h265 (fun z => h276 ((bt_has _ (by omega)).mpr z))) h296
                                      ·
                                        refine sw_iconst X (nI 1) dL_undoes_299 (by decide) ?_
                                        refine sw_goto X 304 dL_undoes_300 (by decide) ?_
                                        refine sw_istore_11 X dL_undoes_304 trivial ?_
                                        first | refine sw_inc1_12 X dL_undoes_306 trivial ?_ | refine sw_iinc_12 X _ dL_undoes_306 rfl trivial ?_
                                        refine sw_goto X 213 dL_undoes_309 (by decide) ?_
                                        exact ih4 (k + 1) (by omega) (by omega)
                      exact L213 0 (by omega)
                    ·
                      refine sw_aload_0 X dL_undoes_193 ?_
                      refine sw_aload_5 X dL_undoes_194 ?_
                      refine sw_iconst X (nI 3) dL_undoes_196 (by decide) ?_
                      refine ca_L_80 X (by decide) dL_undoes_197 (Nat.le_of_ble_eq_true rfl) (c_L_otherModes (M := M2) (by omega) (bn := 3) (hM3 h190)) ?_
                      refine sw_if_ne X 207 dL_undoes_200 (by decide) (fun h200 => ?_) (fun h200 => ?_)
                      ·
                        exact absurd rfl h200
                      ·
                        refine sw_iconst X (nI 1) dL_undoes_203 (by decide) ?_
                        refine sw_goto X 208 dL_undoes_204 (by decide) ?_
                        refine sw_istore_11 X dL_undoes_208 trivial ?_
                        refine sw_iconst X (nI 0) dL_undoes_210 (by decide) ?_
                        refine sw_istore_12 X dL_undoes_211 trivial ?_
                        have L213 : ∀ i0, i0 ≤ 16 → (fun k => sw_W G3 K 13 213 [some (.ref (sv_ad G3 0 8 0)), some (.int (nI q)), some (.int (nI a)), some (.int kv), some (.ref (sv_ad G3 5 9 0)), some (.ref (sv_ad G3 6 9 0)), some (.int (nI p)), some (.ref (sv_ad G3 7 9 0)), some (.int (nI x)), some (.int (lkS (M 0) q (p + 1))), some (.int (chS (M 0) q c (p + 1))), some (.int (nI 1)), some (.int (nI k))] [] M2) i0 := by
                          refine up_ind (N := 16) (P := fun k => sw_W G3 K 13 213 [some (.ref (sv_ad G3 0 8 0)), some (.int (nI q)), some (.int (nI a)), some (.int kv), some (.ref (sv_ad G3 5 9 0)), some (.ref (sv_ad G3 6 9 0)), some (.int (nI p)), some (.ref (sv_ad G3 7 9 0)), some (.int (nI x)), some (.int (lkS (M 0) q (p + 1))), some (.int (chS (M 0) q c (p + 1))), some (.int (nI 1)), some (.int (nI k))] [] M2) ?_
                          intro k hk3x ih4
                          show sw_W _ _ _ _ _ _ _
                          refine sw_iload_12 X dL_undoes_213 ?_
                          refine sw_bipush X (nI 16) dL_undoes_215 (by decide) ?_
                          refine sw_icmp_ge X 312 dL_undoes_217 (by decide) (fun h217 => ?_) (fun h217 => ?_)
                          ·
                            have e217 : k = 16 := by have := (nI_leI (by omega) (by omega)).mp h217; omega
                            subst e217
                            refine sw_iload_11 X dL_undoes_312 ?_
                            exact bk _ _ _ _ (sw_zret XK YK dL_undoes_314 (by first | rfl | exact sv_nzB) rfl rfl)
                          ·
                            have hk : k < 16 := by have := mt (nI_leI (by omega) (by omega)).mpr h217; omega
                            refine sw_iload_11 X dL_undoes_220 ?_
                            refine sw_if_eq X 312 dL_undoes_222 (by decide) (fun h222 => ?_) (fun h222 => ?_)
                            ·
                              exact absurd h222 (by decide)
                            ·
                              refine sw_aload_0 X dL_undoes_225 ?_
                              refine sw_iload_12 X dL_undoes_226 ?_
                              refine ca_L_10 X (by decide) dL_undoes_228 (Nat.le_of_ble_eq_true rfl) (c_X3_value_y hk) ?_
                              refine sw_aload_7 X dL_undoes_231 ?_
                              refine sw_iload_12 X dL_undoes_233 ?_
                              refine ia_7 X (by omega) rfl (by omega) dL_undoes_235 ?_
                              refine sw_icmp_ne X 303 dL_undoes_236 (by decide) (fun h236 => ?_) (fun h236 => ?_)
                              ·
                                exact absurd (hdue k hk) h236
                              ·
                                refine sw_iload_10 X dL_undoes_239 ?_
                                refine sw_iload_12 X dL_undoes_241 ?_
                                refine sw_ishr X dL_undoes_243 ?_
                                refine sw_iconst X (nI 1) dL_undoes_244 (by decide) ?_
                                refine sw_iand X dL_undoes_245 ?_
                                refine sw_iconst X (nI 1) dL_undoes_246 (by decide) ?_
                                refine sw_icmp_eq X 263 dL_undoes_247 (by decide) (fun h247 => ?_) (fun h247 => ?_)
                                ·
                                  refine sw_iload_3 X dL_undoes_263 ?_
                                  refine sw_iconst X (nI 1) dL_undoes_264 (by decide) ?_
                                  refine sw_icmp_eq X 299 dL_undoes_265 (by decide) (fun h265 => ?_) (fun h265 => ?_)
                                  ·
                                    refine sw_iconst X (nI 1) dL_undoes_299 (by decide) ?_
                                    refine sw_goto X 304 dL_undoes_300 (by decide) ?_
                                    refine sw_istore_11 X dL_undoes_304 trivial ?_
                                    first | refine sw_inc1_12 X dL_undoes_306 trivial ?_ | refine sw_iinc_12 X _ dL_undoes_306 rfl trivial ?_
                                    refine sw_goto X 213 dL_undoes_309 (by decide) ?_
                                    exact ih4 (k + 1) (by omega) (by omega)
                                  ·
                                    refine sw_iload_9 X dL_undoes_268 ?_
                                    refine sw_iload_12 X dL_undoes_270 ?_
                                    refine sw_ishr X dL_undoes_272 ?_
                                    refine sw_iconst X (nI 1) dL_undoes_273 (by decide) ?_
                                    refine sw_iand X dL_undoes_274 ?_
                                    refine sw_iconst X (nI 1) dL_undoes_275 (by decide) ?_
                                    refine sw_icmp_eq X 299 dL_undoes_276 (by decide) (fun h276 => ?_) (fun h276 => ?_)
                                    ·
                                      refine sw_iconst X (nI 1) dL_undoes_299 (by decide) ?_
                                      refine sw_goto X 304 dL_undoes_300 (by decide) ?_
                                      refine sw_istore_11 X dL_undoes_304 trivial ?_
                                      first | refine sw_inc1_12 X dL_undoes_306 trivial ?_ | refine sw_iinc_12 X _ dL_undoes_306 rfl trivial ?_
                                      refine sw_goto X 213 dL_undoes_309 (by decide) ?_
                                      exact ih4 (k + 1) (by omega) (by omega)
                                    ·
                                      refine sw_aload_0 X dL_undoes_279 ?_
                                      refine sw_iload_1 X dL_undoes_280 ?_
                                      refine sw_iload_12 X dL_undoes_281 ?_
                                      refine ca_L_19 X (by decide) dL_undoes_283 (Nat.le_of_ble_eq_true rfl) (c_X3_mode_y hq hk) ?_
                                      refine sw_aload_5 X dL_undoes_286 ?_
                                      refine sw_bipush X (nI 16) dL_undoes_288 (by decide) ?_
                                      refine sw_iload_1 X dL_undoes_290 ?_
                                      refine sw_imul X dL_undoes_291 ?_
                                      try refine sw_tope (pk_mul _ _) ?_
                                      refine sw_iload_12 X dL_undoes_292 ?_
                                      refine sw_iadd X dL_undoes_294 ?_
                                      try refine sw_tope (nI_add _ _) ?_
                                      refine ia_6 X (by omega) rfl (by omega) dL_undoes_295 ?_
                                      refine sw_icmp_ne X 303 dL_undoes_296 (by decide) (fun h296 => ?_) (fun h296 => ?_)
                                      ·
                                        exact absurd (hmk k hk h265 (fun z => h276 ((bt_has _ (by omega)).mpr z))) h296
                                      ·
                                        refine sw_iconst X (nI 1) dL_undoes_299 (by decide) ?_
                                        refine sw_goto X 304 dL_undoes_300 (by decide) ?_
                                        refine sw_istore_11 X dL_undoes_304 trivial ?_
                                        first | refine sw_inc1_12 X dL_undoes_306 trivial ?_ | refine sw_iinc_12 X _ dL_undoes_306 rfl trivial ?_
                                        refine sw_goto X 213 dL_undoes_309 (by decide) ?_
                                        exact ih4 (k + 1) (by omega) (by omega)
                                ·
                                  refine sw_aload_7 X dL_undoes_250 ?_
                                  refine sw_iload_12 X dL_undoes_252 ?_
                                  refine ia_7 X (by omega) rfl (by omega) dL_undoes_254 ?_
                                  refine sw_aload_4 X dL_undoes_255 ?_
                                  refine sw_iload_12 X dL_undoes_257 ?_
                                  refine ia_5 X (by omega) rfl (by omega) dL_undoes_259 ?_
                                  refine sw_icmp_ne X 303 dL_undoes_260 (by decide) (fun h260 => ?_) (fun h260 => ?_)
                                  ·
                                    exact absurd (hnc k hk (fun z => h247 ((bt_has _ (by omega)).mpr z))) h260
                                  ·
                                    refine sw_iload_3 X dL_undoes_263 ?_
                                    refine sw_iconst X (nI 1) dL_undoes_264 (by decide) ?_
                                    refine sw_icmp_eq X 299 dL_undoes_265 (by decide) (fun h265 => ?_) (fun h265 => ?_)
                                    ·
                                      refine sw_iconst X (nI 1) dL_undoes_299 (by decide) ?_
                                      refine sw_goto X 304 dL_undoes_300 (by decide) ?_
                                      refine sw_istore_11 X dL_undoes_304 trivial ?_
                                      first | refine sw_inc1_12 X dL_undoes_306 trivial ?_ | refine sw_iinc_12 X _ dL_undoes_306 rfl trivial ?_
                                      refine sw_goto X 213 dL_undoes_309 (by decide) ?_
                                      exact ih4 (k + 1) (by omega) (by omega)
                                    ·
                                      refine sw_iload_9 X dL_undoes_268 ?_
                                      refine sw_iload_12 X dL_undoes_270 ?_
                                      refine sw_ishr X dL_undoes_272 ?_
                                      refine sw_iconst X (nI 1) dL_undoes_273 (by decide) ?_
                                      refine sw_iand X dL_undoes_274 ?_
                                      refine sw_iconst X (nI 1) dL_undoes_275 (by decide) ?_
                                      refine sw_icmp_eq X 299 dL_undoes_276 (by decide) (fun h276 => ?_) (fun h276 => ?_)
                                      ·
                                        refine sw_iconst X (nI 1) dL_undoes_299 (by decide) ?_
                                        refine sw_goto X 304 dL_undoes_300 (by decide) ?_
                                        refine sw_istore_11 X dL_undoes_304 trivial ?_
                                        first | refine sw_inc1_12 X dL_undoes_306 trivial ?_ | refine sw_iinc_12 X _ dL_undoes_306 rfl trivial ?_
                                        refine sw_goto X 213 dL_undoes_309 (by decide) ?_
                                        exact ih4 (k + 1) (by omega) (by omega)
                                      ·
                                        refine sw_aload_0 X dL_undoes_279 ?_
                                        refine sw_iload_1 X dL_undoes_280 ?_
                                        refine sw_iload_12 X dL_undoes_281 ?_
                                        refine ca_L_19 X (by decide) dL_undoes_283 (Nat.le_of_ble_eq_true rfl) (c_X3_mode_y hq hk) ?_
                                        refine sw_aload_5 X dL_undoes_286 ?_
                                        refine sw_bipush X (nI 16) dL_undoes_288 (by decide) ?_
                                        refine sw_iload_1 X dL_undoes_290 ?_
                                        refine sw_imul X dL_undoes_291 ?_
                                        try refine sw_tope (pk_mul _ _) ?_
                                        refine sw_iload_12 X dL_undoes_292 ?_
                                        refine sw_iadd X dL_undoes_294 ?_
                                        try refine sw_tope (nI_add _ _) ?_
                                        refine ia_6 X (by omega) rfl (by omega) dL_undoes_295 ?_
                                        refine sw_icmp_ne X 303 dL_undoes_296 (by decide) (fun h296 => ?_) (fun h296 => ?_)
                                        ·
                                          exact absurd (hmk k hk h265 (fun z => h276 ((bt_has _ (by omega)).mpr z))) h296
                                        ·
                                          refine sw_iconst X (nI 1) dL_undoes_299 (by decide) ?_
                                          refine sw_goto X 304 dL_undoes_300 (by decide) ?_
                                          refine sw_istore_11 X dL_undoes_304 trivial ?_
                                          first | refine sw_inc1_12 X dL_undoes_306 trivial ?_ | refine sw_iinc_12 X _ dL_undoes_306 rfl trivial ?_
                                          refine sw_goto X 213 dL_undoes_309 (by decide) ?_
                                          exact ih4 (k + 1) (by omega) (by omega)
                        exact L213 0 (by omega)
              ·
                refine sw_iload_9 X dL_undoes_170 ?_
                refine sw_goto X 176 dL_undoes_172 (by decide) ?_
                refine sw_icmp_ne X 207 dL_undoes_176 (by decide) (fun h176 => ?_) (fun h176 => ?_)
                ·
                  first | exact absurd (hlk1 h167) h176 | exact absurd (hlk0 h167) h176
                ·
                  refine sw_aload_0 X dL_undoes_179 ?_
                  refine sw_aload_5 X dL_undoes_180 ?_
                  refine sw_iload_1 X dL_undoes_182 ?_
                  refine ca_L_80 X (by decide) dL_undoes_183 (Nat.le_of_ble_eq_true rfl) (c_L_otherModes (M := M2) (by omega) (bn := q) hMq) ?_
                  refine sw_if_ne X 207 dL_undoes_186 (by decide) (fun h186 => ?_) (fun h186 => ?_)
                  ·
                    exact absurd rfl h186
                  ·
                    refine sw_iload_3 X dL_undoes_189 ?_
                    refine sw_if_eq X 203 dL_undoes_190 (by decide) (fun h190 => ?_) (fun h190 => ?_)
                    ·
                      refine sw_iconst X (nI 1) dL_undoes_203 (by decide) ?_
                      refine sw_goto X 208 dL_undoes_204 (by decide) ?_
                      refine sw_istore_11 X dL_undoes_208 trivial ?_
                      refine sw_iconst X (nI 0) dL_undoes_210 (by decide) ?_
                      refine sw_istore_12 X dL_undoes_211 trivial ?_
                      have L213 : ∀ i0, i0 ≤ 16 → (fun k => sw_W G3 K 13 213 [some (.ref (sv_ad G3 0 8 0)), some (.int (nI q)), some (.int (nI a)), some (.int kv), some (.ref (sv_ad G3 5 9 0)), some (.ref (sv_ad G3 6 9 0)), some (.int (nI p)), some (.ref (sv_ad G3 7 9 0)), some (.int (nI x)), some (.int (lkS (M 0) q (p + 1))), some (.int (chS (M 0) q c (p + 1))), some (.int (nI 1)), some (.int (nI k))] [] M2) i0 := by
                        refine up_ind (N := 16) (P := fun k => sw_W G3 K 13 213 [some (.ref (sv_ad G3 0 8 0)), some (.int (nI q)), some (.int (nI a)), some (.int kv), some (.ref (sv_ad G3 5 9 0)), some (.ref (sv_ad G3 6 9 0)), some (.int (nI p)), some (.ref (sv_ad G3 7 9 0)), some (.int (nI x)), some (.int (lkS (M 0) q (p + 1))), some (.int (chS (M 0) q c (p + 1))), some (.int (nI 1)), some (.int (nI k))] [] M2) ?_
                        intro k hk3x ih4
                        show sw_W _ _ _ _ _ _ _
                        refine sw_iload_12 X dL_undoes_213 ?_
                        refine sw_bipush X (nI 16) dL_undoes_215 (by decide) ?_
                        refine sw_icmp_ge X 312 dL_undoes_217 (by decide) (fun h217 => ?_) (fun h217 => ?_)
                        ·
                          have e217 : k = 16 := by have := (nI_leI (by omega) (by omega)).mp h217; omega
                          subst e217
                          refine sw_iload_11 X dL_undoes_312 ?_
                          exact bk _ _ _ _ (sw_zret XK YK dL_undoes_314 (by first | rfl | exact sv_nzB) rfl rfl)
                        ·
                          have hk : k < 16 := by have := mt (nI_leI (by omega) (by omega)).mpr h217; omega
                          refine sw_iload_11 X dL_undoes_220 ?_
                          refine sw_if_eq X 312 dL_undoes_222 (by decide) (fun h222 => ?_) (fun h222 => ?_)
                          ·
                            exact absurd h222 (by decide)
                          ·
                            refine sw_aload_0 X dL_undoes_225 ?_
                            refine sw_iload_12 X dL_undoes_226 ?_
                            refine ca_L_10 X (by decide) dL_undoes_228 (Nat.le_of_ble_eq_true rfl) (c_X3_value_y hk) ?_
                            refine sw_aload_7 X dL_undoes_231 ?_
                            refine sw_iload_12 X dL_undoes_233 ?_
                            refine ia_7 X (by omega) rfl (by omega) dL_undoes_235 ?_
                            refine sw_icmp_ne X 303 dL_undoes_236 (by decide) (fun h236 => ?_) (fun h236 => ?_)
                            ·
                              exact absurd (hdue k hk) h236
                            ·
                              refine sw_iload_10 X dL_undoes_239 ?_
                              refine sw_iload_12 X dL_undoes_241 ?_
                              refine sw_ishr X dL_undoes_243 ?_
                              refine sw_iconst X (nI 1) dL_undoes_244 (by decide) ?_
                              refine sw_iand X dL_undoes_245 ?_
                              refine sw_iconst X (nI 1) dL_undoes_246 (by decide) ?_
                              refine sw_icmp_eq X 263 dL_undoes_247 (by decide) (fun h247 => ?_) (fun h247 => ?_)
                              ·
                                refine sw_iload_3 X dL_undoes_263 ?_
                                refine sw_iconst X (nI 1) dL_undoes_264 (by decide) ?_
                                refine sw_icmp_eq X 299 dL_undoes_265 (by decide) (fun h265 => ?_) (fun h265 => ?_)
                                ·
                                  refine sw_iconst X (nI 1) dL_undoes_299 (by decide) ?_
                                  refine sw_goto X 304 dL_undoes_300 (by decide) ?_
                                  refine sw_istore_11 X dL_undoes_304 trivial ?_
                                  first | refine sw_inc1_12 X dL_undoes_306 trivial ?_ | refine sw_iinc_12 X _ dL_undoes_306 rfl trivial ?_
                                  refine sw_goto X 213 dL_undoes_309 (by decide) ?_
                                  exact ih4 (k + 1) (by omega) (by omega)
                                ·
                                  refine sw_iload_9 X dL_undoes_268 ?_
                                  refine sw_iload_12 X dL_undoes_270 ?_
                                  refine sw_ishr X dL_undoes_272 ?_
                                  refine sw_iconst X (nI 1) dL_undoes_273 (by decide) ?_
                                  refine sw_iand X dL_undoes_274 ?_
                                  refine sw_iconst X (nI 1) dL_undoes_275 (by decide) ?_
                                  refine sw_icmp_eq X 299 dL_undoes_276 (by decide) (fun h276 => ?_) (fun h276 => ?_)
                                  ·
                                    refine sw_iconst X (nI 1) dL_undoes_299 (by decide) ?_
                                    refine sw_goto X 304 dL_undoes_300 (by decide) ?_
                                    refine sw_istore_11 X dL_undoes_304 trivial ?_
                                    first | refine sw_inc1_12 X dL_undoes_306 trivial ?_ | refine sw_iinc_12 X _ dL_undoes_306 rfl trivial ?_
                                    refine sw_goto X 213 dL_undoes_309 (by decide) ?_
                                    exact ih4 (k + 1) (by omega) (by omega)
                                  ·
                                    refine sw_aload_0 X dL_undoes_279 ?_
                                    refine sw_iload_1 X dL_undoes_280 ?_
                                    refine sw_iload_12 X dL_undoes_281 ?_
                                    refine ca_L_19 X (by decide) dL_undoes_283 (Nat.le_of_ble_eq_true rfl) (c_X3_mode_y hq hk) ?_
                                    refine sw_aload_5 X dL_undoes_286 ?_
                                    refine sw_bipush X (nI 16) dL_undoes_288 (by decide) ?_
                                    refine sw_iload_1 X dL_undoes_290 ?_
                                    refine sw_imul X dL_undoes_291 ?_
                                    try refine sw_tope (pk_mul _ _) ?_
                                    refine sw_iload_12 X dL_undoes_292 ?_
                                    refine sw_iadd X dL_undoes_294 ?_
                                    try refine sw_tope (nI_add _ _) ?_
                                    refine ia_6 X (by omega) rfl (by omega) dL_undoes_295 ?_
                                    refine sw_icmp_ne X 303 dL_undoes_296 (by decide) (fun h296 => ?_) (fun h296 => ?_)
                                    ·
                                      exact absurd (hmk k hk h265 (fun z => h276 ((bt_has _ (by omega)).mpr z))) h296
                                    ·
                                      refine sw_iconst X (nI 1) dL_undoes_299 (by decide) ?_
                                      refine sw_goto X 304 dL_undoes_300 (by decide) ?_
                                      refine sw_istore_11 X dL_undoes_304 trivial ?_
                                      first | refine sw_inc1_12 X dL_undoes_306 trivial ?_ | refine sw_iinc_12 X _ dL_undoes_306 rfl trivial ?_
                                      refine sw_goto X 213 dL_undoes_309 (by decide) ?_
                                      exact ih4 (k + 1) (by omega) (by omega)
                              ·
                                refine sw_aload_7 X dL_undoes_250 ?_
                                refine sw_iload_12 X dL_undoes_252 ?_
                                refine ia_7 X (by omega) rfl (by omega) dL_undoes_254 ?_
                                refine sw_aload_4 X dL_undoes_255 ?_
                                refine sw_iload_12 X dL_undoes_257 ?_
                                refine ia_5 X (by omega) rfl (by omega) dL_undoes_259 ?_
                                refine sw_icmp_ne X 303 dL_undoes_260 (by decide) (fun h260 => ?_) (fun h260 => ?_)
                                ·
                                  exact absurd (hnc k hk (fun z => h247 ((bt_has _ (by omega)).mpr z))) h260
                                ·
                                  refine sw_iload_3 X dL_undoes_263 ?_
                                  refine sw_iconst X (nI 1) dL_undoes_264 (by decide) ?_
                                  refine sw_icmp_eq X 299 dL_undoes_265 (by decide) (fun h265 => ?_) (fun h265 => ?_)
                                  ·
                                    refine sw_iconst X (nI 1) dL_undoes_299 (by decide) ?_
                                    refine sw_goto X 304 dL_undoes_300 (by decide) ?_
                                    refine sw_istore_11 X dL_undoes_304 trivial ?_
                                    first | refine sw_inc1_12 X dL_undoes_306 trivial ?_ | refine sw_iinc_12 X _ dL_undoes_306 rfl trivial ?_
                                    refine sw_goto X 213 dL_undoes_309 (by decide) ?_
                                    exact ih4 (k + 1) (by omega) (by omega)
                                  ·
                                    refine sw_iload_9 X dL_undoes_268 ?_
                                    refine sw_iload_12 X dL_undoes_270 ?_
                                    refine sw_ishr X dL_undoes_272 ?_
                                    refine sw_iconst X (nI 1) dL_undoes_273 (by decide) ?_
                                    refine sw_iand X dL_undoes_274 ?_
                                    refine sw_iconst X (nI 1) dL_undoes_275 (by decide) ?_
                                    refine sw_icmp_eq X 299 dL_undoes_276 (by decide) (fun h276 => ?_) (fun h276 => ?_)
                                    ·
                                      refine sw_iconst X (nI 1) dL_undoes_299 (by decide) ?_
                                      refine sw_goto X 304 dL_undoes_300 (by decide) ?_
                                      refine sw_istore_11 X dL_undoes_304 trivial ?_
                                      first | refine sw_inc1_12 X dL_undoes_306 trivial ?_ | refine sw_iinc_12 X _ dL_undoes_306 rfl trivial ?_
                                      refine sw_goto X 213 dL_undoes_309 (by decide) ?_
                                      exact ih4 (k + 1) (by omega) (by omega)
                                    ·
                                      refine sw_aload_0 X dL_undoes_279 ?_
                                      refine sw_iload_1 X dL_undoes_280 ?_
                                      refine sw_iload_12 X dL_undoes_281 ?_
                                      refine ca_L_19 X (by decide) dL_undoes_283 (Nat.le_of_ble_eq_true rfl) (c_X3_mode_y hq hk) ?_
                                      refine sw_aload_5 X dL_undoes_286 ?_
                                      refine sw_bipush X (nI 16) dL_undoes_288 (by decide) ?_
                                      refine sw_iload_1 X dL_undoes_290 ?_
                                      refine sw_imul X dL_undoes_291 ?_
                                      try refine sw_tope (pk_mul _ _) ?_
                                      refine sw_iload_12 X dL_undoes_292 ?_
                                      refine sw_iadd X dL_undoes_294 ?_
                                      try refine sw_tope (nI_add _ _) ?_
                                      refine ia_6 X (by omega) rfl (by omega) dL_undoes_295 ?_
                                      refine sw_icmp_ne X 303 dL_undoes_296 (by decide) (fun h296 => ?_) (fun h296 => ?_)
                                      ·
                                        exact absurd (hmk k hk h265 (fun z => h276 ((bt_has _ (by omega)).mpr z))) h296
                                      ·
                                        refine sw_iconst X (nI 1) dL_undoes_299 (by decide) ?_
                                        refine sw_goto X 304 dL_undoes_300 (by decide) ?_
                                        refine sw_istore_11 X dL_undoes_304 trivial ?_
                                        first | refine sw_inc1_12 X dL_undoes_306 trivial ?_ | refine sw_iinc_12 X _ dL_undoes_306 rfl trivial ?_
                                        refine sw_goto X 213 dL_undoes_309 (by decide) ?_
                                        exact ih4 (k + 1) (by omega) (by omega)
                      exact L213 0 (by omega)
                    ·
                      refine sw_aload_0 X dL_undoes_193 ?_
                      refine sw_aload_5 X dL_undoes_194 ?_
                      refine sw_iconst X (nI 3) dL_undoes_196 (by decide) ?_
                      refine ca_L_80 X (by decide) dL_undoes_197 (Nat.le_of_ble_eq_true rfl) (c_L_otherModes (M := M2) (by omega) (bn := 3) (hM3 h190)) ?_
                      refine sw_if_ne X 207 dL_undoes_200 (by decide) (fun h200 => ?_) (fun h200 => ?_)
                      ·
                        exact absurd rfl h200
                      ·
                        refine sw_iconst X (nI 1) dL_undoes_203 (by decide) ?_
                        refine sw_goto X 208 dL_undoes_204 (by decide) ?_
                        refine sw_istore_11 X dL_undoes_208 trivial ?_
                        refine sw_iconst X (nI 0) dL_undoes_210 (by decide) ?_
                        refine sw_istore_12 X dL_undoes_211 trivial ?_
                        have L213 : ∀ i0, i0 ≤ 16 → (fun k => sw_W G3 K 13 213 [some (.ref (sv_ad G3 0 8 0)), some (.int (nI q)), some (.int (nI a)), some (.int kv), some (.ref (sv_ad G3 5 9 0)), some (.ref (sv_ad G3 6 9 0)), some (.int (nI p)), some (.ref (sv_ad G3 7 9 0)), some (.int (nI x)), some (.int (lkS (M 0) q (p + 1))), some (.int (chS (M 0) q c (p + 1))), some (.int (nI 1)), some (.int (nI k))] [] M2) i0 := by
                          refine up_ind (N := 16) (P := fun k => sw_W G3 K 13 213 [some (.ref (sv_ad G3 0 8 0)), some (.int (nI q)), some (.int (nI a)), some (.int kv), some (.ref (sv_ad G3 5 9 0)), some (.ref (sv_ad G3 6 9 0)), some (.int (nI p)), some (.ref (sv_ad G3 7 9 0)), some (.int (nI x)), some (.int (lkS (M 0) q (p + 1))), some (.int (chS (M 0) q c (p + 1))), some (.int (nI 1)), some (.int (nI k))] [] M2) ?_
                          intro k hk3x ih4
                          show sw_W _ _ _ _ _ _ _
                          refine sw_iload_12 X dL_undoes_213 ?_
                          refine sw_bipush X (nI 16) dL_undoes_215 (by decide) ?_
                          refine sw_icmp_ge X 312 dL_undoes_217 (by decide) (fun h217 => ?_) (fun h217 => ?_)
                          ·
                            have e217 : k = 16 := by have := (nI_leI (by omega) (by omega)).mp h217; omega
                            subst e217
                            refine sw_iload_11 X dL_undoes_312 ?_
                            exact bk _ _ _ _ (sw_zret XK YK dL_undoes_314 (by first | rfl | exact sv_nzB) rfl rfl)
                          ·
                            have hk : k < 16 := by have := mt (nI_leI (by omega) (by omega)).mpr h217; omega
                            refine sw_iload_11 X dL_undoes_220 ?_
                            refine sw_if_eq X 312 dL_undoes_222 (by decide) (fun h222 => ?_) (fun h222 => ?_)
                            ·
                              exact absurd h222 (by decide)
                            ·
                              refine sw_aload_0 X dL_undoes_225 ?_
                              refine sw_iload_12 X dL_undoes_226 ?_
                              refine ca_L_10 X (by decide) dL_undoes_228 (Nat.le_of_ble_eq_true rfl) (c_X3_value_y hk) ?_
                              refine sw_aload_7 X dL_undoes_231 ?_
                              refine sw_iload_12 X dL_undoes_233 ?_
                              refine ia_7 X (by omega) rfl (by omega) dL_undoes_235 ?_
                              refine sw_icmp_ne X 303 dL_undoes_236 (by decide) (fun h236 => ?_) (fun h236 => ?_)
                              ·
                                exact absurd (hdue k hk) h236
                              ·
                                refine sw_iload_10 X dL_undoes_239 ?_
                                refine sw_iload_12 X dL_undoes_241 ?_
                                refine sw_ishr X dL_undoes_243 ?_
                                refine sw_iconst X (nI 1) dL_undoes_244 (by decide) ?_
                                refine sw_iand X dL_undoes_245 ?_
                                refine sw_iconst X (nI 1) dL_undoes_246 (by decide) ?_
                                refine sw_icmp_eq X 263 dL_undoes_247 (by decide) (fun h247 => ?_) (fun h247 => ?_)
                                ·
                                  refine sw_iload_3 X dL_undoes_263 ?_
                                  refine sw_iconst X (nI 1) dL_undoes_264 (by decide) ?_
                                  refine sw_icmp_eq X 299 dL_undoes_265 (by decide) (fun h265 => ?_) (fun h265 => ?_)
                                  ·
                                    refine sw_iconst X (nI 1) dL_undoes_299 (by decide) ?_
                                    refine sw_goto X 304 dL_undoes_300 (by decide) ?_
                                    refine sw_istore_11 X dL_undoes_304 trivial ?_
                                    first | refine sw_inc1_12 X dL_undoes_306 trivial ?_ | refine sw_iinc_12 X _ dL_undoes_306 rfl trivial ?_
                                    refine sw_goto X 213 dL_undoes_309 (by decide) ?_
                                    exact ih4 (k + 1) (by omega) (by omega)
                                  ·
                                    refine sw_iload_9 X dL_undoes_268 ?_
                                    refine sw_iload_12 X dL_undoes_270 ?_
                                    refine sw_ishr X dL_undoes_272 ?_
                                    refine sw_iconst X (nI 1) dL_undoes_273 (by decide) ?_
                                    refine sw_iand X dL_undoes_274 ?_
                                    refine sw_iconst X (nI 1) dL_undoes_275 (by decide) ?_
                                    refine sw_icmp_eq X 299 dL_undoes_276 (by decide) (fun h276 => ?_) (fun h276 => ?_)
                                    ·
                                      refine sw_iconst X (nI 1) dL_undoes_299 (by decide) ?_
                                      refine sw_goto X 304 dL_undoes_300 (by decide) ?_
                                      refine sw_istore_11 X dL_undoes_304 trivial ?_
                                      first | refine sw_inc1_12 X dL_undoes_306 trivial ?_ | refine sw_iinc_12 X _ dL_undoes_306 rfl trivial ?_
                                      refine sw_goto X 213 dL_undoes_309 (by decide) ?_
                                      exact ih4 (k + 1) (by omega) (by omega)
                                    ·
                                      refine sw_aload_0 X dL_undoes_279 ?_
                                      refine sw_iload_1 X dL_undoes_280 ?_
                                      refine sw_iload_12 X dL_undoes_281 ?_
                                      refine ca_L_19 X (by decide) dL_undoes_283 (Nat.le_of_ble_eq_true rfl) (c_X3_mode_y hq hk) ?_
                                      refine sw_aload_5 X dL_undoes_286 ?_
                                      refine sw_bipush X (nI 16) dL_undoes_288 (by decide) ?_
                                      refine sw_iload_1 X dL_undoes_290 ?_
                                      refine sw_imul X dL_undoes_291 ?_
                                      try refine sw_tope (pk_mul _ _) ?_
                                      refine sw_iload_12 X dL_undoes_292 ?_
                                      refine sw_iadd X dL_undoes_294 ?_
                                      try refine sw_tope (nI_add _ _) ?_
                                      refine ia_6 X (by omega) rfl (by omega) dL_undoes_295 ?_
                                      refine sw_icmp_ne X 303 dL_undoes_296 (by decide) (fun h296 => ?_) (fun h296 => ?_)
                                      ·
                                        exact absurd (hmk k hk h265 (fun z => h276 ((bt_has _ (by omega)).mpr z))) h296
                                      ·
                                        refine sw_iconst X (nI 1) dL_undoes_299 (by decide) ?_
                                        refine sw_goto X 304 dL_undoes_300 (by decide) ?_
                                        refine sw_istore_11 X dL_undoes_304 trivial ?_
                                        first | refine sw_inc1_12 X dL_undoes_306 trivial ?_ | refine sw_iinc_12 X _ dL_undoes_306 rfl trivial ?_
                                        refine sw_goto X 213 dL_undoes_309 (by decide) ?_
                                        exact ih4 (k + 1) (by omega) (by omega)
                                ·
                                  refine sw_aload_7 X dL_undoes_250 ?_
                                  refine sw_iload_12 X dL_undoes_252 ?_
                                  refine ia_7 X (by omega) rfl (by omega) dL_undoes_254 ?_
                                  refine sw_aload_4 X dL_undoes_255 ?_
                                  refine sw_iload_12 X dL_undoes_257 ?_
                                  refine ia_5 X (by omega) rfl (by omega) dL_undoes_259 ?_
                                  refine sw_icmp_ne X 303 dL_undoes_260 (by decide) (fun h260 => ?_) (fun h260 => ?_)
                                  ·
                                    exact absurd (hnc k hk (fun z => h247 ((bt_has _ (by omega)).mpr z))) h260
                                  ·
                                    refine sw_iload_3 X dL_undoes_263 ?_
                                    refine sw_iconst X (nI 1) dL_undoes_264 (by decide) ?_
                                    refine sw_icmp_eq X 299 dL_undoes_265 (by decide) (fun h265 => ?_) (fun h265 => ?_)
                                    ·
                                      refine sw_iconst X (nI 1) dL_undoes_299 (by decide) ?_
                                      refine sw_goto X 304 dL_undoes_300 (by decide) ?_
                                      refine sw_istore_11 X dL_undoes_304 trivial ?_
                                      first | refine sw_inc1_12 X dL_undoes_306 trivial ?_ | refine sw_iinc_12 X _ dL_undoes_306 rfl trivial ?_
                                      refine sw_goto X 213 dL_undoes_309 (by decide) ?_
                                      exact ih4 (k + 1) (by omega) (by omega)
                                    ·
                                      refine sw_iload_9 X dL_undoes_268 ?_
                                      refine sw_iload_12 X dL_undoes_270 ?_
                                      refine sw_ishr X dL_undoes_272 ?_
                                      refine sw_iconst X (nI 1) dL_undoes_273 (by decide) ?_
                                      refine sw_iand X dL_undoes_274 ?_
                                      refine sw_iconst X (nI 1) dL_undoes_275 (by decide) ?_
                                      refine sw_icmp_eq X 299 dL_undoes_276 (by decide) (fun h276 => ?_) (fun h276 => ?_)
                                      ·
                                        refine sw_iconst X (nI 1) dL_undoes_299 (by decide) ?_
                                        refine sw_goto X 304 dL_undoes_300 (by decide) ?_
                                        refine sw_istore_11 X dL_undoes_304 trivial ?_
                                        first | refine sw_inc1_12 X dL_undoes_306 trivial ?_ | refine sw_iinc_12 X _ dL_undoes_306 rfl trivial ?_
                                        refine sw_goto X 213 dL_undoes_309 (by decide) ?_
                                        exact ih4 (k + 1) (by omega) (by omega)
                                      ·
                                        refine sw_aload_0 X dL_undoes_279 ?_
                                        refine sw_iload_1 X dL_undoes_280 ?_
                                        refine sw_iload_12 X dL_undoes_281 ?_
                                        refine ca_L_19 X (by decide) dL_undoes_283 (Nat.le_of_ble_eq_true rfl) (c_X3_mode_y hq hk) ?_
                                        refine sw_aload_5 X dL_undoes_286 ?_
                                        refine sw_bipush X (nI 16) dL_undoes_288 (by decide) ?_
                                        refine sw_iload_1 X dL_undoes_290 ?_
                                        refine sw_imul X dL_undoes_291 ?_
                                        try refine sw_tope (pk_mul _ _) ?_
                                        refine sw_iload_12 X dL_undoes_292 ?_
                                        refine sw_iadd X dL_undoes_294 ?_
                                        try refine sw_tope (nI_add _ _) ?_
                                        refine ia_6 X (by omega) rfl (by omega) dL_undoes_295 ?_
                                        refine sw_icmp_ne X 303 dL_undoes_296 (by decide) (fun h296 => ?_) (fun h296 => ?_)
                                        ·
                                          exact absurd (hmk k hk h265 (fun z => h276 ((bt_has _ (by omega)).mpr z))) h296
                                        ·
                                          refine sw_iconst X (nI 1) dL_undoes_299 (by decide) ?_
                                          refine sw_goto X 304 dL_undoes_300 (by decide) ?_
                                          refine sw_istore_11 X dL_undoes_304 trivial ?_
                                          first | refine sw_inc1_12 X dL_undoes_306 trivial ?_ | refine sw_iinc_12 X _ dL_undoes_306 rfl trivial ?_
                                          refine sw_goto X 213 dL_undoes_309 (by decide) ?_
                                          exact ih4 (k + 1) (by omega) (by omega)
                        exact L213 0 (by omega)
      ·
        have hr : r < 16 := by have := mt (nI_leI (by omega) (by omega)).mpr h77; omega
        refine sw_aload_7 X dL_undoes_80 ?_
        refine sw_iload_11 X dL_undoes_82 ?_
        refine sw_aload_0 X dL_undoes_84 ?_
        refine sw_iload_1 X dL_undoes_85 ?_
        refine sw_iload_2 X dL_undoes_86 ?_
        refine sw_iload_11 X dL_undoes_87 ?_
        refine ca_L_90 X (by decide) dL_undoes_89 (Nat.le_of_ble_eq_true rfl) (c_X3_ifUndone_y (M := duM M q c p r) hq hr hc hl (by omega) (spo_of hI hq ha hnr2 hp2 _ rfl)) ?_
        refine sw_tope (v2 := vaR (M 0) q r (M 0 11 0 r) c (p + 1)) rfl ?_
        refine is_7 X (by omega) rfl (by omega) dL_undoes_92 ?_
        refine sw_mem (M2 := duM M q c p (r + 1)) (duM_up ..) ?_
        refine sw_iload_8 X dL_undoes_93 ?_
        refine sw_aload_7 X dL_undoes_95 ?_
        refine sw_iload_11 X dL_undoes_97 ?_
        refine ia_7 X (by omega) rfl (by omega) dL_undoes_99 ?_
        refine sw_tope (v2 := vaR (M 0) q r (M 0 11 0 r) c (p + 1)) (duM_7 _ _ _ _ (by omega)) ?_
        refine sw_aload_4 X dL_undoes_100 ?_
        refine sw_iload_11 X dL_undoes_102 ?_
        refine ia_5 X (by omega) rfl (by omega) dL_undoes_104 ?_
        refine sw_tope (v2 := M 0 11 0 r) (by rw [duM_9 _ _ _ _ _ (by omega)]; exact hB.1 r hr) ?_
        refine sw_icmp_eq X 112 dL_undoes_105 (by decide) (fun h105 => ?_) (fun h105 => ?_)
        ·
          refine sw_iconst X (nI 0) dL_undoes_112 (by decide) ?_
          refine sw_iadd X dL_undoes_113 ?_
          try refine sw_tope (nI_add _ _) ?_
          refine sw_istore_8 X dL_undoes_114 trivial ?_
          first | refine sw_inc1_11 X dL_undoes_116 trivial ?_ | refine sw_iinc_11 X _ dL_undoes_116 rfl trivial ?_
          refine sw_goto X 73 dL_undoes_119 (by decide) ?_
          exact ih (r + 1) (by omega) (by omega) _ (by first | exact (congrArg (· + 1) hx).trans (cnt_t (p := difP (M 0) q (p + 1) c) h105).symm | exact hx.trans (cnt_f (p := difP (M 0) q (p + 1) c) (fun z => z h105)).symm)
        ·
          refine sw_iconst X (nI 1) dL_undoes_108 (by decide) ?_
          refine sw_goto X 113 dL_undoes_109 (by decide) ?_
          refine sw_iadd X dL_undoes_113 ?_
          try refine sw_tope (nI_add _ _) ?_
          refine sw_istore_8 X dL_undoes_114 trivial ?_
          first | refine sw_inc1_11 X dL_undoes_116 trivial ?_ | refine sw_iinc_11 X _ dL_undoes_116 rfl trivial ?_
          refine sw_goto X 73 dL_undoes_119 (by decide) ?_
          exact ih (r + 1) (by omega) (by omega) _ (by first | exact (congrArg (· + 1) hx).trans (cnt_t (p := difP (M 0) q (p + 1) c) h105).symm | exact hx.trans (cnt_f (p := difP (M 0) q (p + 1) c) (fun z => z h105)).symm)
    refine sw_mem (M2 := duM M q c p 0) (duM_00 ..) ?_
    refine sw_astore_7 X dL_undoes_45 trivial ?_
    refine sw_iconst X (nI 0) dL_undoes_47 (by decide) ?_
    refine sw_istore_8 X dL_undoes_48 trivial ?_
    refine sw_aload_0 X dL_undoes_50 ?_
    refine sw_iload_1 X dL_undoes_51 ?_
    refine sw_iload_6 X dL_undoes_52 ?_
    refine sw_iconst X (nI 1) dL_undoes_54 (by decide) ?_
    refine ca_L_26 X (by decide) dL_undoes_55 (Nat.le_of_ble_eq_true rfl) (cs_l (M := duM M q c p 0) hq hc hl hp) ?_
    refine sw_tope (v2 := lkS (M 0) q (p + 1)) rfl ?_
    refine sw_istore_9 X dL_undoes_58 trivial ?_
    refine sw_aload_0 X dL_undoes_60 ?_
    refine sw_iload_1 X dL_undoes_61 ?_
    refine sw_iload_6 X dL_undoes_62 ?_
    refine sw_iconst X (nI 0) dL_undoes_64 (by decide) ?_
    refine ca_L_26 X (by decide) dL_undoes_65 (Nat.le_of_ble_eq_true rfl) (cs_v (M := duM M q c p 0) hq hc hl hp) ?_
    refine sw_tope (v2 := chS (M 0) q c (p + 1)) rfl ?_
    refine sw_istore_10 X dL_undoes_68 trivial ?_
    refine sw_iconst X (nI 0) dL_undoes_70 (by decide) ?_
    refine sw_istore_11 X dL_undoes_71 trivial ?_
    exact L73 0 (by omega) 0 rfl
  have X := X_n (c := 0) (s := 0) XK (Nat.zero_le _) (Nat.zero_le _)
  refine sw_aload_0 X dL_undoes_0 ?_
  refine sw_iload_1 X dL_undoes_1 ?_
  refine sw_iload_2 X dL_undoes_2 ?_
  refine ca_L_33 X (by decide) dL_undoes_3 (Nat.le_of_ble_eq_true rfl) (c_X3_nearest_y hq (nm_in ha) hc hl) ?_
  refine sw_tope hnr ?_
  refine sw_istore_6 X dL_undoes_6 trivial ?_
  refine sw_iload_6 X dL_undoes_8 ?_
  refine sw_if_ge X 41 dL_undoes_10 (by decide) (fun h10 => ?_) (fun h10 => ?_)
  ·
    refine sw_bipush X (nI 16) dL_undoes_41 (by decide) ?_
    exact sw_new3 XK hg (by rw [hkc]; omega) (by rw [hks]; omega) dL_undoes_43 (fun z => sw_widen (by rw [hkc]; omega) (by rw [hks]; omega) (main z))
  ·
    exact absurd (Int32.not_lt.mp (nI_pos (n := p) (by omega))) h10
theorem undoes_all {M : sv_Mem} {cs : Nat → Nat} (hI : SI (M 0) cs) (hm : HM M) (hB : BM M (M 0) cs) {q a : Nat} (hq : q < 3) (ha : a < 8) : ∃ M2 : sv_Mem, (∀ G : sv_G, gn G = 3 → sv_CtA G M_L_undoes 6 [.ref (sv_ad G 0 8 0), .int (nI q), .int (nI a), .int (M 0 10 0 0), .ref (sv_ad G 5 9 0), .ref (sv_ad G 6 9 0)] M (some (.int (nI 1))) M2 1 16) ∧ RS M M2 := by
  obtain ⟨hl, hS, -⟩ := hI.2.2.1 q hq
  rcases nrR_or (M 0 16 q) (nI a) (cs q - 1) with hnr | ⟨p, hp, hnr⟩
  · obtain ⟨M1, c1, e0, e9, e8⟩ := ac_undo_n hI hm hq ha hnr
    obtain ⟨M2, c2, f0, f9, f8⟩ := ac_rel_n (M := M1) (by rw [e0]; exact hI) e8 hq ha (by rw [e0]; exact hnr)
    exact ⟨M2, fun G hg => c_L_undoes_n hq ha hl hS.1 hnr (c1 G) (c2 G), ⟨cs, by rw [f0, e0]; exact hI⟩, f8, by rw [f9, e9], by rw [f0, e0]⟩
  · have hpc : p + 1 < cs q := by omega
    obtain ⟨M2, cU, e0, e9, e8⟩ := ac_undo_y (M := duM M q (cs q) p 16) hI hm hq ha hnr hp
    obtain ⟨a1, a2, a3, a4, a5, a6, a7, a8⟩ := undo_R hI hq rfl hpc (M2 0) e0
    have lP : ∀ k, k < 16 → mm (M 0 15 q (p + 1)) k ≤ mm (M 0 14 q 1) k := fun k hk => by
      have := KO_le (hS.2.2.1 k hk) (r := p + 1) (by omega)
      rw [LA_lt hpc] at this
      exact this
    have eB : ∀ k, k < 16 → M2 9 5 0 k = M 0 11 0 k := fun k hk => by rw [e9, duM_9 _ _ _ _ _ (by omega), hB.1 k hk]
    have eM : ∀ r, r < 48 → M2 9 6 0 r = md (M 0 14 (r / 16) 1) (r % 16) := fun r hr => by rw [e9, duM_9 _ _ _ _ _ (by omega), hB.2.2 r hr]
    have eD : ∀ k, k < 16 → M2 9 7 0 k = vaR (M 0) q k (M 0 11 0 k) (cs q) (p + 1) := fun k hk => by rw [e9, duM_7 _ _ _ _ hk]
    have hK : ∀ {v : Int32}, M 0 10 0 0 = v → ¬ v = nI 1 → M 0 10 0 0 = nI 0 := fun h1 h2 => hI.1.resolve_right (fun z => h2 (h1.symm.trans z))
    refine ⟨M2, fun G hg => c_L_undoes_y hg hI hq ha rfl hl hS.1 hnr hp hB cU a7 ?_ (fun hk1 => ?_) (fun hk0 => ?_) (fun r hr hn => ?_) (fun hk0 r hr hn => ?_) (fun k hk => ?_) (fun k hk hn => ?_) (fun k hk hk0 hn => ?_), ⟨_, a1⟩, e8, by rw [e9, duM_9 _ _ _ _ _ (by omega)], by rw [a8]⟩
    · show sncR (M2 0 17 q) (p + 2 - (p + 1)) (p + 1) (nI 0) = nI 0
      rw [show p + 2 - (p + 1) = 1 by omega]
      show nI 0 ||| M2 0 17 q (p + 1) = nI 0
      rw [a6]
      decide
    · show lcS (M2 0 15 q (p + 1) ^^^ M2 0 14 q 1) 16 = lcS (M 0 15 q (p + 1) ^^^ M 0 14 q 1) 16
      rw [a5, a4, if_neg (by rw [hk1]; decide)]
    · show lcS (M2 0 15 q (p + 1) ^^^ M2 0 14 q 1) 16 = nI 0
      rw [a5, a4, if_pos (hK rfl hk0), Int32.xor_self]
      decide +kernel
    · rw [a3 _ hn, eM r hr]
    · by_cases e : r / 16 = q
      · rw [eM r hr, e, a4, if_neg (show ¬ M 0 10 0 0 = nI 0 from hk0)]
      · rw [a3 _ e, eM r hr]
    · rw [a2 k hk, eD k hk]
    · rw [eD k hk, eB k hk, va_f hn]
    · rw [eM _ (by omega), show (16 * q + k) / 16 = q by omega, show (16 * q + k) % 16 = k by omega, a4, if_pos (hK rfl hk0), md_mm _ hk, md_mm _ hk]
      by_cases e : mm (M 0 15 q (p + 1)) k = mm (M 0 14 q 1) k
      · rw [e]
      · exact absurd ((lkS_bt (by omega)).mpr ⟨hk, e⟩) hn
