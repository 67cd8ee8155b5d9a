theorem cs_v {G : sv_G} {M : sv_Mem} {q p c : Nat} (hq : q < 3) (hc : M 0 14 q 0 = nI c) (hc2 : c ≤ 13) (hp : p < c - 1) : sv_Ct G M_X3_changedSince 3 [.ref (sv_ad G 0 8 0), .int (nI q), .int (nI p), .int (nI 0)] M (some (.int (chS (M 0) q c (p + 1)))) M := by
  have h := c_X3_changedSince_y (G := G) (b := False) hq hc hc2 hp
  rw [if_neg (fun z => z), bI_f (fun z => z)] at h
  exact h
theorem cs_l {G : sv_G} {M : sv_Mem} {q p c : Nat} (hq : q < 3) (hc : M 0 14 q 0 = nI c) (hc2 : c ≤ 13) (hp : p < c - 1) : sv_Ct G M_X3_changedSince 3 [.ref (sv_ad G 0 8 0), .int (nI q), .int (nI p), .int (nI 1)] M (some (.int (lkS (M 0) q (p + 1)))) M := by
  have h := c_X3_changedSince_y (G := G) (b := True) hq hc hc2 hp
  rw [if_pos trivial, bI_t trivial] at h
  exact h
theorem cnt_md0 {x : Int32} (hx : x = nI 0) {n : Nat} (h1 : 1 ≤ n) (h2 : n < 4) : cnt (fun k => md x k = nI n) 16 = 0 := by
  have e : cnt (fun k => md x k = nI n) 16 = cnt (fun k => md x k = nI n) 0 := cnt_zero 0 16 (fun i a b z => by
    have := mm_of b (by omega) z
    rw [hx, mm_0] at this
    omega) (by omega)
  exact e
theorem chS_pos {T : sv_T} {q c : Nat} (h : SO T q c) (m : Nat) : ¬ chS T q c m < 0 := by
  obtain ⟨n, h1, h2⟩ := hi0_nI (chS_hi h m)
  rw [h2]
  exact nI_pos (by omega)
theorem bt_yes {x : Int32} {k : Nat} (hk : k < 32) (h : ¬ (x >>> (nI k &&& 31)) &&& nI 1 = 0) : bt x k = true := Decidable.not_not.mp (fun z => h ((bt_has0 x hk).mpr (bt_true.mp z)))
theorem nr_step {f : Nat → Int32} {nm : Int32} {p : Nat} : nrR f nm (p + 1) = if f p = nm then nI p else nrR f nm p := rfl

set_option maxHeartbeats 4000000 in
set_option maxRecDepth 100000 in
theorem c_L_isSession {G : sv_G} {M : sv_Mem} {q : Nat} (hq : q < 3) {cs : Nat → Nat} (hI : SI (M 0) cs) : sv_Ct G M_L_isSession 4 [.ref (sv_ad G 0 8 0), .int (nI q)] M (some (.int (nI 1))) (M) := by
  obtain ⟨hl, hs, hN⟩ := hI.2.2.1 q hq
  obtain ⟨c, hcc⟩ : ∃ c, c = cs q := ⟨_, rfl⟩
  rw [← hcc] at hl hs hN
  have hc := hs.1
  obtain ⟨kn, hkn, hkl, hkle, hk0⟩ := chg_cnt hs
  have hpl := pcn_le (nI kn)
  have hb2 := cnt_le (fun k => md (M 0 14 q 1) k = nI 2) 16
  refine sv_Ct_of (lo := [some (.ref (sv_ad G 0 8 0)), some (.int (nI q)), none, none, none, none, none, none, none, none, none]) (pn_L) rfl (Nat.le_of_ble_eq_true rfl) rfl (fun K X Y => ?_)
  replace X : sv_X G K cL_isSession RL 11 4 := X
  replace Y : sv_Y G K (some .boolean) _ _ := Y
  show sw_W G K 11 0 _ _ _
  have L341 : ∀ i0, i0 ≤ 8 → (fun r => sw_W G K 11 341 [some (.ref (sv_ad G 0 8 0)), some (.int (nI q)), some (.int (nI (c - 1))), none, none, none, some (.int (nI 1)), some (.int (nI r)), none, none, none] [] M) i0 := by
    refine up_ind (N := 8) (P := fun r => sw_W G K 11 341 [some (.ref (sv_ad G 0 8 0)), some (.int (nI q)), some (.int (nI (c - 1))), none, none, none, some (.int (nI 1)), some (.int (nI r)), none, none, none] [] M) ?_
    intro r hr3x ih
    show sw_W _ _ _ _ _ _ _
    refine sw_iload_7 X dL_isSession_341 ?_
    refine sw_bipush X (nI 8) dL_isSession_343 (by decide) ?_
    refine sw_icmp_ge X 418 dL_isSession_345 (by decide) (fun h345 => ?_) (fun h345 => ?_)
    ·
      have e345 : r = 8 := by have := (nI_leI (by omega) (by omega)).mp h345; omega
      subst e345
      refine sw_iload_6 X dL_isSession_418 ?_
      exact sw_zret X Y dL_isSession_420 (by first | rfl | exact sv_nzB) (rfl) (rfl)
    ·
      have hr : r < 8 := by have := mt (nI_leI (by omega) (by omega)).mpr h345; omega
      refine sw_iload_6 X dL_isSession_348 ?_
      refine sw_if_eq X 418 dL_isSession_350 (by decide) (fun h350 => ?_) (fun h350 => ?_)
      ·
        exact absurd h350 (by decide)
      ·
        refine sw_bipush X (-5) dL_isSession_353 (by decide) ?_
        refine sw_istore_8 X dL_isSession_355 trivial ?_
        refine sw_iconst X (nI 0) dL_isSession_357 (by decide) ?_
        refine sw_istore_9 X dL_isSession_358 trivial ?_
        have L360 : ∀ i0, i0 ≤ (c - 1) → (fun p => ∀ x, x = nrR (M 0 16 q) (nI r) p → sw_W G K 11 360 [some (.ref (sv_ad G 0 8 0)), some (.int (nI q)), some (.int (nI (c - 1))), none, none, none, some (.int (nI 1)), some (.int (nI r)), some (.int x), some (.int (nI p)), none] [] M) i0 := by
          refine up_ind (N := (c - 1)) (P := fun p => ∀ x, x = nrR (M 0 16 q) (nI r) p → sw_W G K 11 360 [some (.ref (sv_ad G 0 8 0)), some (.int (nI q)), some (.int (nI (c - 1))), none, none, none, some (.int (nI 1)), some (.int (nI r)), some (.int x), some (.int (nI p)), none] [] M) ?_
          intro p hp3x ih2 x hx
          show sw_W _ _ _ _ _ _ _
          refine sw_iload_9 X dL_isSession_360 ?_
          refine sw_iload_2 X dL_isSession_362 ?_
          refine sw_icmp_ge X 393 dL_isSession_363 (by decide) (fun h363 => ?_) (fun h363 => ?_)
          ·
            have e363 : p = (c - 1) := by have := (nI_leI (by omega) (by omega)).mp h363; omega
            subst e363
            refine sw_aload_0 X dL_isSession_393 ?_
            refine sw_iload_1 X dL_isSession_394 ?_
            refine sw_iload_7 X dL_isSession_395 ?_
            refine ca_L_33 X (by decide) dL_isSession_397 (Nat.le_of_ble_eq_true rfl) (c_X3_nearest_y hq (nm_in hr) hc hl) ?_
            refine sw_iload_8 X dL_isSession_400 ?_
            refine sw_icmp_ne X 409 dL_isSession_402 (by decide) (fun h402 => ?_) (fun h402 => ?_)
            ·
              exact absurd hx.symm h402
            ·
              refine sw_iconst X (nI 1) dL_isSession_405 (by decide) ?_
              refine sw_goto X 410 dL_isSession_406 (by decide) ?_
              refine sw_istore_6 X dL_isSession_410 trivial ?_
              first | refine sw_inc1_7 X dL_isSession_412 trivial ?_ | refine sw_iinc_7 X _ dL_isSession_412 rfl trivial ?_
              refine sw_goto X 341 dL_isSession_415 (by decide) ?_
              refine sw_drop_8 ?_
              refine sw_drop_9 ?_
              exact ih (r + 1) (by omega) (by omega)
          ·
            have hp : p < (c - 1) := by have := mt (nI_leI (by omega) (by omega)).mpr h363; omega
            refine sw_aload_0 X dL_isSession_366 ?_
            refine sw_iload_1 X dL_isSession_367 ?_
            refine sw_iload_9 X dL_isSession_368 ?_
            refine ca_L_30 X (by decide) dL_isSession_370 (Nat.le_of_ble_eq_true rfl) (c_X3_nameOf_y hq hc hl hp) ?_
            refine sw_iload_7 X dL_isSession_373 ?_
            refine sw_icmp_ne X 383 dL_isSession_375 (by decide) (fun h375 => ?_) (fun h375 => ?_)
            ·
              refine sw_iload_8 X dL_isSession_383 ?_
              refine sw_istore_8 X dL_isSession_385 trivial ?_
              first | refine sw_inc1_9 X dL_isSession_387 trivial ?_ | refine sw_iinc_9 X _ dL_isSession_387 rfl trivial ?_
              refine sw_goto X 360 dL_isSession_390 (by decide) ?_
              exact ih2 (p + 1) (by omega) (by omega) _ (by rw [nr_step]; first | rw [if_neg h375, hx] | rw [if_pos h375])
            ·
              refine sw_iload_9 X dL_isSession_378 ?_
              refine sw_goto X 385 dL_isSession_380 (by decide) ?_
              refine sw_istore_8 X dL_isSession_385 trivial ?_
              first | refine sw_inc1_9 X dL_isSession_387 trivial ?_ | refine sw_iinc_9 X _ dL_isSession_387 rfl trivial ?_
              refine sw_goto X 360 dL_isSession_390 (by decide) ?_
              exact ih2 (p + 1) (by omega) (by omega) _ (by rw [nr_step]; first | rw [if_neg h375, hx] | rw [if_pos h375])
        exact L360 0 (by omega) _ rfl
  have L179 : ∀ i0, i0 ≤ (c - 1) → (fun p => sw_W G K 11 179 [some (.ref (sv_ad G 0 8 0)), some (.int (nI q)), some (.int (nI (c - 1))), none, none, none, some (.int (nI 1)), some (.int (nI p)), none, none, none] [] M) i0 := by
    refine up_ind (N := (c - 1)) (P := fun p => sw_W G K 11 179 [some (.ref (sv_ad G 0 8 0)), some (.int (nI q)), some (.int (nI (c - 1))), none, none, none, some (.int (nI 1)), some (.int (nI p)), none, none, none] [] M) ?_
    intro p hp3x ih
    show sw_W _ _ _ _ _ _ _
    refine sw_iload_7 X dL_isSession_179 ?_
    refine sw_iload_2 X dL_isSession_181 ?_
    refine sw_icmp_ge X 338 dL_isSession_182 (by decide) (fun h182 => ?_) (fun h182 => ?_)
    ·
      have e182 : p = (c - 1) := by have := (nI_leI (by omega) (by omega)).mp h182; omega
      subst e182
      refine sw_iconst X (nI 0) dL_isSession_338 (by decide) ?_
      refine sw_istore_7 X dL_isSession_339 trivial ?_
      exact L341 0 (by omega)
    ·
      have hp : p < (c - 1) := by have := mt (nI_leI (by omega) (by omega)).mpr h182; omega
      obtain ⟨a8, ha8, hn8⟩ := hN p hp
      have H259 : sw_W G K 11 259 [some (.ref (sv_ad G 0 8 0)), some (.int (nI q)), some (.int (nI (c - 1))), none, none, none, some (.int (nI 1)), some (.int (nI p)), some (.int (chS (M 0) q c (p + 1))), some (.int (lkS (M 0) q (p + 1))), none] [] M := by
        refine sw_aload_0 X dL_isSession_259 ?_
        refine sw_iload_1 X dL_isSession_260 ?_
        refine sw_aload_0 X dL_isSession_261 ?_
        refine sw_iload_1 X dL_isSession_262 ?_
        refine sw_iload_7 X dL_isSession_263 ?_
        refine ca_L_30 X (by decide) dL_isSession_265 (Nat.le_of_ble_eq_true rfl) (c_X3_nameOf_y hq hc hl hp) ?_
        refine ca_L_33 X (by decide) dL_isSession_268 (Nat.le_of_ble_eq_true rfl) (c_X3_nearest_y hq (by rw [hn8]; exact nm_in ha8) hc hl) ?_
        obtain ⟨rr, hr1, hr2, hr3⟩ := nr_ge (f := M 0 16 q) (nm := M 0 16 q p) (c - 1) hp rfl
        refine sw_tope hr3 ?_
        refine sw_iload_7 X dL_isSession_271 ?_
        refine sw_icmp_lt X 280 dL_isSession_273 (by decide) (fun h273 => ?_) (fun h273 => ?_)
        ·
          exact absurd ((nI_ltI (by omega) (by omega)).mp h273) (by omega)
        ·
          refine sw_iconst X (nI 1) dL_isSession_276 (by decide) ?_
          refine sw_goto X 281 dL_isSession_277 (by decide) ?_
          refine sw_istore_6 X dL_isSession_281 trivial ?_
          refine sw_iconst X (nI 0) dL_isSession_283 (by decide) ?_
          refine sw_istore_10 X dL_isSession_284 trivial ?_
          have L286 : ∀ i0, i0 ≤ 16 → (fun k => sw_W G K 11 286 [some (.ref (sv_ad G 0 8 0)), some (.int (nI q)), some (.int (nI (c - 1))), none, none, none, some (.int (nI 1)), some (.int (nI p)), some (.int (chS (M 0) q c (p + 1))), some (.int (lkS (M 0) q (p + 1))), some (.int (nI k))] [] M) i0 := by
            refine up_ind (N := 16) (P := fun k => sw_W G K 11 286 [some (.ref (sv_ad G 0 8 0)), some (.int (nI q)), some (.int (nI (c - 1))), none, none, none, some (.int (nI 1)), some (.int (nI p)), some (.int (chS (M 0) q c (p + 1))), some (.int (lkS (M 0) q (p + 1))), some (.int (nI k))] [] M) ?_
            intro k hk3x ih3
            show sw_W _ _ _ _ _ _ _
            refine sw_iload_10 X dL_isSession_286 ?_
            refine sw_bipush X (nI 16) dL_isSession_288 (by decide) ?_
            refine sw_icmp_ge X 332 dL_isSession_290 (by decide) (fun h290 => ?_) (fun h290 => ?_)
            ·
              have e290 : k = 16 := by have := (nI_leI (by omega) (by omega)).mp h290; omega
              subst e290
              first | refine sw_inc1_7 X dL_isSession_332 trivial ?_ | refine sw_iinc_7 X _ dL_isSession_332 rfl trivial ?_
              refine sw_goto X 179 dL_isSession_335 (by decide) ?_
              refine sw_drop_8 ?_
              refine sw_drop_9 ?_
              refine sw_drop_10 ?_
              exact ih (p + 1) (by omega) (by omega)
            ·
              have hk : k < 16 := by have := mt (nI_leI (by omega) (by omega)).mpr h290; omega
              refine sw_iload_6 X dL_isSession_293 ?_
              refine sw_if_eq X 332 dL_isSession_295 (by decide) (fun h295 => ?_) (fun h295 => ?_)
              ·
                exact absurd h295 (by decide)
              ·
                refine sw_iload_8 X dL_isSession_298 ?_
                refine sw_iload_10 X dL_isSession_300 ?_
                refine sw_ishr X dL_isSession_302 ?_
                refine sw_iconst X (nI 1) dL_isSession_303 (by decide) ?_
                refine sw_iand X dL_isSession_304 ?_
                refine sw_if_eq X 319 dL_isSession_305 (by decide) (fun h305 => ?_) (fun h305 => ?_)
                ·
                  refine sw_iconst X (nI 1) dL_isSession_319 (by decide) ?_
                  refine sw_goto X 324 dL_isSession_320 (by decide) ?_
                  refine sw_istore_6 X dL_isSession_324 trivial ?_
                  first | refine sw_inc1_10 X dL_isSession_326 trivial ?_ | refine sw_iinc_10 X _ dL_isSession_326 rfl trivial ?_
                  refine sw_goto X 286 dL_isSession_329 (by decide) ?_
                  exact ih3 (k + 1) (by omega) (by omega)
                ·
                  refine sw_aload_0 X dL_isSession_308 ?_
                  refine sw_iload_1 X dL_isSession_309 ?_
                  refine sw_iload_10 X dL_isSession_310 ?_
                  refine ca_L_19 X (by decide) dL_isSession_312 (Nat.le_of_ble_eq_true rfl) (c_X3_mode_y hq hk) ?_
                  refine sw_iconst X (nI 2) dL_isSession_315 (by decide) ?_
                  refine sw_icmp_ne X 323 dL_isSession_316 (by decide) (fun h316 => ?_) (fun h316 => ?_)
                  ·
                    exact absurd ((md_iff hk (by omega)).mpr (chS_two hs (by omega) hk (bt_yes (by omega) h305))) h316
                  ·
                    refine sw_iconst X (nI 1) dL_isSession_319 (by decide) ?_
                    refine sw_goto X 324 dL_isSession_320 (by decide) ?_
                    refine sw_istore_6 X dL_isSession_324 trivial ?_
                    first | refine sw_inc1_10 X dL_isSession_326 trivial ?_ | refine sw_iinc_10 X _ dL_isSession_326 rfl trivial ?_
                    refine sw_goto X 286 dL_isSession_329 (by decide) ?_
                    exact ih3 (k + 1) (by omega) (by omega)
          exact L286 0 (by omega)
      refine sw_iload_6 X dL_isSession_185 ?_
      refine sw_if_eq X 338 dL_isSession_187 (by decide) (fun h187 => ?_) (fun h187 => ?_)
      ·
        exact absurd h187 (by decide)
      ·
        refine sw_aload_0 X dL_isSession_190 ?_
        refine sw_iload_1 X dL_isSession_191 ?_
        refine sw_iload_7 X dL_isSession_192 ?_
        refine sw_iconst X (nI 0) dL_isSession_194 (by decide) ?_
        refine ca_L_26 X (by decide) dL_isSession_195 (Nat.le_of_ble_eq_true rfl) (cs_v hq hc hl hp) ?_
        refine sw_istore_8 X dL_isSession_198 trivial ?_
        refine sw_aload_0 X dL_isSession_200 ?_
        refine sw_iload_1 X dL_isSession_201 ?_
        refine sw_iload_7 X dL_isSession_202 ?_
        refine sw_iconst X (nI 1) dL_isSession_204 (by decide) ?_
        refine ca_L_26 X (by decide) dL_isSession_205 (Nat.le_of_ble_eq_true rfl) (cs_l hq hc hl hp) ?_
        refine sw_istore_9 X dL_isSession_208 trivial ?_
        refine sw_iload_8 X dL_isSession_210 ?_
        refine sw_if_lt X 280 dL_isSession_212 (by decide) (fun h212 => ?_) (fun h212 => ?_)
        ·
          exact absurd h212 (chS_pos hs _)
        ·
          refine sw_iload_7 X dL_isSession_215 ?_
          refine sw_iconst X (nI 1) dL_isSession_217 (by decide) ?_
          refine sw_iadd X dL_isSession_218 ?_
          try refine sw_tope (nI_add _ _) ?_
          refine sw_iload_2 X dL_isSession_219 ?_
          refine sw_icmp_eq X 259 dL_isSession_220 (by decide) (fun h220 => ?_) (fun h220 => ?_)
          ·
            exact H259
          ·
            have hp1 : p + 1 < c - 1 := by
              have : p + 1 ≠ c - 1 := fun z => h220 (by rw [z])
              omega
            refine sw_aload_0 X dL_isSession_223 ?_
            refine sw_iload_1 X dL_isSession_224 ?_
            refine sw_iload_7 X dL_isSession_225 ?_
            refine sw_iconst X (nI 1) dL_isSession_227 (by decide) ?_
            refine sw_iadd X dL_isSession_228 ?_
            try refine sw_tope (nI_add _ _) ?_
            refine sw_iconst X (nI 0) dL_isSession_229 (by decide) ?_
            refine ca_L_26 X (by decide) dL_isSession_230 (Nat.le_of_ble_eq_true rfl) (cs_v hq hc hl hp1) ?_
            refine sw_iload_8 X dL_isSession_233 ?_
            refine sw_iconst X (-1) dL_isSession_235 (by decide) ?_
            refine sw_ixor X dL_isSession_236 ?_
            refine sw_iand X dL_isSession_237 ?_
            refine sw_if_ne X 280 dL_isSession_238 (by decide) (fun h238 => ?_) (fun h238 => ?_)
            ·
              exact absurd (andn (fun i hi hb => chS_sub (by omega) (by omega) hb)) h238
            ·
              refine sw_aload_0 X dL_isSession_241 ?_
              refine sw_iload_1 X dL_isSession_242 ?_
              refine sw_iload_7 X dL_isSession_243 ?_
              refine sw_iconst X (nI 1) dL_isSession_245 (by decide) ?_
              refine sw_iadd X dL_isSession_246 ?_
              try refine sw_tope (nI_add _ _) ?_
              refine sw_iconst X (nI 1) dL_isSession_247 (by decide) ?_
              refine ca_L_26 X (by decide) dL_isSession_248 (Nat.le_of_ble_eq_true rfl) (cs_l hq hc hl hp1) ?_
              refine sw_iload_9 X dL_isSession_251 ?_
              refine sw_iconst X (-1) dL_isSession_253 (by decide) ?_
              refine sw_ixor X dL_isSession_254 ?_
              refine sw_iand X dL_isSession_255 ?_
              refine sw_if_ne X 280 dL_isSession_256 (by decide) (fun h256 => ?_) (fun h256 => ?_)
              ·
                exact absurd (andn (fun i hi hb => lkS_sub hs (by omega) hi hb)) h256
              ·
                exact H259
  have L67 : ∀ i0, i0 ≤ 16 → (fun r => ∀ x y : Nat, x = cnt (fun k => md (M 0 14 q 1) k = nI 1) r → y = cnt (fun k => md (M 0 14 q 1) k = nI 2) r → sw_W G K 11 67 [some (.ref (sv_ad G 0 8 0)), some (.int (nI q)), some (.int (nI (c - 1))), some (.int (nI x)), some (.int (nI y)), some (.int (bI (c ≠ 0))), some (.int (nI 1)), some (.int (nI r)), none, none, none] [] M) i0 := by
    refine up_ind (N := 16) (P := fun r => ∀ x y : Nat, x = cnt (fun k => md (M 0 14 q 1) k = nI 1) r → y = cnt (fun k => md (M 0 14 q 1) k = nI 2) r → sw_W G K 11 67 [some (.ref (sv_ad G 0 8 0)), some (.int (nI q)), some (.int (nI (c - 1))), some (.int (nI x)), some (.int (nI y)), some (.int (bI (c ≠ 0))), some (.int (nI 1)), some (.int (nI r)), none, none, none] [] M) ?_
    intro r hr3x ih x y hx hy
    show sw_W _ _ _ _ _ _ _
    refine sw_iload_7 X dL_isSession_67 ?_
    refine sw_bipush X (nI 16) dL_isSession_69 (by decide) ?_
    refine sw_icmp_ge X 120 dL_isSession_71 (by decide) (fun h71 => ?_) (fun h71 => ?_)
    ·
      have e71 : r = 16 := by have := (nI_leI (by omega) (by omega)).mp h71; omega
      subst e71
      have H158 : sw_W G K 11 158 [some (.ref (sv_ad G 0 8 0)), some (.int (nI q)), some (.int (nI (c - 1))), some (.int (nI x)), some (.int (nI y)), some (.int (bI (c ≠ 0))), some (.int (nI 1)), some (.int (nI 16)), none, none, none] [] M := by
        refine sw_aload_0 X dL_isSession_158 ?_
        refine sw_iload_1 X dL_isSession_159 ?_
        refine sw_iconst X (nI 2) dL_isSession_160 (by decide) ?_
        refine ca_L_23 X (by decide) dL_isSession_161 (Nat.le_of_ble_eq_true rfl) (c_X3_session_2 hq hc hl hkn hkl) ?_
        refine sw_iload_4 X dL_isSession_164 ?_
        refine sw_icmp_gt X 173 dL_isSession_166 (by decide) (fun h166 => ?_) (fun h166 => ?_)
        ·
          exact absurd ((nI_ltI (by omega) (by omega)).mp h166) (by omega)
        ·
          refine sw_iconst X (nI 1) dL_isSession_169 (by decide) ?_
          refine sw_goto X 174 dL_isSession_170 (by decide) ?_
          refine sw_istore_6 X dL_isSession_174 trivial ?_
          refine sw_iconst X (nI 0) dL_isSession_176 (by decide) ?_
          refine sw_istore_7 X dL_isSession_177 trivial ?_
          refine sw_drop_3 ?_
          refine sw_drop_4 ?_
          refine sw_drop_5 ?_
          exact L179 0 (by omega)
      refine sw_iload_6 X dL_isSession_120 ?_
      refine sw_if_eq X 173 dL_isSession_122 (by decide) (fun h122 => ?_) (fun h122 => ?_)
      ·
        exact absurd h122 (by decide)
      ·
        refine sw_aload_0 X dL_isSession_125 ?_
        refine sw_iload_1 X dL_isSession_126 ?_
        refine sw_iconst X (nI 3) dL_isSession_127 (by decide) ?_
        refine ca_L_23 X (by decide) dL_isSession_128 (Nat.le_of_ble_eq_true rfl) (c_X3_session_3 hq hc hl) ?_
        refine sw_iload_3 X dL_isSession_131 ?_
        refine sw_icmp_ne X 173 dL_isSession_132 (by decide) (fun h132 => ?_) (fun h132 => ?_)
        ·
          exact absurd (by rw [hx]) h132
        ·
          refine sw_aload_0 X dL_isSession_135 ?_
          refine sw_iload_1 X dL_isSession_136 ?_
          refine sw_iconst X (nI 4) dL_isSession_137 (by decide) ?_
          refine ca_L_23 X (by decide) dL_isSession_138 (Nat.le_of_ble_eq_true rfl) (c_X3_session_4 hq hc hl) ?_
          refine sw_iload_4 X dL_isSession_141 ?_
          refine sw_icmp_ne X 173 dL_isSession_143 (by decide) (fun h143 => ?_) (fun h143 => ?_)
          ·
            exact absurd (by rw [hy]) h143
          ·
            refine sw_iload_5 X dL_isSession_146 ?_
            refine sw_if_ne X 158 dL_isSession_148 (by decide) (fun h148 => ?_) (fun h148 => ?_)
            ·
              exact H158
            ·
              have hz : c = 0 := Decidable.not_not.mp (bI_eq0.mp h148)
              refine sw_iload_3 X dL_isSession_151 ?_
              refine sw_iload_4 X dL_isSession_152 ?_
              refine sw_iadd X dL_isSession_154 ?_
              try refine sw_tope (nI_add _ _) ?_
              refine sw_if_ne X 173 dL_isSession_155 (by decide) (fun h155 => ?_) (fun h155 => ?_)
              ·
                exact absurd (show nI (x + y) = 0 by rw [hx, hy, cnt_md0 (hs.2.1 hz) (by decide) (by decide), cnt_md0 (hs.2.1 hz) (by decide) (by decide)]; rfl) h155
              ·
                exact H158
    ·
      have hr : r < 16 := by have := mt (nI_leI (by omega) (by omega)).mpr h71; omega
      refine sw_iload_3 X dL_isSession_74 ?_
      refine sw_aload_0 X dL_isSession_75 ?_
      refine sw_iload_1 X dL_isSession_76 ?_
      refine sw_iload_7 X dL_isSession_77 ?_
      refine ca_L_19 X (by decide) dL_isSession_79 (Nat.le_of_ble_eq_true rfl) (c_X3_mode_y hq hr) ?_
      refine sw_iconst X (nI 1) dL_isSession_82 (by decide) ?_
      refine sw_icmp_ne X 90 dL_isSession_83 (by decide) (fun h83 => ?_) (fun h83 => ?_)
      ·
        refine sw_iconst X (nI 0) dL_isSession_90 (by decide) ?_
        refine sw_iadd X dL_isSession_91 ?_
        try refine sw_tope (nI_add _ _) ?_
        refine sw_istore_3 X dL_isSession_92 trivial ?_
        refine sw_iload_4 X dL_isSession_93 ?_
        refine sw_aload_0 X dL_isSession_95 ?_
        refine sw_iload_1 X dL_isSession_96 ?_
        refine sw_iload_7 X dL_isSession_97 ?_
        refine ca_L_19 X (by decide) dL_isSession_99 (Nat.le_of_ble_eq_true rfl) (c_X3_mode_y hq hr) ?_
        refine sw_iconst X (nI 2) dL_isSession_102 (by decide) ?_
        refine sw_icmp_ne X 110 dL_isSession_103 (by decide) (fun h103 => ?_) (fun h103 => ?_)
        ·
          refine sw_iconst X (nI 0) dL_isSession_110 (by decide) ?_
          refine sw_iadd X dL_isSession_111 ?_
          try refine sw_tope (nI_add _ _) ?_
          refine sw_istore_4 X dL_isSession_112 trivial ?_
          first | refine sw_inc1_7 X dL_isSession_114 trivial ?_ | refine sw_iinc_7 X _ dL_isSession_114 rfl trivial ?_
          refine sw_goto X 67 dL_isSession_117 (by decide) ?_
          exact ih (r + 1) (by omega) (by omega) _ _ (by first | exact (congrArg (· + 1) hx).trans (cnt_t h83).symm | exact hx.trans (cnt_f h83).symm) (by first | exact (congrArg (· + 1) hy).trans (cnt_t h103).symm | exact hy.trans (cnt_f h103).symm)
        ·
          refine sw_iconst X (nI 1) dL_isSession_106 (by decide) ?_
          refine sw_goto X 111 dL_isSession_107 (by decide) ?_
          refine sw_iadd X dL_isSession_111 ?_
          try refine sw_tope (nI_add _ _) ?_
          refine sw_istore_4 X dL_isSession_112 trivial ?_
          first | refine sw_inc1_7 X dL_isSession_114 trivial ?_ | refine sw_iinc_7 X _ dL_isSession_114 rfl trivial ?_
          refine sw_goto X 67 dL_isSession_117 (by decide) ?_
          exact ih (r + 1) (by omega) (by omega) _ _ (by first | exact (congrArg (· + 1) hx).trans (cnt_t h83).symm | exact hx.trans (cnt_f h83).symm) (by first | exact (congrArg (· + 1) hy).trans (cnt_t h103).symm | exact hy.trans (cnt_f h103).symm)
      ·
        refine sw_iconst X (nI 1) dL_isSession_86 (by decide) ?_
        refine sw_goto X 91 dL_isSession_87 (by decide) ?_
        refine sw_iadd X dL_isSession_91 ?_
        try refine sw_tope (nI_add _ _) ?_
        refine sw_istore_3 X dL_isSession_92 trivial ?_
        refine sw_iload_4 X dL_isSession_93 ?_
        refine sw_aload_0 X dL_isSession_95 ?_
        refine sw_iload_1 X dL_isSession_96 ?_
        refine sw_iload_7 X dL_isSession_97 ?_
        refine ca_L_19 X (by decide) dL_isSession_99 (Nat.le_of_ble_eq_true rfl) (c_X3_mode_y hq hr) ?_
        refine sw_iconst X (nI 2) dL_isSession_102 (by decide) ?_
        refine sw_icmp_ne X 110 dL_isSession_103 (by decide) (fun h103 => ?_) (fun h103 => ?_)
        ·
          refine sw_iconst X (nI 0) dL_isSession_110 (by decide) ?_
          refine sw_iadd X dL_isSession_111 ?_
          try refine sw_tope (nI_add _ _) ?_
          refine sw_istore_4 X dL_isSession_112 trivial ?_
          first | refine sw_inc1_7 X dL_isSession_114 trivial ?_ | refine sw_iinc_7 X _ dL_isSession_114 rfl trivial ?_
          refine sw_goto X 67 dL_isSession_117 (by decide) ?_
          exact ih (r + 1) (by omega) (by omega) _ _ (by first | exact (congrArg (· + 1) hx).trans (cnt_t h83).symm | exact hx.trans (cnt_f h83).symm) (by first | exact (congrArg (· + 1) hy).trans (cnt_t h103).symm | exact hy.trans (cnt_f h103).symm)
        ·
          refine sw_iconst X (nI 1) dL_isSession_106 (by decide) ?_
          refine sw_goto X 111 dL_isSession_107 (by decide) ?_
          refine sw_iadd X dL_isSession_111 ?_
          try refine sw_tope (nI_add _ _) ?_
          refine sw_istore_4 X dL_isSession_112 trivial ?_
          first | refine sw_inc1_7 X dL_isSession_114 trivial ?_ | refine sw_iinc_7 X _ dL_isSession_114 rfl trivial ?_
          refine sw_goto X 67 dL_isSession_117 (by decide) ?_
          exact ih (r + 1) (by omega) (by omega) _ _ (by first | exact (congrArg (· + 1) hx).trans (cnt_t h83).symm | exact hx.trans (cnt_f h83).symm) (by first | exact (congrArg (· + 1) hy).trans (cnt_t h103).symm | exact hy.trans (cnt_f h103).symm)
  have H57 : sw_W G K 11 57 [some (.ref (sv_ad G 0 8 0)), some (.int (nI q)), some (.int (nI (c - 1))), some (.int (nI 0)), some (.int (nI 0)), some (.int (bI (c ≠ 0))), none, none, none, none, none] [] M := by
    refine sw_iconst X (nI 1) dL_isSession_57 (by decide) ?_
    refine sw_goto X 62 dL_isSession_58 (by decide) ?_
    refine sw_istore_6 X dL_isSession_62 trivial ?_
    refine sw_iconst X (nI 0) dL_isSession_64 (by decide) ?_
    refine sw_istore_7 X dL_isSession_65 trivial ?_
    exact L67 0 (by omega) 0 0 rfl rfl
  have H29 : sw_W G K 11 29 [some (.ref (sv_ad G 0 8 0)), some (.int (nI q)), some (.int (nI (c - 1))), some (.int (nI 0)), some (.int (nI 0)), some (.int (bI (c ≠ 0))), none, none, none, none, none] [] M := by
    refine sw_iload_2 X dL_isSession_29 ?_
    refine sw_if_lt X 61 dL_isSession_30 (by decide) (fun h30 => ?_) (fun h30 => ?_)
    ·
      exact absurd h30 (nI_pos (by omega))
    ·
      refine sw_iload_2 X dL_isSession_33 ?_
      refine sw_bipush X (nI 12) dL_isSession_34 (by decide) ?_
      refine sw_icmp_gt X 61 dL_isSession_36 (by decide) (fun h36 => ?_) (fun h36 => ?_)
      ·
        exact absurd ((nI_ltI (by omega) (by omega)).mp h36) (by omega)
      ·
        refine sw_iload_5 X dL_isSession_39 ?_
        refine sw_if_ne X 57 dL_isSession_41 (by decide) (fun h41 => ?_) (fun h41 => ?_)
        ·
          exact H57
        ·
          have hz : c = 0 := Decidable.not_not.mp (bI_eq0.mp h41)
          refine sw_iload_2 X dL_isSession_44 ?_
          refine sw_if_ne X 61 dL_isSession_45 (by decide) (fun h45 => ?_) (fun h45 => ?_)
          ·
            exact absurd (show nI (c - 1) = 0 by rw [hz]; rfl) h45
          ·
            refine sw_aload_0 X dL_isSession_48 ?_
            refine sw_iload_1 X dL_isSession_49 ?_
            refine sw_iconst X (nI 2) dL_isSession_50 (by decide) ?_
            refine ca_L_23 X (by decide) dL_isSession_51 (Nat.le_of_ble_eq_true rfl) (c_X3_session_2 hq hc hl hkn hkl) ?_
            refine sw_if_ne X 61 dL_isSession_54 (by decide) (fun h54 => ?_) (fun h54 => ?_)
            ·
              exact absurd (show nI (pcn (nI kn)) = 0 by rw [hk0 hz]; rfl) h54
            ·
              exact H57
  refine sw_aload_0 X dL_isSession_0 ?_
  refine sw_iload_1 X dL_isSession_1 ?_
  refine sw_iconst X (nI 1) dL_isSession_2 (by decide) ?_
  refine ca_L_23 X (by decide) dL_isSession_3 (Nat.le_of_ble_eq_true rfl) (c_X3_session_1 hq hc hl) ?_
  refine sw_istore_2 X dL_isSession_6 trivial ?_
  refine sw_iconst X (nI 0) dL_isSession_7 (by decide) ?_
  refine sw_istore_3 X dL_isSession_8 trivial ?_
  refine sw_iconst X (nI 0) dL_isSession_9 (by decide) ?_
  refine sw_istore_4 X dL_isSession_10 trivial ?_
  refine sw_aload_0 X dL_isSession_12 ?_
  refine sw_iload_1 X dL_isSession_13 ?_
  refine sw_iconst X (nI 0) dL_isSession_14 (by decide) ?_
  refine ca_L_23 X (by decide) dL_isSession_15 (Nat.le_of_ble_eq_true rfl) (c_X3_session_0 hq hc hl) ?_
  refine sw_iconst X (nI 1) dL_isSession_18 (by decide) ?_
  refine sw_icmp_ne X 26 dL_isSession_19 (by decide) (fun h19 => ?_) (fun h19 => ?_)
  ·
    refine sw_iconst X (nI 0) dL_isSession_26 (by decide) ?_
    refine sw_tope (v2 := bI (c ≠ 0)) (by first | exact (bI_f (fun z => h19 (bI_t z))).symm | exact h19.symm) ?_
    refine sw_istore_5 X dL_isSession_27 trivial ?_
    exact H29
  ·
    refine sw_iconst X (nI 1) dL_isSession_22 (by decide) ?_
    refine sw_goto X 27 dL_isSession_23 (by decide) ?_
    refine sw_tope (v2 := bI (c ≠ 0)) (by first | exact (bI_f (fun z => h19 (bI_t z))).symm | exact h19.symm) ?_
    refine sw_istore_5 X dL_isSession_27 trivial ?_
    exact H29
