def lw_lo (G : sv_G) (b i : Nat) : List (Option Value) := [some (.ref b), some (.ref (sv_ad G 0 8 0)), some (.ref (sv_ad G 4 9 0)), some (.int (nI i)), none, none, none, none]
set_option maxHeartbeats 16000000 in
set_option maxRecDepth 100000 in
theorem law_loop {G : sv_G} {K : sv_K} (X : sv_X G K cL_law RL 8 7) {b L : Nat} {xs : Nat → Int32} (hL : L ≤ 2560) (hX : va_X b L xs (ks K) (kH K)) (hbl : b < (kH K).size) (hbA : ¬ kA K b) (hend : ∀ lo M, sw_W G K 8 1064 lo [] M) : ∀ m i, i ≤ L → L - i ≤ m → ∀ M, INV M → sw_W G K 8 18 (lw_lo G b i) [] M := by
  intro m
  induction m with
  | zero =>
      intro i hi hLi M I
      refine sw_iload_3 X dL_law_18 ?_
      refine sw_aload_0 X dL_law_19 ?_
      refine sw_slen X hX hbl hbA dL_law_20 ?_
      refine sw_iconst X (nI 5) dL_law_21 (by decide) ?_
      refine sw_isub X dL_law_22 ?_
      refine sw_icmp_gt X 1064 dL_law_23 (by decide) (fun _ => hend _ _) (fun hm => ?_)
      have hi5 := lw_more hL (by omega) hm
      exfalso
      omega
  | succ m ih =>
      intro i hi hLi M I
      refine sw_iload_3 X dL_law_18 ?_
      refine sw_aload_0 X dL_law_19 ?_
      refine sw_slen X hX hbl hbA dL_law_20 ?_
      refine sw_iconst X (nI 5) dL_law_21 (by decide) ?_
      refine sw_isub X dL_law_22 ?_
      refine sw_icmp_gt X 1064 dL_law_23 (by decide) (fun _ => hend _ _) (fun hm => ?_)
      have hi5 := lw_more hL (by omega) hm
      have tl : ∀ M2, INV M2 → sw_W G K 8 1058 (lw_lo G b i) [] M2 := by
        intro M2 I2
        refine sw_iinc_3 X (nI (i + 5)) dL_law_1058 (by rw [show Int32.ofInt 5 = nI 5 by decide]; exact nI_add _ _) trivial ?_
        refine sw_goto X 18 dL_law_1061 (by decide) ?_
        exact ih (i + 5) (by omega) (by omega) M2 I2
      refine sw_aload_0 X dL_law_26 ?_
      refine sw_iload_3 X dL_law_27 ?_
      refine sw_sld X hX hbl hbA (i := i) rfl (by omega) (by omega) dL_law_28 ?_
      refine sw_bipush X (nI 31) dL_law_29 (by decide) ?_
      refine sw_iand X dL_law_31 ?_
      refine sw_name (fun z _ => ?_)
      refine sw_case (v := nI 0) (fun h => ?_) (fun h_0 => ?_)
      ·
        refine sw_tabInV X 168 dL_law_32 (q := 0) h (by decide) (by decide) ?_
        obtain ⟨r, M1, M2, c1, c2, I2⟩ := act_keep (G := G) I (¬ xs (i + 1) = 0)
        refine sw_aload_1 X dL_law_168 ?_
        refine sw_aload_0 X dL_law_169 ?_
        refine sw_iload_3 X dL_law_170 ?_
        refine sw_iconst X (nI 1) dL_law_171 (by decide) ?_
        refine sw_iadd X dL_law_172 ?_
        refine sw_tope (nI_add _ _) ?_
        refine sw_sld X hX hbl hbA (i := i + 1) rfl (by omega) (by omega) dL_law_173 ?_
        refine sw_flag X dL_law_174 dL_law_177 dL_law_178 dL_law_181 ?_
        refine ca_L_13 X (by decide) dL_law_182 (Nat.le_of_ble_eq_true rfl) c1 ?_
        refine sw_aload_2 X dL_law_185 ?_
        refine sw_aload_0 X dL_law_186 ?_
        refine sw_iload_3 X dL_law_187 ?_
        refine sw_iconst X (nI 1) dL_law_188 (by decide) ?_
        refine sw_iadd X dL_law_189 ?_
        refine sw_tope (nI_add _ _) ?_
        refine sw_sld X hX hbl hbA (i := i + 1) rfl (by omega) (by omega) dL_law_190 ?_
        refine sw_flag X dL_law_191 dL_law_194 dL_law_195 dL_law_198 ?_
        refine ca_L_17 X (by decide) dL_law_199 (Nat.le_of_ble_eq_true rfl) c2 ?_
        refine sw_icmp_eq X 1058 dL_law_202 (by decide) (fun _ => ?_) (fun q => absurd rfl q)
        exact tl M2 I2
      refine sw_case (v := nI 1) (fun h => ?_) (fun h_1 => ?_)
      ·
        refine sw_tabInV X 207 dL_law_32 (q := 1) h (by decide) (by decide) ?_
        obtain ⟨r, M1, M2, c1, c2, I2⟩ := act_begin (G := G) I (xs (i + 1))
        refine sw_aload_1 X dL_law_207 ?_
        refine sw_aload_0 X dL_law_208 ?_
        refine sw_iload_3 X dL_law_209 ?_
        refine sw_iconst X (nI 1) dL_law_210 (by decide) ?_
        refine sw_iadd X dL_law_211 ?_
        refine sw_tope (nI_add _ _) ?_
        refine sw_sld X hX hbl hbA (i := i + 1) rfl (by omega) (by omega) dL_law_212 ?_
        refine ca_L_18 X (by decide) dL_law_213 (Nat.le_of_ble_eq_true rfl) c1 ?_
        refine sw_aload_2 X dL_law_216 ?_
        refine sw_aload_0 X dL_law_217 ?_
        refine sw_iload_3 X dL_law_218 ?_
        refine sw_iconst X (nI 1) dL_law_219 (by decide) ?_
        refine sw_iadd X dL_law_220 ?_
        refine sw_tope (nI_add _ _) ?_
        refine sw_sld X hX hbl hbA (i := i + 1) rfl (by omega) (by omega) dL_law_221 ?_
        refine ca_L_22 X (by decide) dL_law_222 (Nat.le_of_ble_eq_true rfl) c2 ?_
        refine sw_icmp_eq X 1058 dL_law_225 (by decide) (fun _ => ?_) (fun q => absurd rfl q)
        exact tl M2 I2
      refine sw_case (v := nI 2) (fun h => ?_) (fun h_2 => ?_)
      ·
        refine sw_tabInV X 230 dL_law_32 (q := 2) h (by decide) (by decide) ?_
        obtain ⟨r, M1, M2, c1, c2, I2⟩ := act_commit (G := G) I (xs (i + 1))
        refine sw_aload_1 X dL_law_230 ?_
        refine sw_aload_0 X dL_law_231 ?_
        refine sw_iload_3 X dL_law_232 ?_
        refine sw_iconst X (nI 1) dL_law_233 (by decide) ?_
        refine sw_iadd X dL_law_234 ?_
        refine sw_tope (nI_add _ _) ?_
        refine sw_sld X hX hbl hbA (i := i + 1) rfl (by omega) (by omega) dL_law_235 ?_
        refine ca_L_23 X (by decide) dL_law_236 (Nat.le_of_ble_eq_true rfl) c1 ?_
        refine sw_aload_2 X dL_law_239 ?_
        refine sw_aload_0 X dL_law_240 ?_
        refine sw_iload_3 X dL_law_241 ?_
        refine sw_iconst X (nI 1) dL_law_242 (by decide) ?_
        refine sw_iadd X dL_law_243 ?_
        refine sw_tope (nI_add _ _) ?_
        refine sw_sld X hX hbl hbA (i := i + 1) rfl (by omega) (by omega) dL_law_244 ?_
        refine ca_L_26 X (by decide) dL_law_245 (Nat.le_of_ble_eq_true rfl) c2 ?_
        refine sw_icmp_eq X 1058 dL_law_248 (by decide) (fun _ => ?_) (fun q => absurd rfl q)
        exact tl M2 I2
      refine sw_case (v := nI 3) (fun h => ?_) (fun h_3 => ?_)
      ·
        refine sw_tabInV X 253 dL_law_32 (q := 3) h (by decide) (by decide) ?_
        obtain ⟨r, M1, M2, c1, c2, I2⟩ := act_rollback (G := G) I (xs (i + 1))
        refine sw_aload_1 X dL_law_253 ?_
        refine sw_aload_0 X dL_law_254 ?_
        refine sw_iload_3 X dL_law_255 ?_
        refine sw_iconst X (nI 1) dL_law_256 (by decide) ?_
        refine sw_iadd X dL_law_257 ?_
        refine sw_tope (nI_add _ _) ?_
        refine sw_sld X hX hbl hbA (i := i + 1) rfl (by omega) (by omega) dL_law_258 ?_
        refine ca_L_27 X (by decide) dL_law_259 (Nat.le_of_ble_eq_true rfl) c1 ?_
        refine sw_aload_2 X dL_law_262 ?_
        refine sw_aload_0 X dL_law_263 ?_
        refine sw_iload_3 X dL_law_264 ?_
        refine sw_iconst X (nI 1) dL_law_265 (by decide) ?_
        refine sw_iadd X dL_law_266 ?_
        refine sw_tope (nI_add _ _) ?_
        refine sw_sld X hX hbl hbA (i := i + 1) rfl (by omega) (by omega) dL_law_267 ?_
        refine ca_L_30 X (by decide) dL_law_268 (Nat.le_of_ble_eq_true rfl) c2 ?_
        refine sw_icmp_eq X 1058 dL_law_271 (by decide) (fun _ => ?_) (fun q => absurd rfl q)
        exact tl M2 I2
      refine sw_case (v := nI 4) (fun h => ?_) (fun h_4 => ?_)
      ·
        refine sw_tabInV X 276 dL_law_32 (q := 4) h (by decide) (by decide) ?_
        obtain ⟨r, M1, M2, c1, c2, I2⟩ := act_savepoint (G := G) I (xs (i + 1)) (xs (i + 2))
        refine sw_aload_1 X dL_law_276 ?_
        refine sw_aload_0 X dL_law_277 ?_
        refine sw_iload_3 X dL_law_278 ?_
        refine sw_iconst X (nI 1) dL_law_279 (by decide) ?_
        refine sw_iadd X dL_law_280 ?_
        refine sw_tope (nI_add _ _) ?_
        refine sw_sld X hX hbl hbA (i := i + 1) rfl (by omega) (by omega) dL_law_281 ?_
        refine sw_aload_0 X dL_law_282 ?_
        refine sw_iload_3 X dL_law_283 ?_
        refine sw_iconst X (nI 2) dL_law_284 (by decide) ?_
        refine sw_iadd X dL_law_285 ?_
        refine sw_tope (nI_add _ _) ?_
        refine sw_sld X hX hbl hbA (i := i + 2) rfl (by omega) (by omega) dL_law_286 ?_
        refine ca_L_31 X (by decide) dL_law_287 (Nat.le_of_ble_eq_true rfl) c1 ?_
        refine sw_aload_2 X dL_law_290 ?_
        refine sw_aload_0 X dL_law_291 ?_
        refine sw_iload_3 X dL_law_292 ?_
        refine sw_iconst X (nI 1) dL_law_293 (by decide) ?_
        refine sw_iadd X dL_law_294 ?_
        refine sw_tope (nI_add _ _) ?_
        refine sw_sld X hX hbl hbA (i := i + 1) rfl (by omega) (by omega) dL_law_295 ?_
        refine sw_aload_0 X dL_law_296 ?_
        refine sw_iload_3 X dL_law_297 ?_
        refine sw_iconst X (nI 2) dL_law_298 (by decide) ?_
        refine sw_iadd X dL_law_299 ?_
        refine sw_tope (nI_add _ _) ?_
        refine sw_sld X hX hbl hbA (i := i + 2) rfl (by omega) (by omega) dL_law_300 ?_
        refine ca_L_35 X (by decide) dL_law_301 (Nat.le_of_ble_eq_true rfl) c2 ?_
        refine sw_icmp_eq X 1058 dL_law_304 (by decide) (fun _ => ?_) (fun q => absurd rfl q)
        exact tl M2 I2
      refine sw_case (v := nI 5) (fun h => ?_) (fun h_5 => ?_)
      ·
        refine sw_tabInV X 309 dL_law_32 (q := 5) h (by decide) (by decide) ?_
        obtain ⟨r, M1, M2, c1, c2, I2⟩ := act_undoTo (G := G) I (xs (i + 1)) (xs (i + 2))
        refine sw_aload_1 X dL_law_309 ?_
        refine sw_aload_0 X dL_law_310 ?_
        refine sw_iload_3 X dL_law_311 ?_
        refine sw_iconst X (nI 1) dL_law_312 (by decide) ?_
        refine sw_iadd X dL_law_313 ?_
        refine sw_tope (nI_add _ _) ?_
        refine sw_sld X hX hbl hbA (i := i + 1) rfl (by omega) (by omega) dL_law_314 ?_
        refine sw_aload_0 X dL_law_315 ?_
        refine sw_iload_3 X dL_law_316 ?_
        refine sw_iconst X (nI 2) dL_law_317 (by decide) ?_
        refine sw_iadd X dL_law_318 ?_
        refine sw_tope (nI_add _ _) ?_
        refine sw_sld X hX hbl hbA (i := i + 2) rfl (by omega) (by omega) dL_law_319 ?_
        refine ca_L_36 X (by decide) dL_law_320 (Nat.le_of_ble_eq_true rfl) c1 ?_
        refine sw_aload_2 X dL_law_323 ?_
        refine sw_aload_0 X dL_law_324 ?_
        refine sw_iload_3 X dL_law_325 ?_
        refine sw_iconst X (nI 1) dL_law_326 (by decide) ?_
        refine sw_iadd X dL_law_327 ?_
        refine sw_tope (nI_add _ _) ?_
        refine sw_sld X hX hbl hbA (i := i + 1) rfl (by omega) (by omega) dL_law_328 ?_
        refine sw_aload_0 X dL_law_329 ?_
        refine sw_iload_3 X dL_law_330 ?_
        refine sw_iconst X (nI 2) dL_law_331 (by decide) ?_
        refine sw_iadd X dL_law_332 ?_
        refine sw_tope (nI_add _ _) ?_
        refine sw_sld X hX hbl hbA (i := i + 2) rfl (by omega) (by omega) dL_law_333 ?_
        refine ca_L_39 X (by decide) dL_law_334 (Nat.le_of_ble_eq_true rfl) c2 ?_
        refine sw_icmp_eq X 1058 dL_law_337 (by decide) (fun _ => ?_) (fun q => absurd rfl q)
        exact tl M2 I2
      refine sw_case (v := nI 6) (fun h => ?_) (fun h_6 => ?_)
      ·
        refine sw_tabInV X 342 dL_law_32 (q := 6) h (by decide) (by decide) ?_
        obtain ⟨r, M1, M2, c1, c2, I2⟩ := act_release (G := G) I (xs (i + 1)) (xs (i + 2))
        refine sw_aload_1 X dL_law_342 ?_
        refine sw_aload_0 X dL_law_343 ?_
        refine sw_iload_3 X dL_law_344 ?_
        refine sw_iconst X (nI 1) dL_law_345 (by decide) ?_
        refine sw_iadd X dL_law_346 ?_
        refine sw_tope (nI_add _ _) ?_
        refine sw_sld X hX hbl hbA (i := i + 1) rfl (by omega) (by omega) dL_law_347 ?_
        refine sw_aload_0 X dL_law_348 ?_
        refine sw_iload_3 X dL_law_349 ?_
        refine sw_iconst X (nI 2) dL_law_350 (by decide) ?_
        refine sw_iadd X dL_law_351 ?_
        refine sw_tope (nI_add _ _) ?_
        refine sw_sld X hX hbl hbA (i := i + 2) rfl (by omega) (by omega) dL_law_352 ?_
        refine ca_L_40 X (by decide) dL_law_353 (Nat.le_of_ble_eq_true rfl) c1 ?_
        refine sw_aload_2 X dL_law_356 ?_
        refine sw_aload_0 X dL_law_357 ?_
        refine sw_iload_3 X dL_law_358 ?_
        refine sw_iconst X (nI 1) dL_law_359 (by decide) ?_
        refine sw_iadd X dL_law_360 ?_
        refine sw_tope (nI_add _ _) ?_
        refine sw_sld X hX hbl hbA (i := i + 1) rfl (by omega) (by omega) dL_law_361 ?_
        refine sw_aload_0 X dL_law_362 ?_
        refine sw_iload_3 X dL_law_363 ?_
        refine sw_iconst X (nI 2) dL_law_364 (by decide) ?_
        refine sw_iadd X dL_law_365 ?_
        refine sw_tope (nI_add _ _) ?_
        refine sw_sld X hX hbl hbA (i := i + 2) rfl (by omega) (by omega) dL_law_366 ?_
        refine ca_L_43 X (by decide) dL_law_367 (Nat.le_of_ble_eq_true rfl) c2 ?_
        refine sw_icmp_eq X 1058 dL_law_370 (by decide) (fun _ => ?_) (fun q => absurd rfl q)
        exact tl M2 I2
      refine sw_case (v := nI 7) (fun h => ?_) (fun h_7 => ?_)
      ·
        refine sw_tabInV X 375 dL_law_32 (q := 7) h (by decide) (by decide) ?_
        obtain ⟨r, M1, M2, c1, c2, I2⟩ := act_read (G := G) I (xs (i + 1)) (xs (i + 2))
        refine sw_aload_1 X dL_law_375 ?_
        refine sw_aload_0 X dL_law_376 ?_
        refine sw_iload_3 X dL_law_377 ?_
        refine sw_iconst X (nI 1) dL_law_378 (by decide) ?_
        refine sw_iadd X dL_law_379 ?_
        refine sw_tope (nI_add _ _) ?_
        refine sw_sld X hX hbl hbA (i := i + 1) rfl (by omega) (by omega) dL_law_380 ?_
        refine sw_aload_0 X dL_law_381 ?_
        refine sw_iload_3 X dL_law_382 ?_
        refine sw_iconst X (nI 2) dL_law_383 (by decide) ?_
        refine sw_iadd X dL_law_384 ?_
        refine sw_tope (nI_add _ _) ?_
        refine sw_sld X hX hbl hbA (i := i + 2) rfl (by omega) (by omega) dL_law_385 ?_
        refine ca_L_44 X (by decide) dL_law_386 (Nat.le_of_ble_eq_true rfl) c1 ?_
        refine sw_aload_2 X dL_law_389 ?_
        refine sw_aload_0 X dL_law_390 ?_
        refine sw_iload_3 X dL_law_391 ?_
        refine sw_iconst X (nI 1) dL_law_392 (by decide) ?_
        refine sw_iadd X dL_law_393 ?_
        refine sw_tope (nI_add _ _) ?_
        refine sw_sld X hX hbl hbA (i := i + 1) rfl (by omega) (by omega) dL_law_394 ?_
        refine sw_aload_0 X dL_law_395 ?_
        refine sw_iload_3 X dL_law_396 ?_
        refine sw_iconst X (nI 2) dL_law_397 (by decide) ?_
        refine sw_iadd X dL_law_398 ?_
        refine sw_tope (nI_add _ _) ?_
        refine sw_sld X hX hbl hbA (i := i + 2) rfl (by omega) (by omega) dL_law_399 ?_
        refine ca_L_47 X (by decide) dL_law_400 (Nat.le_of_ble_eq_true rfl) c2 ?_
        refine sw_icmp_eq X 1058 dL_law_403 (by decide) (fun _ => ?_) (fun q => absurd rfl q)
        exact tl M2 I2
      refine sw_case (v := nI 8) (fun h => ?_) (fun h_8 => ?_)
      ·
        refine sw_tabInV X 408 dL_law_32 (q := 8) h (by decide) (by decide) ?_
        obtain ⟨r, M1, M2, c1, c2, I2⟩ := act_write (G := G) I (xs (i + 1)) (xs (i + 2)) (xs (i + 3))
        refine sw_aload_1 X dL_law_408 ?_
        refine sw_aload_0 X dL_law_409 ?_
        refine sw_iload_3 X dL_law_410 ?_
        refine sw_iconst X (nI 1) dL_law_411 (by decide) ?_
        refine sw_iadd X dL_law_412 ?_
        refine sw_tope (nI_add _ _) ?_
        refine sw_sld X hX hbl hbA (i := i + 1) rfl (by omega) (by omega) dL_law_413 ?_
        refine sw_aload_0 X dL_law_414 ?_
        refine sw_iload_3 X dL_law_415 ?_
        refine sw_iconst X (nI 2) dL_law_416 (by decide) ?_
        refine sw_iadd X dL_law_417 ?_
        refine sw_tope (nI_add _ _) ?_
        refine sw_sld X hX hbl hbA (i := i + 2) rfl (by omega) (by omega) dL_law_418 ?_
        refine sw_aload_0 X dL_law_419 ?_
        refine sw_iload_3 X dL_law_420 ?_
        refine sw_iconst X (nI 3) dL_law_421 (by decide) ?_
        refine sw_iadd X dL_law_422 ?_
        refine sw_tope (nI_add _ _) ?_
        refine sw_sld X hX hbl hbA (i := i + 3) rfl (by omega) (by omega) dL_law_423 ?_
        refine ca_L_48 X (by decide) dL_law_424 (Nat.le_of_ble_eq_true rfl) c1 ?_
        refine sw_aload_2 X dL_law_427 ?_
        refine sw_aload_0 X dL_law_428 ?_
        refine sw_iload_3 X dL_law_429 ?_
        refine sw_iconst X (nI 1) dL_law_430 (by decide) ?_
        refine sw_iadd X dL_law_431 ?_
        refine sw_tope (nI_add _ _) ?_
        refine sw_sld X hX hbl hbA (i := i + 1) rfl (by omega) (by omega) dL_law_432 ?_
        refine sw_aload_0 X dL_law_433 ?_
        refine sw_iload_3 X dL_law_434 ?_
        refine sw_iconst X (nI 2) dL_law_435 (by decide) ?_
        refine sw_iadd X dL_law_436 ?_
        refine sw_tope (nI_add _ _) ?_
        refine sw_sld X hX hbl hbA (i := i + 2) rfl (by omega) (by omega) dL_law_437 ?_
        refine sw_aload_0 X dL_law_438 ?_
        refine sw_iload_3 X dL_law_439 ?_
        refine sw_iconst X (nI 3) dL_law_440 (by decide) ?_
        refine sw_iadd X dL_law_441 ?_
        refine sw_tope (nI_add _ _) ?_
        refine sw_sld X hX hbl hbA (i := i + 3) rfl (by omega) (by omega) dL_law_442 ?_
        refine ca_L_52 X (by decide) dL_law_443 (Nat.le_of_ble_eq_true rfl) c2 ?_
        refine sw_icmp_eq X 1058 dL_law_446 (by decide) (fun _ => ?_) (fun q => absurd rfl q)
        exact tl M2 I2
      refine sw_case (v := nI 9) (fun h => ?_) (fun h_9 => ?_)
      ·
        refine sw_tabInV X 451 dL_law_32 (q := 9) h (by decide) (by decide) ?_
        obtain ⟨r, M1, M2, c1, c2, I2⟩ := act_erase (G := G) I (xs (i + 1)) (xs (i + 2))
        refine sw_aload_1 X dL_law_451 ?_
        refine sw_aload_0 X dL_law_452 ?_
        refine sw_iload_3 X dL_law_453 ?_
        refine sw_iconst X (nI 1) dL_law_454 (by decide) ?_
        refine sw_iadd X dL_law_455 ?_
        refine sw_tope (nI_add _ _) ?_
        refine sw_sld X hX hbl hbA (i := i + 1) rfl (by omega) (by omega) dL_law_456 ?_
        refine sw_aload_0 X dL_law_457 ?_
        refine sw_iload_3 X dL_law_458 ?_
        refine sw_iconst X (nI 2) dL_law_459 (by decide) ?_
        refine sw_iadd X dL_law_460 ?_
        refine sw_tope (nI_add _ _) ?_
        refine sw_sld X hX hbl hbA (i := i + 2) rfl (by omega) (by omega) dL_law_461 ?_
        refine ca_L_53 X (by decide) dL_law_462 (Nat.le_of_ble_eq_true rfl) c1 ?_
        refine sw_aload_2 X dL_law_465 ?_
        refine sw_aload_0 X dL_law_466 ?_
        refine sw_iload_3 X dL_law_467 ?_
        refine sw_iconst X (nI 1) dL_law_468 (by decide) ?_
        refine sw_iadd X dL_law_469 ?_
        refine sw_tope (nI_add _ _) ?_
        refine sw_sld X hX hbl hbA (i := i + 1) rfl (by omega) (by omega) dL_law_470 ?_
        refine sw_aload_0 X dL_law_471 ?_
        refine sw_iload_3 X dL_law_472 ?_
        refine sw_iconst X (nI 2) dL_law_473 (by decide) ?_
        refine sw_iadd X dL_law_474 ?_
        refine sw_tope (nI_add _ _) ?_
        refine sw_sld X hX hbl hbA (i := i + 2) rfl (by omega) (by omega) dL_law_475 ?_
        refine ca_L_56 X (by decide) dL_law_476 (Nat.le_of_ble_eq_true rfl) c2 ?_
        refine sw_icmp_eq X 1058 dL_law_479 (by decide) (fun _ => ?_) (fun q => absurd rfl q)
        exact tl M2 I2
      refine sw_case (v := nI 10) (fun h => ?_) (fun h_10 => ?_)
      ·
        refine sw_tabInV X 484 dL_law_32 (q := 10) h (by decide) (by decide) ?_
        obtain ⟨r, M1, M2, c1, c2, I2⟩ := act_shift (G := G) I (xs (i + 1)) (xs (i + 2)) (xs (i + 3))
        refine sw_aload_1 X dL_law_484 ?_
        refine sw_aload_0 X dL_law_485 ?_
        refine sw_iload_3 X dL_law_486 ?_
        refine sw_iconst X (nI 1) dL_law_487 (by decide) ?_
        refine sw_iadd X dL_law_488 ?_
        refine sw_tope (nI_add _ _) ?_
        refine sw_sld X hX hbl hbA (i := i + 1) rfl (by omega) (by omega) dL_law_489 ?_
        refine sw_aload_0 X dL_law_490 ?_
        refine sw_iload_3 X dL_law_491 ?_
        refine sw_iconst X (nI 2) dL_law_492 (by decide) ?_
        refine sw_iadd X dL_law_493 ?_
        refine sw_tope (nI_add _ _) ?_
        refine sw_sld X hX hbl hbA (i := i + 2) rfl (by omega) (by omega) dL_law_494 ?_
        refine sw_aload_0 X dL_law_495 ?_
        refine sw_iload_3 X dL_law_496 ?_
        refine sw_iconst X (nI 3) dL_law_497 (by decide) ?_
        refine sw_iadd X dL_law_498 ?_
        refine sw_tope (nI_add _ _) ?_
        refine sw_sld X hX hbl hbA (i := i + 3) rfl (by omega) (by omega) dL_law_499 ?_
        refine ca_L_57 X (by decide) dL_law_500 (Nat.le_of_ble_eq_true rfl) c1 ?_
        refine sw_aload_2 X dL_law_503 ?_
        refine sw_aload_0 X dL_law_504 ?_
        refine sw_iload_3 X dL_law_505 ?_
        refine sw_iconst X (nI 1) dL_law_506 (by decide) ?_
        refine sw_iadd X dL_law_507 ?_
        refine sw_tope (nI_add _ _) ?_
        refine sw_sld X hX hbl hbA (i := i + 1) rfl (by omega) (by omega) dL_law_508 ?_
        refine sw_aload_0 X dL_law_509 ?_
        refine sw_iload_3 X dL_law_510 ?_
        refine sw_iconst X (nI 2) dL_law_511 (by decide) ?_
        refine sw_iadd X dL_law_512 ?_
        refine sw_tope (nI_add _ _) ?_
        refine sw_sld X hX hbl hbA (i := i + 2) rfl (by omega) (by omega) dL_law_513 ?_
        refine sw_aload_0 X dL_law_514 ?_
        refine sw_iload_3 X dL_law_515 ?_
        refine sw_iconst X (nI 3) dL_law_516 (by decide) ?_
        refine sw_iadd X dL_law_517 ?_
        refine sw_tope (nI_add _ _) ?_
        refine sw_sld X hX hbl hbA (i := i + 3) rfl (by omega) (by omega) dL_law_518 ?_
        refine ca_L_60 X (by decide) dL_law_519 (Nat.le_of_ble_eq_true rfl) c2 ?_
        refine sw_icmp_eq X 1058 dL_law_522 (by decide) (fun _ => ?_) (fun q => absurd rfl q)
        exact tl M2 I2
      refine sw_case (v := nI 11) (fun h => ?_) (fun h_11 => ?_)
      ·
        refine sw_tabInV X 527 dL_law_32 (q := 11) h (by decide) (by decide) ?_
        obtain ⟨r, M1, M2, c1, c2, I2⟩ := act_move (G := G) I (xs (i + 1)) (xs (i + 2)) (xs (i + 3)) (xs (i + 4))
        refine sw_aload_1 X dL_law_527 ?_
        refine sw_aload_0 X dL_law_528 ?_
        refine sw_iload_3 X dL_law_529 ?_
        refine sw_iconst X (nI 1) dL_law_530 (by decide) ?_
        refine sw_iadd X dL_law_531 ?_
        refine sw_tope (nI_add _ _) ?_
        refine sw_sld X hX hbl hbA (i := i + 1) rfl (by omega) (by omega) dL_law_532 ?_
        refine sw_aload_0 X dL_law_533 ?_
        refine sw_iload_3 X dL_law_534 ?_
        refine sw_iconst X (nI 2) dL_law_535 (by decide) ?_
        refine sw_iadd X dL_law_536 ?_
        refine sw_tope (nI_add _ _) ?_
        refine sw_sld X hX hbl hbA (i := i + 2) rfl (by omega) (by omega) dL_law_537 ?_
        refine sw_aload_0 X dL_law_538 ?_
        refine sw_iload_3 X dL_law_539 ?_
        refine sw_iconst X (nI 3) dL_law_540 (by decide) ?_
        refine sw_iadd X dL_law_541 ?_
        refine sw_tope (nI_add _ _) ?_
        refine sw_sld X hX hbl hbA (i := i + 3) rfl (by omega) (by omega) dL_law_542 ?_
        refine sw_aload_0 X dL_law_543 ?_
        refine sw_iload_3 X dL_law_544 ?_
        refine sw_iconst X (nI 4) dL_law_545 (by decide) ?_
        refine sw_iadd X dL_law_546 ?_
        refine sw_tope (nI_add _ _) ?_
        refine sw_sld X hX hbl hbA (i := i + 4) rfl (by omega) (by omega) dL_law_547 ?_
        refine ca_L_61 X (by decide) dL_law_548 (Nat.le_of_ble_eq_true rfl) c1 ?_
        refine sw_aload_2 X dL_law_551 ?_
        refine sw_aload_0 X dL_law_552 ?_
        refine sw_iload_3 X dL_law_553 ?_
        refine sw_iconst X (nI 1) dL_law_554 (by decide) ?_
        refine sw_iadd X dL_law_555 ?_
        refine sw_tope (nI_add _ _) ?_
        refine sw_sld X hX hbl hbA (i := i + 1) rfl (by omega) (by omega) dL_law_556 ?_
        refine sw_aload_0 X dL_law_557 ?_
        refine sw_iload_3 X dL_law_558 ?_
        refine sw_iconst X (nI 2) dL_law_559 (by decide) ?_
        refine sw_iadd X dL_law_560 ?_
        refine sw_tope (nI_add _ _) ?_
        refine sw_sld X hX hbl hbA (i := i + 2) rfl (by omega) (by omega) dL_law_561 ?_
        refine sw_aload_0 X dL_law_562 ?_
        refine sw_iload_3 X dL_law_563 ?_
        refine sw_iconst X (nI 3) dL_law_564 (by decide) ?_
        refine sw_iadd X dL_law_565 ?_
        refine sw_tope (nI_add _ _) ?_
        refine sw_sld X hX hbl hbA (i := i + 3) rfl (by omega) (by omega) dL_law_566 ?_
        refine sw_aload_0 X dL_law_567 ?_
        refine sw_iload_3 X dL_law_568 ?_
        refine sw_iconst X (nI 4) dL_law_569 (by decide) ?_
        refine sw_iadd X dL_law_570 ?_
        refine sw_tope (nI_add _ _) ?_
        refine sw_sld X hX hbl hbA (i := i + 4) rfl (by omega) (by omega) dL_law_571 ?_
        refine ca_L_65 X (by decide) dL_law_572 (Nat.le_of_ble_eq_true rfl) c2 ?_
        refine sw_icmp_eq X 1058 dL_law_575 (by decide) (fun _ => ?_) (fun q => absurd rfl q)
        exact tl M2 I2
      refine sw_case (v := nI 12) (fun h => ?_) (fun h_12 => ?_)
      ·
        refine sw_tabInV X 580 dL_law_32 (q := 12) h (by decide) (by decide) ?_
        obtain ⟨r, M1, M2, c1, c2, I2⟩ := act_append (G := G) I (xs (i + 1))
        refine sw_aload_1 X dL_law_580 ?_
        refine sw_aload_0 X dL_law_581 ?_
        refine sw_iload_3 X dL_law_582 ?_
        refine sw_iconst X (nI 1) dL_law_583 (by decide) ?_
        refine sw_iadd X dL_law_584 ?_
        refine sw_tope (nI_add _ _) ?_
        refine sw_sld X hX hbl hbA (i := i + 1) rfl (by omega) (by omega) dL_law_585 ?_
        refine ca_L_66 X (by decide) dL_law_586 (Nat.le_of_ble_eq_true rfl) c1 ?_
        refine sw_aload_2 X dL_law_589 ?_
        refine sw_aload_0 X dL_law_590 ?_
        refine sw_iload_3 X dL_law_591 ?_
        refine sw_iconst X (nI 1) dL_law_592 (by decide) ?_
        refine sw_iadd X dL_law_593 ?_
        refine sw_tope (nI_add _ _) ?_
        refine sw_sld X hX hbl hbA (i := i + 1) rfl (by omega) (by omega) dL_law_594 ?_
        refine ca_L_69 X (by decide) dL_law_595 (Nat.le_of_ble_eq_true rfl) c2 ?_
        refine sw_icmp_eq X 1058 dL_law_598 (by decide) (fun _ => ?_) (fun q => absurd rfl q)
        exact tl M2 I2
      refine sw_case (v := nI 13) (fun h => ?_) (fun h_13 => ?_)
      ·
        refine sw_tabInV X 603 dL_law_32 (q := 13) h (by decide) (by decide) ?_
        obtain ⟨r, M1, M2, c1, c2, I2⟩ := act_clearText (G := G) I 
        refine sw_aload_1 X dL_law_603 ?_
        refine ca_L_70 X (by decide) dL_law_604 (Nat.le_of_ble_eq_true rfl) c1 ?_
        refine sw_aload_2 X dL_law_607 ?_
        refine ca_L_74 X (by decide) dL_law_608 (Nat.le_of_ble_eq_true rfl) c2 ?_
        refine sw_icmp_eq X 1058 dL_law_611 (by decide) (fun _ => ?_) (fun q => absurd rfl q)
        exact tl M2 I2
      refine sw_case (v := nI 14) (fun h => ?_) (fun h_14 => ?_)
      ·
        refine sw_tabInV X 616 dL_law_32 (q := 14) h (by decide) (by decide) ?_
        obtain ⟨r, M1, M2, c1, c2, I2⟩ := act_fault (G := G) I 
        refine sw_aload_1 X dL_law_616 ?_
        refine ca_L_75 X (by decide) dL_law_617 (Nat.le_of_ble_eq_true rfl) c1 ?_
        refine sw_aload_2 X dL_law_620 ?_
        refine ca_L_78 X (by decide) dL_law_621 (Nat.le_of_ble_eq_true rfl) c2 ?_
        refine sw_icmp_eq X 1058 dL_law_624 (by decide) (fun _ => ?_) (fun q => absurd rfl q)
        exact tl M2 I2
      refine sw_case (v := nI 15) (fun h => ?_) (fun h_15 => ?_)
      ·
        refine sw_tabInV X 629 dL_law_32 (q := 15) h (by decide) (by decide) ?_
        obtain ⟨r, M1, M2, c1, c2, I2⟩ := act_perform (G := G) I 
        refine sw_aload_1 X dL_law_629 ?_
        refine ca_L_79 X (by decide) dL_law_630 (Nat.le_of_ble_eq_true rfl) c1 ?_
        refine sw_aload_2 X dL_law_633 ?_
        refine ca_L_82 X (by decide) dL_law_634 (Nat.le_of_ble_eq_true rfl) c2 ?_
        refine sw_icmp_eq X 1058 dL_law_637 (by decide) (fun _ => ?_) (fun q => absurd rfl q)
        exact tl M2 I2
      refine sw_case (v := nI 16) (fun h => ?_) (fun h_16 => ?_)
      ·
        refine sw_tabInV X 642 dL_law_32 (q := 16) h (by decide) (by decide) ?_
        obtain ⟨r, M1, M2, c1, c2, I2⟩ := act_undo (G := G) I 
        refine sw_aload_1 X dL_law_642 ?_
        refine ca_L_83 X (by decide) dL_law_643 (Nat.le_of_ble_eq_true rfl) c1 ?_
        refine sw_aload_2 X dL_law_646 ?_
        refine ca_L_86 X (by decide) dL_law_647 (Nat.le_of_ble_eq_true rfl) c2 ?_
        refine sw_icmp_eq X 1058 dL_law_650 (by decide) (fun _ => ?_) (fun q => absurd rfl q)
        exact tl M2 I2
      refine sw_case (v := nI 17) (fun h => ?_) (fun h_17 => ?_)
      ·
        refine sw_tabInV X 655 dL_law_32 (q := 17) h (by decide) (by decide) ?_
        obtain ⟨r, M1, M2, c1, c2, I2⟩ := act_save (G := G) I 
        refine sw_aload_1 X dL_law_655 ?_
        refine ca_L_87 X (by decide) dL_law_656 (Nat.le_of_ble_eq_true rfl) c1 ?_
        refine sw_aload_2 X dL_law_659 ?_
        refine ca_L_90 X (by decide) dL_law_660 (Nat.le_of_ble_eq_true rfl) c2 ?_
        refine sw_icmp_eq X 1058 dL_law_663 (by decide) (fun _ => ?_) (fun q => absurd rfl q)
        exact tl M2 I2
      refine sw_case (v := nI 18) (fun h => ?_) (fun h_18 => ?_)
      ·
        refine sw_tabInV X 668 dL_law_32 (q := 18) h (by decide) (by decide) ?_
        obtain ⟨r, M1, M2, c1, c2, I2⟩ := act_restore (G := G) I 
        refine sw_aload_1 X dL_law_668 ?_
        refine ca_L_91 X (by decide) dL_law_669 (Nat.le_of_ble_eq_true rfl) c1 ?_
        refine sw_aload_2 X dL_law_672 ?_
        refine ca_L_94 X (by decide) dL_law_673 (Nat.le_of_ble_eq_true rfl) c2 ?_
        refine sw_icmp_eq X 1058 dL_law_676 (by decide) (fun _ => ?_) (fun q => absurd rfl q)
        exact tl M2 I2
      refine sw_case (v := nI 19) (fun h => ?_) (fun h_19 => ?_)
      ·
        refine sw_tabInV X 681 dL_law_32 (q := 19) h (by decide) (by decide) ?_
        obtain ⟨r, M1, M2, c1, c2, I2⟩ := act_value (G := G) I (xs (i + 1))
        refine sw_aload_1 X dL_law_681 ?_
        refine sw_aload_0 X dL_law_682 ?_
        refine sw_iload_3 X dL_law_683 ?_
        refine sw_iconst X (nI 1) dL_law_684 (by decide) ?_
        refine sw_iadd X dL_law_685 ?_
        refine sw_tope (nI_add _ _) ?_
        refine sw_sld X hX hbl hbA (i := i + 1) rfl (by omega) (by omega) dL_law_686 ?_
        refine ca_L_95 X (by decide) dL_law_687 (Nat.le_of_ble_eq_true rfl) c1 ?_
        refine sw_aload_2 X dL_law_690 ?_
        refine sw_aload_0 X dL_law_691 ?_
        refine sw_iload_3 X dL_law_692 ?_
        refine sw_iconst X (nI 1) dL_law_693 (by decide) ?_
        refine sw_iadd X dL_law_694 ?_
        refine sw_tope (nI_add _ _) ?_
        refine sw_sld X hX hbl hbA (i := i + 1) rfl (by omega) (by omega) dL_law_695 ?_
        refine ca_L_98 X (by decide) dL_law_696 (Nat.le_of_ble_eq_true rfl) c2 ?_
        refine sw_icmp_eq X 1058 dL_law_699 (by decide) (fun _ => ?_) (fun q => absurd rfl q)
        exact tl M2 I2
      refine sw_case (v := nI 20) (fun h => ?_) (fun h_20 => ?_)
      ·
        refine sw_tabInV X 704 dL_law_32 (q := 20) h (by decide) (by decide) ?_
        obtain ⟨r, M1, M2, c1, c2, I2⟩ := act_committed (G := G) I (xs (i + 1))
        refine sw_aload_1 X dL_law_704 ?_
        refine sw_aload_0 X dL_law_705 ?_
        refine sw_iload_3 X dL_law_706 ?_
        refine sw_iconst X (nI 1) dL_law_707 (by decide) ?_
        refine sw_iadd X dL_law_708 ?_
        refine sw_tope (nI_add _ _) ?_
        refine sw_sld X hX hbl hbA (i := i + 1) rfl (by omega) (by omega) dL_law_709 ?_
        refine ca_L_99 X (by decide) dL_law_710 (Nat.le_of_ble_eq_true rfl) c1 ?_
        refine sw_aload_2 X dL_law_713 ?_
        refine sw_aload_0 X dL_law_714 ?_
        refine sw_iload_3 X dL_law_715 ?_
        refine sw_iconst X (nI 1) dL_law_716 (by decide) ?_
        refine sw_iadd X dL_law_717 ?_
        refine sw_tope (nI_add _ _) ?_
        refine sw_sld X hX hbl hbA (i := i + 1) rfl (by omega) (by omega) dL_law_718 ?_
        refine ca_L_102 X (by decide) dL_law_719 (Nat.le_of_ble_eq_true rfl) c2 ?_
        refine sw_icmp_eq X 1058 dL_law_722 (by decide) (fun _ => ?_) (fun q => absurd rfl q)
        exact tl M2 I2
      refine sw_case (v := nI 21) (fun h => ?_) (fun h_21 => ?_)
      ·
        refine sw_tabInV X 727 dL_law_32 (q := 21) h (by decide) (by decide) ?_
        obtain ⟨r, M1, M2, c1, c2, I2⟩ := act_mode (G := G) I (xs (i + 1)) (xs (i + 2))
        refine sw_aload_1 X dL_law_727 ?_
        refine sw_aload_0 X dL_law_728 ?_
        refine sw_iload_3 X dL_law_729 ?_
        refine sw_iconst X (nI 1) dL_law_730 (by decide) ?_
        refine sw_iadd X dL_law_731 ?_
        refine sw_tope (nI_add _ _) ?_
        refine sw_sld X hX hbl hbA (i := i + 1) rfl (by omega) (by omega) dL_law_732 ?_
        refine sw_aload_0 X dL_law_733 ?_
        refine sw_iload_3 X dL_law_734 ?_
        refine sw_iconst X (nI 2) dL_law_735 (by decide) ?_
        refine sw_iadd X dL_law_736 ?_
        refine sw_tope (nI_add _ _) ?_
        refine sw_sld X hX hbl hbA (i := i + 2) rfl (by omega) (by omega) dL_law_737 ?_
        refine ca_L_103 X (by decide) dL_law_738 (Nat.le_of_ble_eq_true rfl) c1 ?_
        refine sw_aload_2 X dL_law_741 ?_
        refine sw_aload_0 X dL_law_742 ?_
        refine sw_iload_3 X dL_law_743 ?_
        refine sw_iconst X (nI 1) dL_law_744 (by decide) ?_
        refine sw_iadd X dL_law_745 ?_
        refine sw_tope (nI_add _ _) ?_
        refine sw_sld X hX hbl hbA (i := i + 1) rfl (by omega) (by omega) dL_law_746 ?_
        refine sw_aload_0 X dL_law_747 ?_
        refine sw_iload_3 X dL_law_748 ?_
        refine sw_iconst X (nI 2) dL_law_749 (by decide) ?_
        refine sw_iadd X dL_law_750 ?_
        refine sw_tope (nI_add _ _) ?_
        refine sw_sld X hX hbl hbA (i := i + 2) rfl (by omega) (by omega) dL_law_751 ?_
        refine ca_L_106 X (by decide) dL_law_752 (Nat.le_of_ble_eq_true rfl) c2 ?_
        refine sw_icmp_eq X 1058 dL_law_755 (by decide) (fun _ => ?_) (fun q => absurd rfl q)
        exact tl M2 I2
      refine sw_case (v := nI 22) (fun h => ?_) (fun h_22 => ?_)
      ·
        refine sw_tabInV X 760 dL_law_32 (q := 22) h (by decide) (by decide) ?_
        obtain ⟨r, M1, M2, c1, c2, I2⟩ := act_busyFor (G := G) I (xs (i + 1)) (xs (i + 2))
        refine sw_aload_1 X dL_law_760 ?_
        refine sw_aload_0 X dL_law_761 ?_
        refine sw_iload_3 X dL_law_762 ?_
        refine sw_iconst X (nI 1) dL_law_763 (by decide) ?_
        refine sw_iadd X dL_law_764 ?_
        refine sw_tope (nI_add _ _) ?_
        refine sw_sld X hX hbl hbA (i := i + 1) rfl (by omega) (by omega) dL_law_765 ?_
        refine sw_aload_0 X dL_law_766 ?_
        refine sw_iload_3 X dL_law_767 ?_
        refine sw_iconst X (nI 2) dL_law_768 (by decide) ?_
        refine sw_iadd X dL_law_769 ?_
        refine sw_tope (nI_add _ _) ?_
        refine sw_sld X hX hbl hbA (i := i + 2) rfl (by omega) (by omega) dL_law_770 ?_
        refine ca_L_107 X (by decide) dL_law_771 (Nat.le_of_ble_eq_true rfl) c1 ?_
        refine sw_aload_2 X dL_law_774 ?_
        refine sw_aload_0 X dL_law_775 ?_
        refine sw_iload_3 X dL_law_776 ?_
        refine sw_iconst X (nI 1) dL_law_777 (by decide) ?_
        refine sw_iadd X dL_law_778 ?_
        refine sw_tope (nI_add _ _) ?_
        refine sw_sld X hX hbl hbA (i := i + 1) rfl (by omega) (by omega) dL_law_779 ?_
        refine sw_aload_0 X dL_law_780 ?_
        refine sw_iload_3 X dL_law_781 ?_
        refine sw_iconst X (nI 2) dL_law_782 (by decide) ?_
        refine sw_iadd X dL_law_783 ?_
        refine sw_tope (nI_add _ _) ?_
        refine sw_sld X hX hbl hbA (i := i + 2) rfl (by omega) (by omega) dL_law_784 ?_
        refine ca_L_110 X (by decide) dL_law_785 (Nat.le_of_ble_eq_true rfl) c2 ?_
        refine sw_icmp_eq X 1058 dL_law_788 (by decide) (fun _ => ?_) (fun q => absurd rfl q)
        exact tl M2 I2
      refine sw_case (v := nI 23) (fun h => ?_) (fun h_23 => ?_)
      ·
        refine sw_tabInV X 793 dL_law_32 (q := 23) h (by decide) (by decide) ?_
        obtain ⟨r, M1, M2, c1, c2, I2⟩ := act_session (G := G) I (xs (i + 1)) (xs (i + 2))
        refine sw_aload_1 X dL_law_793 ?_
        refine sw_aload_0 X dL_law_794 ?_
        refine sw_iload_3 X dL_law_795 ?_
        refine sw_iconst X (nI 1) dL_law_796 (by decide) ?_
        refine sw_iadd X dL_law_797 ?_
        refine sw_tope (nI_add _ _) ?_
        refine sw_sld X hX hbl hbA (i := i + 1) rfl (by omega) (by omega) dL_law_798 ?_
        refine sw_aload_0 X dL_law_799 ?_
        refine sw_iload_3 X dL_law_800 ?_
        refine sw_iconst X (nI 2) dL_law_801 (by decide) ?_
        refine sw_iadd X dL_law_802 ?_
        refine sw_tope (nI_add _ _) ?_
        refine sw_sld X hX hbl hbA (i := i + 2) rfl (by omega) (by omega) dL_law_803 ?_
        refine ca_L_111 X (by decide) dL_law_804 (Nat.le_of_ble_eq_true rfl) c1 ?_
        refine sw_aload_2 X dL_law_807 ?_
        refine sw_aload_0 X dL_law_808 ?_
        refine sw_iload_3 X dL_law_809 ?_
        refine sw_iconst X (nI 1) dL_law_810 (by decide) ?_
        refine sw_iadd X dL_law_811 ?_
        refine sw_tope (nI_add _ _) ?_
        refine sw_sld X hX hbl hbA (i := i + 1) rfl (by omega) (by omega) dL_law_812 ?_
        refine sw_aload_0 X dL_law_813 ?_
        refine sw_iload_3 X dL_law_814 ?_
        refine sw_iconst X (nI 2) dL_law_815 (by decide) ?_
        refine sw_iadd X dL_law_816 ?_
        refine sw_tope (nI_add _ _) ?_
        refine sw_sld X hX hbl hbA (i := i + 2) rfl (by omega) (by omega) dL_law_817 ?_
        refine ca_L_114 X (by decide) dL_law_818 (Nat.le_of_ble_eq_true rfl) c2 ?_
        refine sw_icmp_eq X 1058 dL_law_821 (by decide) (fun _ => ?_) (fun q => absurd rfl q)
        exact tl M2 I2
      refine sw_case (v := nI 24) (fun h => ?_) (fun h_24 => ?_)
      ·
        refine sw_tabInV X 826 dL_law_32 (q := 24) h (by decide) (by decide) ?_
        obtain ⟨r, M1, M2, c1, c2, I2⟩ := act_nameOf (G := G) I (xs (i + 1)) (xs (i + 2))
        refine sw_aload_1 X dL_law_826 ?_
        refine sw_aload_0 X dL_law_827 ?_
        refine sw_iload_3 X dL_law_828 ?_
        refine sw_iconst X (nI 1) dL_law_829 (by decide) ?_
        refine sw_iadd X dL_law_830 ?_
        refine sw_tope (nI_add _ _) ?_
        refine sw_sld X hX hbl hbA (i := i + 1) rfl (by omega) (by omega) dL_law_831 ?_
        refine sw_aload_0 X dL_law_832 ?_
        refine sw_iload_3 X dL_law_833 ?_
        refine sw_iconst X (nI 2) dL_law_834 (by decide) ?_
        refine sw_iadd X dL_law_835 ?_
        refine sw_tope (nI_add _ _) ?_
        refine sw_sld X hX hbl hbA (i := i + 2) rfl (by omega) (by omega) dL_law_836 ?_
        refine ca_L_115 X (by decide) dL_law_837 (Nat.le_of_ble_eq_true rfl) c1 ?_
        refine sw_aload_2 X dL_law_840 ?_
        refine sw_aload_0 X dL_law_841 ?_
        refine sw_iload_3 X dL_law_842 ?_
        refine sw_iconst X (nI 1) dL_law_843 (by decide) ?_
        refine sw_iadd X dL_law_844 ?_
        refine sw_tope (nI_add _ _) ?_
        refine sw_sld X hX hbl hbA (i := i + 1) rfl (by omega) (by omega) dL_law_845 ?_
        refine sw_aload_0 X dL_law_846 ?_
        refine sw_iload_3 X dL_law_847 ?_
        refine sw_iconst X (nI 2) dL_law_848 (by decide) ?_
        refine sw_iadd X dL_law_849 ?_
        refine sw_tope (nI_add _ _) ?_
        refine sw_sld X hX hbl hbA (i := i + 2) rfl (by omega) (by omega) dL_law_850 ?_
        refine ca_L_118 X (by decide) dL_law_851 (Nat.le_of_ble_eq_true rfl) c2 ?_
        refine sw_icmp_eq X 1058 dL_law_854 (by decide) (fun _ => ?_) (fun q => absurd rfl q)
        exact tl M2 I2
      refine sw_case (v := nI 25) (fun h => ?_) (fun h_25 => ?_)
      ·
        refine sw_tabInV X 859 dL_law_32 (q := 25) h (by decide) (by decide) ?_
        obtain ⟨r, M1, M2, c1, c2, I2⟩ := act_nearest (G := G) I (xs (i + 1)) (xs (i + 2))
        refine sw_aload_1 X dL_law_859 ?_
        refine sw_aload_0 X dL_law_860 ?_
        refine sw_iload_3 X dL_law_861 ?_
        refine sw_iconst X (nI 1) dL_law_862 (by decide) ?_
        refine sw_iadd X dL_law_863 ?_
        refine sw_tope (nI_add _ _) ?_
        refine sw_sld X hX hbl hbA (i := i + 1) rfl (by omega) (by omega) dL_law_864 ?_
        refine sw_aload_0 X dL_law_865 ?_
        refine sw_iload_3 X dL_law_866 ?_
        refine sw_iconst X (nI 2) dL_law_867 (by decide) ?_
        refine sw_iadd X dL_law_868 ?_
        refine sw_tope (nI_add _ _) ?_
        refine sw_sld X hX hbl hbA (i := i + 2) rfl (by omega) (by omega) dL_law_869 ?_
        refine ca_L_119 X (by decide) dL_law_870 (Nat.le_of_ble_eq_true rfl) c1 ?_
        refine sw_aload_2 X dL_law_873 ?_
        refine sw_aload_0 X dL_law_874 ?_
        refine sw_iload_3 X dL_law_875 ?_
        refine sw_iconst X (nI 1) dL_law_876 (by decide) ?_
        refine sw_iadd X dL_law_877 ?_
        refine sw_tope (nI_add _ _) ?_
        refine sw_sld X hX hbl hbA (i := i + 1) rfl (by omega) (by omega) dL_law_878 ?_
        refine sw_aload_0 X dL_law_879 ?_
        refine sw_iload_3 X dL_law_880 ?_
        refine sw_iconst X (nI 2) dL_law_881 (by decide) ?_
        refine sw_iadd X dL_law_882 ?_
        refine sw_tope (nI_add _ _) ?_
        refine sw_sld X hX hbl hbA (i := i + 2) rfl (by omega) (by omega) dL_law_883 ?_
        refine ca_L_122 X (by decide) dL_law_884 (Nat.le_of_ble_eq_true rfl) c2 ?_
        refine sw_icmp_eq X 1058 dL_law_887 (by decide) (fun _ => ?_) (fun q => absurd rfl q)
        exact tl M2 I2
      refine sw_case (v := nI 26) (fun h => ?_) (fun h_26 => ?_)
      ·
        refine sw_tabInV X 892 dL_law_32 (q := 26) h (by decide) (by decide) ?_
        obtain ⟨r, M1, M2, c1, c2, I2⟩ := act_changedSince (G := G) I (xs (i + 1)) (xs (i + 2)) (¬ xs (i + 3) = 0)
        refine sw_aload_1 X dL_law_892 ?_
        refine sw_aload_0 X dL_law_893 ?_
        refine sw_iload_3 X dL_law_894 ?_
        refine sw_iconst X (nI 1) dL_law_895 (by decide) ?_
        refine sw_iadd X dL_law_896 ?_
        refine sw_tope (nI_add _ _) ?_
        refine sw_sld X hX hbl hbA (i := i + 1) rfl (by omega) (by omega) dL_law_897 ?_
        refine sw_aload_0 X dL_law_898 ?_
        refine sw_iload_3 X dL_law_899 ?_
        refine sw_iconst X (nI 2) dL_law_900 (by decide) ?_
        refine sw_iadd X dL_law_901 ?_
        refine sw_tope (nI_add _ _) ?_
        refine sw_sld X hX hbl hbA (i := i + 2) rfl (by omega) (by omega) dL_law_902 ?_
        refine sw_aload_0 X dL_law_903 ?_
        refine sw_iload_3 X dL_law_904 ?_
        refine sw_iconst X (nI 3) dL_law_905 (by decide) ?_
        refine sw_iadd X dL_law_906 ?_
        refine sw_tope (nI_add _ _) ?_
        refine sw_sld X hX hbl hbA (i := i + 3) rfl (by omega) (by omega) dL_law_907 ?_
        refine sw_flag X dL_law_908 dL_law_911 dL_law_912 dL_law_915 ?_
        refine ca_L_123 X (by decide) dL_law_916 (Nat.le_of_ble_eq_true rfl) c1 ?_
        refine sw_aload_2 X dL_law_919 ?_
        refine sw_aload_0 X dL_law_920 ?_
        refine sw_iload_3 X dL_law_921 ?_
        refine sw_iconst X (nI 1) dL_law_922 (by decide) ?_
        refine sw_iadd X dL_law_923 ?_
        refine sw_tope (nI_add _ _) ?_
        refine sw_sld X hX hbl hbA (i := i + 1) rfl (by omega) (by omega) dL_law_924 ?_
        refine sw_aload_0 X dL_law_925 ?_
        refine sw_iload_3 X dL_law_926 ?_
        refine sw_iconst X (nI 2) dL_law_927 (by decide) ?_
        refine sw_iadd X dL_law_928 ?_
        refine sw_tope (nI_add _ _) ?_
        refine sw_sld X hX hbl hbA (i := i + 2) rfl (by omega) (by omega) dL_law_929 ?_
        refine sw_aload_0 X dL_law_930 ?_
        refine sw_iload_3 X dL_law_931 ?_
        refine sw_iconst X (nI 3) dL_law_932 (by decide) ?_
        refine sw_iadd X dL_law_933 ?_
        refine sw_tope (nI_add _ _) ?_
        refine sw_sld X hX hbl hbA (i := i + 3) rfl (by omega) (by omega) dL_law_934 ?_
        refine sw_flag X dL_law_935 dL_law_938 dL_law_939 dL_law_942 ?_
        refine ca_L_127 X (by decide) dL_law_943 (Nat.le_of_ble_eq_true rfl) c2 ?_
        refine sw_icmp_eq X 1058 dL_law_946 (by decide) (fun _ => ?_) (fun q => absurd rfl q)
        exact tl M2 I2
      refine sw_case (v := nI 27) (fun h => ?_) (fun h_27 => ?_)
      ·
        refine sw_tabInV X 951 dL_law_32 (q := 27) h (by decide) (by decide) ?_
        obtain ⟨r, M1, M2, c1, c2, I2⟩ := act_ifUndone (G := G) I (xs (i + 1)) (xs (i + 2)) (xs (i + 3))
        refine sw_aload_1 X dL_law_951 ?_
        refine sw_aload_0 X dL_law_952 ?_
        refine sw_iload_3 X dL_law_953 ?_
        refine sw_iconst X (nI 1) dL_law_954 (by decide) ?_
        refine sw_iadd X dL_law_955 ?_
        refine sw_tope (nI_add _ _) ?_
        refine sw_sld X hX hbl hbA (i := i + 1) rfl (by omega) (by omega) dL_law_956 ?_
        refine sw_aload_0 X dL_law_957 ?_
        refine sw_iload_3 X dL_law_958 ?_
        refine sw_iconst X (nI 2) dL_law_959 (by decide) ?_
        refine sw_iadd X dL_law_960 ?_
        refine sw_tope (nI_add _ _) ?_
        refine sw_sld X hX hbl hbA (i := i + 2) rfl (by omega) (by omega) dL_law_961 ?_
        refine sw_aload_0 X dL_law_962 ?_
        refine sw_iload_3 X dL_law_963 ?_
        refine sw_iconst X (nI 3) dL_law_964 (by decide) ?_
        refine sw_iadd X dL_law_965 ?_
        refine sw_tope (nI_add _ _) ?_
        refine sw_sld X hX hbl hbA (i := i + 3) rfl (by omega) (by omega) dL_law_966 ?_
        refine ca_L_128 X (by decide) dL_law_967 (Nat.le_of_ble_eq_true rfl) c1 ?_
        refine sw_aload_2 X dL_law_970 ?_
        refine sw_aload_0 X dL_law_971 ?_
        refine sw_iload_3 X dL_law_972 ?_
        refine sw_iconst X (nI 1) dL_law_973 (by decide) ?_
        refine sw_iadd X dL_law_974 ?_
        refine sw_tope (nI_add _ _) ?_
        refine sw_sld X hX hbl hbA (i := i + 1) rfl (by omega) (by omega) dL_law_975 ?_
        refine sw_aload_0 X dL_law_976 ?_
        refine sw_iload_3 X dL_law_977 ?_
        refine sw_iconst X (nI 2) dL_law_978 (by decide) ?_
        refine sw_iadd X dL_law_979 ?_
        refine sw_tope (nI_add _ _) ?_
        refine sw_sld X hX hbl hbA (i := i + 2) rfl (by omega) (by omega) dL_law_980 ?_
        refine sw_aload_0 X dL_law_981 ?_
        refine sw_iload_3 X dL_law_982 ?_
        refine sw_iconst X (nI 3) dL_law_983 (by decide) ?_
        refine sw_iadd X dL_law_984 ?_
        refine sw_tope (nI_add _ _) ?_
        refine sw_sld X hX hbl hbA (i := i + 3) rfl (by omega) (by omega) dL_law_985 ?_
        refine ca_L_131 X (by decide) dL_law_986 (Nat.le_of_ble_eq_true rfl) c2 ?_
        refine sw_icmp_eq X 1058 dL_law_989 (by decide) (fun _ => ?_) (fun q => absurd rfl q)
        exact tl M2 I2
      refine sw_case (v := nI 28) (fun h => ?_) (fun h_28 => ?_)
      ·
        refine sw_tabInV X 994 dL_law_32 (q := 28) h (by decide) (by decide) ?_
        obtain ⟨r, M1, M2, c1, c2, I2⟩ := act_total (G := G) I (xs (i + 1))
        refine sw_aload_1 X dL_law_994 ?_
        refine sw_aload_0 X dL_law_995 ?_
        refine sw_iload_3 X dL_law_996 ?_
        refine sw_iconst X (nI 1) dL_law_997 (by decide) ?_
        refine sw_iadd X dL_law_998 ?_
        refine sw_tope (nI_add _ _) ?_
        refine sw_sld X hX hbl hbA (i := i + 1) rfl (by omega) (by omega) dL_law_999 ?_
        refine ca_L_132 X (by decide) dL_law_1000 (Nat.le_of_ble_eq_true rfl) c1 ?_
        refine sw_aload_2 X dL_law_1003 ?_
        refine sw_aload_0 X dL_law_1004 ?_
        refine sw_iload_3 X dL_law_1005 ?_
        refine sw_iconst X (nI 1) dL_law_1006 (by decide) ?_
        refine sw_iadd X dL_law_1007 ?_
        refine sw_tope (nI_add _ _) ?_
        refine sw_sld X hX hbl hbA (i := i + 1) rfl (by omega) (by omega) dL_law_1008 ?_
        refine ca_L_135 X (by decide) dL_law_1009 (Nat.le_of_ble_eq_true rfl) c2 ?_
        refine sw_icmp_eq X 1058 dL_law_1012 (by decide) (fun _ => ?_) (fun q => absurd rfl q)
        exact tl M2 I2
      refine sw_case (v := nI 29) (fun h => ?_) (fun h_29 => ?_)
      ·
        refine sw_tabInV X 1017 dL_law_32 (q := 29) h (by decide) (by decide) ?_
        obtain ⟨r, M1, M2, c1, c2, I2⟩ := act_mean (G := G) I 
        have hcat4 : ∀ (k : Nat) (v : Value), (lw_lo G b i)[k]? = some (some v) → v.category = 2 → k + 1 = 4 → False := by
          intro k v hk hv h3
          obtain rfl : k = 3 := by omega
          cases hk
          simp [Value.category] at hv
        have hcat6 : ∀ (k : Nat) (v : Value), ([some (.ref b), some (.ref (sv_ad G 0 8 0)), some (.ref (sv_ad G 4 9 0)), some (.int (nI i)), some (.double r), none, none, none] : List (Option Value))[k]? = some (some v) → v.category = 2 → k + 1 = 6 → False := by
          intro k v hk hv h3
          obtain rfl : k = 5 := by omega
          cases hk
        have tm : sw_W G K 8 1055 [some (.ref b), some (.ref (sv_ad G 0 8 0)), some (.ref (sv_ad G 4 9 0)), some (.int (nI i)), some (.double r), none, some (.double r), none] [] M2 := by
          refine sw_goto X 1058 dL_law_1055 (by decide) ?_
          refine sw_drop_4 ?_
          refine sw_drop_6 ?_
          exact tl M2 I2
        refine sw_aload_1 X dL_law_1017 ?_
        refine ca_L_136 X (by decide) dL_law_1018 (Nat.le_of_ble_eq_true rfl) c1 ?_
        refine sw_dstore (i := 4) (lo2 := [some (.ref b), some (.ref (sv_ad G 0 8 0)), some (.ref (sv_ad G 4 9 0)), some (.int (nI i)), some (.double r), none, none, none]) X (Nat.le_of_ble_eq_true rfl) hcat4 rfl dL_law_1021 ?_
        refine sw_aload_2 X dL_law_1023 ?_
        refine ca_L_140 X (by decide) dL_law_1024 (Nat.le_of_ble_eq_true rfl) c2 ?_
        refine sw_dstore (i := 6) (lo2 := [some (.ref b), some (.ref (sv_ad G 0 8 0)), some (.ref (sv_ad G 4 9 0)), some (.int (nI i)), some (.double r), none, some (.double r), none]) X (Nat.le_of_ble_eq_true rfl) hcat6 rfl dL_law_1027 ?_
        refine sw_dload (i := 4) (x := r) X rfl dL_law_1029 ?_
        refine sw_dload (i := 6) (x := r) X rfl dL_law_1031 ?_
        refine sw_dcmp X dL_law_1033 ?_
        refine sw_if_eq X 1055 dL_law_1034 (by decide) (fun _ => tm) (fun g1 => ?_)
        refine sw_dload (i := 4) (x := r) X rfl dL_law_1037 ?_
        refine sw_dload (i := 4) (x := r) X rfl dL_law_1039 ?_
        refine sw_dcmp X dL_law_1041 ?_
        refine sw_if_eq X 1053 dL_law_1042 (by decide) (fun g2 => absurd g2 g1) (fun _ => ?_)
        refine sw_dload (i := 6) (x := r) X rfl dL_law_1045 ?_
        refine sw_dload (i := 6) (x := r) X rfl dL_law_1047 ?_
        refine sw_dcmp X dL_law_1049 ?_
        exact sw_if_ne X 1055 dL_law_1050 (by decide) (fun _ => tm) (fun g3 => absurd g3 g1)
      refine sw_tabOut X 1058 dL_law_32 (by have q0 := sv_ti h_0 (by decide); have q1 := sv_ti h_1 (by decide); have q2 := sv_ti h_2 (by decide); have q3 := sv_ti h_3 (by decide); have q4 := sv_ti h_4 (by decide); have q5 := sv_ti h_5 (by decide); have q6 := sv_ti h_6 (by decide); have q7 := sv_ti h_7 (by decide); have q8 := sv_ti h_8 (by decide); have q9 := sv_ti h_9 (by decide); have q10 := sv_ti h_10 (by decide); have q11 := sv_ti h_11 (by decide); have q12 := sv_ti h_12 (by decide); have q13 := sv_ti h_13 (by decide); have q14 := sv_ti h_14 (by decide); have q15 := sv_ti h_15 (by decide); have q16 := sv_ti h_16 (by decide); have q17 := sv_ti h_17 (by decide); have q18 := sv_ti h_18 (by decide); have q19 := sv_ti h_19 (by decide); have q20 := sv_ti h_20 (by decide); have q21 := sv_ti h_21 (by decide); have q22 := sv_ti h_22 (by decide); have q23 := sv_ti h_23 (by decide); have q24 := sv_ti h_24 (by decide); have q25 := sv_ti h_25 (by decide); have q26 := sv_ti h_26 (by decide); have q27 := sv_ti h_27 (by decide); have q28 := sv_ti h_28 (by decide); have q29 := sv_ti h_29 (by decide); omega) (by decide) ?_
      exact tl M I
