theorem cnt_shift (p : Nat → Prop) [DecidablePred p] : ∀ k, cnt p (k + 1) = (if p 0 then 1 else 0) + cnt (fun i => p (i + 1)) k
  | 0 => by
    exact (Nat.zero_add _).trans (Nat.add_zero _).symm
  | k + 1 => by
    exact (congrArg (fun z => z + _) (cnt_shift p k)).trans (Nat.add_assoc _ _ _)
theorem pcF_cnt : ∀ (k n : Nat), pcF k n = cnt (fun i => n.testBit i = true) k
  | 0, _ => rfl
  | k + 1, n => by
    rw [cnt_shift]
    show n % 2 + pcF k (n / 2) = _
    rw [pcF_cnt k (n / 2), cnt_congr (p := fun i => (n / 2).testBit i = true) (q := fun i => n.testBit (i + 1) = true) (fun i _ => by rw [Nat.testBit_succ])]
    congr 1
    rw [Nat.testBit_zero]
    rcases Nat.mod_two_eq_zero_or_one n with h | h <;> rw [h] <;> simp
theorem cnt_zero {p : Nat → Prop} [DecidablePred p] : ∀ (a k : Nat), (∀ i, a ≤ i → i < k → ¬ p i) → a ≤ k → cnt p k = cnt p a
  | a, 0, _, h => by rw [show a = 0 by omega]
  | a, k + 1, h, hk => by
    by_cases e : a = k + 1
    · rw [e]
    · rw [cnt_f (h k (by omega) (by omega)), cnt_zero a k (fun i h1 h2 => h i h1 (by omega)) (by omega)]
theorem pcn_nI {n : Nat} (h : n < 65536) : pcn (nI n) = pcF 16 n := by
  rw [pcF_cnt]
  unfold pcn
  have hb : ∀ i, bt (nI n) i = n.testBit i := fun i => by
    show (nI n).toBitVec.toNat.testBit i = _
    rw [sv_tn (by omega)]
  rw [cnt_zero 16 32 (fun i h1 h2 => by
    show ¬ bt (nI n) i = true
    rw [hb, Nat.testBit_lt_two_pow (Nat.lt_of_lt_of_le h (Nat.pow_le_pow_right (n := 2) (by omega) (show 16 ≤ i from h1)))]
    decide) (by omega)]
  exact cnt_congr (fun i _ => by show (bt (nI n) i = true) ↔ _; rw [hb])
theorem nI_and (a b : Nat) (ha : a < 2 ^ 32) (hb : b < 2 ^ 32) : nI a &&& nI b = nI (a &&& b) := by
  apply Int32.toBitVec_inj.mp
  apply BitVec.eq_of_toNat_eq
  rw [Int32.toBitVec_and, BitVec.toNat_and, sv_tn ha, sv_tn hb, sv_tn (Nat.lt_of_le_of_lt Nat.and_le_left ha)]
theorem ushrN {n : Nat} (hn : n < 2 ^ 31) (k : Nat) (hk : k < 32) : sv_ushr (nI n) (nI k) = nI (n / 2 ^ k) := by
  have : ∀ k, k < 32 → ((((nI k).toUInt32 &&& Int32.toUInt32 31).toBitVec) % 32).toNat = k := by decide +kernel
  exact pk_ushrN (n := n) (by omega) (nI k) k (this k hk)

theorem wk_J6_265 : Cond.constant RJ6 265 1431655765 ∈ lw_g := lw_g_of (List.mem_append_right _ (List.mem_of_getElem? (i := 179) (by decide +kernel))) (by decide +kernel)
theorem wk_J6_266 : Cond.constant RJ6 266 858993459 ∈ lw_g := lw_g_of (List.mem_append_right _ (List.mem_of_getElem? (i := 180) (by decide +kernel))) (by decide +kernel)
theorem wk_J6_267 : Cond.constant RJ6 267 252645135 ∈ lw_g := lw_g_of (List.mem_append_right _ (List.mem_of_getElem? (i := 181) (by decide +kernel))) (by decide +kernel)
set_option maxHeartbeats 4000000 in
set_option maxRecDepth 100000 in
theorem c_J6_bitCount_0f7a4 {G : sv_G} {M : sv_Mem} {n : Nat} (h : n < 65536) : sv_Ct G M_J6_bitCount_0f7a4 0 [.int (nI n)] M (some (.int (nI (pcn (nI n))))) (M) := by
  have hA : bcA n ≤ n := Nat.sub_le _ _
  have hB : bcB (bcA n) < 2 ^ 28 := by have a1 : bcA n &&& 858993459 ≤ bcA n := Nat.and_le_left; have a2 : bcA n / 4 &&& 858993459 ≤ bcA n / 4 := Nat.and_le_left; unfold bcB; omega
  have hC : bcC (bcB (bcA n)) < 2 ^ 29 := by have a1 : bcB (bcA n) + bcB (bcA n) / 16 &&& 0x0f0f0f0f ≤ bcB (bcA n) + bcB (bcA n) / 16 := Nat.and_le_left; unfold bcC; omega
  have hD : bcD (bcC (bcB (bcA n))) < 2 ^ 30 := by unfold bcD; omega
  have hE : bcE (bcD (bcC (bcB (bcA n)))) < 2 ^ 31 := by unfold bcE; omega
  refine sv_Ct_of (lo := [some (.int (nI n))]) (pn_J6) rfl (Nat.le_of_ble_eq_true rfl) rfl (fun K X Y => ?_)
  replace X : sv_X G K cJ6_bitCount_0f7a4 RJ6 1 0 := X
  replace Y : sv_Y G K (some .int) _ _ := Y
  show sw_W G K 1 0 _ _ _
  refine sw_iload_0 X dJ6_bitCount_0f7a4_0 ?_
  refine sw_iload_0 X dJ6_bitCount_0f7a4_1 ?_
  refine sw_iconst X (nI 1) dJ6_bitCount_0f7a4_2 (by decide) ?_
  refine sw_iushr X dJ6_bitCount_0f7a4_3 ?_
  refine sw_tope (v2 := nI (n / 2)) (by rw [ushrN (by omega) _ (by omega)]) ?_
  refine sw_ldcw X (v := 1431655765) wk_J6_265 dJ6_bitCount_0f7a4_4 ?_
  refine sw_iand X dJ6_bitCount_0f7a4_7 ?_
  refine sw_tope (v2 := nI (n / 2 &&& 1431655765)) (by rw [(show (1431655765 : Int32) = nI 1431655765 by decide), nI_and _ _ (by omega) (by omega)]) ?_
  refine sw_isub X dJ6_bitCount_0f7a4_8 ?_
  refine sw_tope (v2 := nI (bcA n)) (by rw [pk_sub (Nat.le_trans Nat.and_le_left (by omega))]; rfl) ?_
  refine sw_istore_0 X dJ6_bitCount_0f7a4_9 ?_
  refine sw_iload_0 X dJ6_bitCount_0f7a4_10 ?_
  refine sw_ldcw X (v := 858993459) wk_J6_266 dJ6_bitCount_0f7a4_11 ?_
  refine sw_iand X dJ6_bitCount_0f7a4_14 ?_
  refine sw_tope (v2 := nI (bcA n &&& 858993459)) (by rw [(show (858993459 : Int32) = nI 858993459 by decide), nI_and _ _ (by omega) (by omega)]) ?_
  refine sw_iload_0 X dJ6_bitCount_0f7a4_15 ?_
  refine sw_iconst X (nI 2) dJ6_bitCount_0f7a4_16 (by decide) ?_
  refine sw_iushr X dJ6_bitCount_0f7a4_17 ?_
  refine sw_tope (v2 := nI (bcA n / 4)) (by rw [ushrN (by omega) _ (by omega)]) ?_
  refine sw_ldcw X (v := 858993459) wk_J6_266 dJ6_bitCount_0f7a4_18 ?_
  refine sw_iand X dJ6_bitCount_0f7a4_21 ?_
  refine sw_tope (v2 := nI (bcA n / 4 &&& 858993459)) (by rw [(show (858993459 : Int32) = nI 858993459 by decide), nI_and _ _ (by omega) (by omega)]) ?_
  refine sw_iadd X dJ6_bitCount_0f7a4_22 ?_
  try refine sw_tope (nI_add _ _) ?_
  refine sw_tope (v2 := nI (bcB (bcA n))) rfl ?_
  refine sw_istore_0 X dJ6_bitCount_0f7a4_23 ?_
  refine sw_iload_0 X dJ6_bitCount_0f7a4_24 ?_
  refine sw_iload_0 X dJ6_bitCount_0f7a4_25 ?_
  refine sw_iconst X (nI 4) dJ6_bitCount_0f7a4_26 (by decide) ?_
  refine sw_iushr X dJ6_bitCount_0f7a4_27 ?_
  refine sw_tope (v2 := nI (bcB (bcA n) / 16)) (by rw [ushrN (by omega) _ (by omega)]) ?_
  refine sw_iadd X dJ6_bitCount_0f7a4_28 ?_
  try refine sw_tope (nI_add _ _) ?_
  refine sw_ldcw X (v := 252645135) wk_J6_267 dJ6_bitCount_0f7a4_29 ?_
  refine sw_iand X dJ6_bitCount_0f7a4_32 ?_
  refine sw_tope (v2 := nI (bcC (bcB (bcA n)))) (by rw [(show (252645135 : Int32) = nI 252645135 by decide), nI_and _ _ (by omega) (by omega)]; rfl) ?_
  refine sw_istore_0 X dJ6_bitCount_0f7a4_33 ?_
  refine sw_iload_0 X dJ6_bitCount_0f7a4_34 ?_
  refine sw_iload_0 X dJ6_bitCount_0f7a4_35 ?_
  refine sw_bipush X (nI 8) dJ6_bitCount_0f7a4_36 (by decide) ?_
  refine sw_iushr X dJ6_bitCount_0f7a4_38 ?_
  refine sw_tope (v2 := nI (bcC (bcB (bcA n)) / 256)) (by rw [ushrN (by omega) _ (by omega)]) ?_
  refine sw_iadd X dJ6_bitCount_0f7a4_39 ?_
  try refine sw_tope (nI_add _ _) ?_
  refine sw_tope (v2 := nI (bcD (bcC (bcB (bcA n))))) rfl ?_
  refine sw_istore_0 X dJ6_bitCount_0f7a4_40 ?_
  refine sw_iload_0 X dJ6_bitCount_0f7a4_41 ?_
  refine sw_iload_0 X dJ6_bitCount_0f7a4_42 ?_
  refine sw_bipush X (nI 16) dJ6_bitCount_0f7a4_43 (by decide) ?_
  refine sw_iushr X dJ6_bitCount_0f7a4_45 ?_
  refine sw_tope (v2 := nI (bcD (bcC (bcB (bcA n))) / 65536)) (by rw [ushrN (by omega) _ (by omega)]) ?_
  refine sw_iadd X dJ6_bitCount_0f7a4_46 ?_
  try refine sw_tope (nI_add _ _) ?_
  refine sw_tope (v2 := nI (bcE (bcD (bcC (bcB (bcA n)))))) rfl ?_
  refine sw_istore_0 X dJ6_bitCount_0f7a4_47 ?_
  refine sw_iload_0 X dJ6_bitCount_0f7a4_48 ?_
  refine sw_bipush X (nI 63) dJ6_bitCount_0f7a4_49 (by decide) ?_
  refine sw_iand X dJ6_bitCount_0f7a4_51 ?_
  exact sw_iret X Y dJ6_bitCount_0f7a4_52 (ri_of (by rw [pcn_nI h, ← bc_all h]; exact (nI_and _ 63 (by omega) (by omega)).symm)) (rfl)
