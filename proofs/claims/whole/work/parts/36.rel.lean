/-! the simulation: what ties the class's state to the reference's row of numbers -/
def hi0 (x : Int32) : Prop := ∀ i, 16 ≤ i → i < 32 → bt x i = false
def vok (v : Int32) : Prop := v = -1 ∨ inR v (nI 0) (nI 9999)
abbrev rwS (s : Nat → Int32) (q r : Nat) : Nat → Int32 := fun f => s (rAt q r + f)
def rowV (T : sv_T) (q r : Nat) (a : Nat → Int32) : Prop := T 17 q r = a 0 ∧ hi0 (a 0) ∧ ∀ k, k < 16 → bt (a 0) k = true → T 18 q (r * 16 + k) = outs (a (3 + k)) ∧ vok (a (3 + k))
def rowL (a : Nat → Int32) (L L2 : Int32) : Prop := hi0 (a 1) ∧ ∀ k, k < 16 → (bt (a 1) k = true ↔ md L k ≠ md L2 k) ∧ (bt (a 1) k = true → md (a 2) k = md L k) ∧ md L k ≤ md L2 k
/-- the locks at moment r; now, behind the last one -/
def LA (T : sv_T) (q c r : Nat) : Int32 := if r < c then T 15 q r else T 14 q 1
theorem LA_lt {T : sv_T} {q c r : Nat} (h : r < c) : LA T q c r = T 15 q r := if_pos h
theorem LA_ge {T : sv_T} {q c r : Nat} (h : c ≤ r) : LA T q c r = T 14 q 1 := if_neg (by omega)
def rowsG (T : sv_T) (q c : Nat) (rw_ : Nat → Nat → Int32) : Prop := ∀ r, r < c → rowV T q r (rw_ r) ∧ rowL (rw_ r) (LA T q c r) (LA T q c (r + 1))
theorem inR_neg {v w : Int32} (h : inR v (nI 0) (nI 9999)) (hw : w < nI 0) : v ≠ w := fun e => h.1 (e ▸ hw)
theorem vok_n {v : Int32} (h : inR v (nI 0) (nI 9999)) : v ≠ -1 ∧ v ≠ -5 ∧ v ≠ -6 ∧ v ≠ -7 := ⟨inR_neg h (by decide), inR_neg h (by decide), inR_neg h (by decide), inR_neg h (by decide)⟩
theorem outs_1 : outs (-1) = -5 := if_pos rfl
theorem outs_v {v : Int32} (h : inR v (nI 0) (nI 9999)) : outs v = v := if_neg (vok_n h).1
theorem outs_inj {a b : Int32} (ha : vok a) (hb : vok b) (h : outs a = outs b) : a = b := by
  rcases ha with rfl | ha <;> rcases hb with rfl | hb
  · rfl
  · rw [outs_1, outs_v hb] at h
    exact absurd h.symm (vok_n hb).2.1
  · rw [outs_1, outs_v ha] at h
    exact absurd h (vok_n ha).2.1
  · rw [outs_v ha, outs_v hb] at h
    exact h
theorem outs_5 {v : Int32} (h : vok v) : outs v = -5 ↔ v = -1 := by
  constructor
  · intro e
    exact outs_inj h (Or.inl rfl) (e.trans outs_1.symm)
  · intro e
    rw [e, outs_1]
theorem outs_ok {v : Int32} (h : vok v) : outs v ≠ -6 ∧ outs v ≠ -7 ∧ ¬ isEr (outs v) := by
  rcases h with rfl | h
  · rw [outs_1]; decide
  · rw [outs_v h]
    exact ⟨(vok_n h).2.2.1, (vok_n h).2.2.2, fun z => h.1 z.1⟩
theorem vok_c : vok (-1) := Or.inl rfl
theorem fv_rel {T : sv_T} {q k c0 : Nat} {rw_ : Nat → Nat → Int32} (h : ∀ r, r < c0 → rowV T q r (rw_ r)) (hk : k < 16) {pr pr2 : Int32} (hp : pr = outs pr2) (hv : vok pr2) : ∀ (c m : Nat), m + c ≤ c0 → fvR (T 17 q) (fun r => T 18 q (r * 16 + k)) k pr c m = outs (fvR (fun r => rw_ r 0) (fun r => rw_ r (3 + k)) k pr2 c m) ∧ vok (fvR (fun r => rw_ r 0) (fun r => rw_ r (3 + k)) k pr2 c m)
  | 0, m, _ => ⟨hp, hv⟩
  | c + 1, m, hm => by
    unfold fvR
    obtain ⟨h1, h2, h3⟩ := h m (by omega)
    rw [h1]
    by_cases hb : bt (rw_ m 0) k = true
    · rw [if_pos hb, if_pos hb]
      exact h3 k hk hb
    · rw [if_neg hb, if_neg hb]
      exact fv_rel h hk hp hv c (m + 1) (by omega)
theorem bfR_eq (s : Nat → Int32) (q k c m : Nat) : bfR s q k c m = fvR (fun r => rwS s q r 0) (fun r => rwS s q r (3 + k)) k (s (8 + k)) c m := by
  show fvR _ (fun r => s (rAt q r + 3 + k)) _ _ _ _ = _
  have : (fun r => s (rAt q r + 3 + k)) = (fun r => rwS s q r (3 + k)) := by
    funext r
    show s _ = s _
    rw [Nat.add_assoc]
  rw [this]
theorem ch_le {L : Nat → Int32} {k c0 : Nat} (h : ∀ r, r < c0 → md (L r) k ≤ md (L (r + 1)) k) : ∀ (c m : Nat), m + c ≤ c0 → md (L m) k ≤ md (L (m + c)) k
  | 0, m, _ => Int32.le_refl _
  | c + 1, m, hm => Int32.le_trans (ch_le h c m (by omega)) (h (m + c) (by omega))
theorem mb_rel {L : Nat → Int32} {k c0 : Nat} {rw_ : Nat → Nat → Int32} (hk : k < 16) (h : ∀ r, r < c0 → rowL (rw_ r) (L r) (L (r + 1))) : ∀ (c m : Nat), m + c ≤ c0 → fvR (fun r => rw_ r 1) (fun r => md (rw_ r 2) k) k (md (L (m + c)) k) c m = md (L m) k
  | 0, m, _ => rfl
  | c + 1, m, hm => by
    unfold fvR
    obtain ⟨-, h2⟩ := h m (by omega)
    obtain ⟨h3, h4, h5⟩ := h2 k hk
    by_cases hb : bt (rw_ m 1) k = true
    · rw [if_pos hb]
      exact h4 hb
    · rw [if_neg hb, show m + (c + 1) = m + 1 + c by omega, mb_rel hk h c (m + 1) (by omega)]
      exact (Decidable.of_not_not (fun z => hb (h3.mpr z))).symm
theorem sn_rel {L : Nat → Int32} {k c0 : Nat} {rw_ : Nat → Nat → Int32} (hk : k < 16) (h : ∀ r, r < c0 → rowL (rw_ r) (L r) (L (r + 1))) : ∀ (c m : Nat) (acc : Int32), m + c ≤ c0 → (bt (sncR (fun r => rw_ r 1) c m acc) k = true ↔ (bt acc k = true ∨ md (L m) k ≠ md (L (m + c)) k))
  | 0, m, acc, _ => by
    show bt acc k = true ↔ _
    simp
  | c + 1, m, acc, hm => by
    show bt (sncR _ c (m + 1) (acc ||| rw_ m 1)) k = true ↔ _
    rw [sn_rel hk h c (m + 1) _ (by omega), bt_or, Bool.or_eq_true]
    obtain ⟨-, h2⟩ := h m (by omega)
    obtain ⟨h3, h4, h5⟩ := h2 k hk
    have h6 := ch_le (k := k) (fun r hr => ((h r hr).2 k hk).2.2) c (m + 1) (by omega)
    rw [show m + (c + 1) = m + 1 + c by omega]
    by_cases hb : bt (rw_ m 1) k = true
    · have h7 := h3.mp hb
      have h8 : md (L m) k ≠ md (L (m + 1 + c)) k := fun e => h7 (Int32.le_antisymm h5 (e ▸ h6))
      simp [hb, h8]
    · have h7 : md (L m) k = md (L (m + 1)) k := Decidable.of_not_not (fun z => hb (h3.mpr z))
      rw [h7]
      simp [hb]
theorem sn_hi {f : Nat → Int32} : ∀ (c m : Nat) (acc : Int32), hi0 acc → (∀ r, m ≤ r → r < m + c → hi0 (f r)) → hi0 (sncR f c m acc)
  | 0, _, _, h, _ => h
  | c + 1, m, acc, h, hf => sn_hi c (m + 1) _ (fun i h1 h2 => by rw [bt_or, h i h1 h2, hf m (by omega) (by omega) i h1 h2]; rfl) (fun r h1 h2 => hf r (by omega) (by omega))
theorem hi0_0 : hi0 (nI 0) := fun i _ _ => bt_0 i
theorem hi0_or {a b : Int32} (ha : hi0 a) (hb : hi0 b) : hi0 (a ||| b) := fun i h1 h2 => by rw [bt_or, ha i h1 h2, hb i h1 h2]; rfl
theorem hi0_sb {a : Int32} {k : Nat} (ha : hi0 a) (hk : k < 16) : hi0 (sb a k) := fun i h1 h2 => by rw [bt_sb a (by omega) h2, ha i h1 h2]; simp; omega
/-- a set of 16 keys is a number below 65536 -/
theorem hi0_nI {x : Int32} (h : hi0 x) : ∃ n, n < 65536 ∧ x = nI n := by
  have hb : ∀ i, bt x i = x.toBitVec.toNat.testBit i := fun i => rfl
  refine ⟨x.toBitVec.toNat, ?_, ?_⟩
  · refine Nat.lt_pow_two_of_testBit (n := 16) _ (fun i hi => ?_)
    by_cases h2 : i < 32
    · rw [← hb]; exact h i hi h2
    · exact Nat.testBit_lt_two_pow (Nat.lt_of_lt_of_le x.toBitVec.isLt (Nat.pow_le_pow_right (by omega) (by omega)))
  · apply Int32.toBitVec_inj.mp
    apply BitVec.eq_of_toNat_eq
    rw [sv_tn x.toBitVec.isLt]
theorem rowV_congr {T T2 : sv_T} {q r : Nat} {a a2 : Nat → Int32} (h : rowV T q r a) (h17 : T2 17 q r = T 17 q r) (h18 : ∀ k, k < 16 → T2 18 q (r * 16 + k) = T 18 q (r * 16 + k)) (ha : ∀ f, f < 19 → a2 f = a f) : rowV T2 q r a2 := by
  obtain ⟨h1, h2, h3⟩ := h
  refine ⟨by rw [h17, ha 0 (by omega)]; exact h1, by rw [ha 0 (by omega)]; exact h2, fun k hk hb => ?_⟩
  rw [ha 0 (by omega)] at hb
  rw [h18 k hk, ha (3 + k) (by omega)]
  exact h3 k hk hb
theorem rowL_congr {a a2 : Nat → Int32} {L L2 : Int32} (h : rowL a L L2) (ha : ∀ f, f < 19 → a2 f = a f) : rowL a2 L L2 := by
  unfold rowL at h ⊢
  rw [ha 1 (by omega), ha 2 (by omega)]
  exact h
/-- two rows become one -/
theorem jn_rowL {a b J : Nat → Int32} {L L1 L2 : Int32} (h1 : J 1 = a 1 ||| b 1) (h2 : ∀ k, k < 16 → md (J 2) k = if bt (b 1) k = true ∧ ¬ bt (a 1) k = true then md (b 2) k else md (a 2) k) (ha : rowL a L L1) (hb : rowL b L1 L2) : rowL J L L2 := by
  refine ⟨by rw [h1]; exact hi0_or ha.1 hb.1, fun k hk => ?_⟩
  obtain ⟨a1, a2, a3⟩ := ha.2 k hk
  obtain ⟨b1, b2, b3⟩ := hb.2 k hk
  have hbit : bt (J 1) k = true ↔ (bt (a 1) k = true ∨ bt (b 1) k = true) := by rw [h1, bt_or, Bool.or_eq_true]
  refine ⟨?_, ?_, Int32.le_trans a3 b3⟩
  · rw [hbit]
    by_cases hA : bt (a 1) k = true
    · have := a1.mp hA
      exact ⟨fun _ e => this (Int32.le_antisymm a3 (e ▸ b3)), fun _ => Or.inl hA⟩
    · have e1 : md L k = md L1 k := Decidable.of_not_not (fun z => hA (a1.mpr z))
      rw [e1, ← b1]
      exact ⟨fun z => z.resolve_left hA, Or.inr⟩
  · intro hJ
    rw [h2 k hk]
    by_cases hA : bt (a 1) k = true
    · rw [if_neg (fun z => z.2 hA)]
      exact a2 hA
    · have hB := (hbit.mp hJ).resolve_left hA
      have e1 : md L k = md L1 k := Decidable.of_not_not (fun z => hA (a1.mpr z))
      rw [if_pos ⟨hB, hA⟩, e1]
      exact b2 hB
theorem bt_true {x : Int32} {k : Nat} : ¬ bt x k = true ↔ bt x k = false := by cases bt x k <;> simp
theorem ncT_17m (T : sv_T) (j m k : Nat) (v : Int32) {i : Nat} (hk : k < 16) (hi : i < 32) : bt (ncT T j m k v 17 j m) i = (bt (T 17 j m) i || decide (i = k)) := by
  unfold ncT
  split <;> rename_i h
  · by_cases e : i = k
    · rw [e, h]; rfl
    · simp [e]
  · rw [tu_ne _ _ _ (by omega), tu_self, bt_sb _ (by omega) hi]
theorem drK_17m (T : sv_T) (j m r : Nat) (hm : m ≠ r) : ∀ (k : Nat), k ≤ 16 → ∀ i, i < 32 → bt (drK T j m r k 17 j m) i = (bt (T 17 j m) i || (decide (i < k) && bt (T 17 j r) i))
  | 0, _, i, _ => by
    show bt (T 17 j m) i = _
    simp
  | k + 1, hk, i, hi => by
    have ih := drK_17m T j m r hm k (by omega) i hi
    by_cases hb : bt (T 17 j r) k = true
    · rw [drK_t hb, ncT_17m _ _ _ _ _ (by omega) hi, ih]
      by_cases e : i = k
      · rw [e, hb]; simp
      · simp [e, show (i < k + 1) = (i < k) by simp; omega]
    · rw [drK_f hb, ih]
      by_cases e : i = k
      · rw [e, bt_true.mp hb]; simp
      · simp [show (i < k + 1) = (i < k) by simp; omega]
theorem drK_18m (T : sv_T) (j m r : Nat) (hm : m ≠ r) : ∀ (k : Nat), k ≤ 16 → ∀ i, i < 16 → drK T j m r k 18 j (m * 16 + i) = if i < k ∧ bt (T 17 j r) i = true ∧ ¬ bt (T 17 j m) i = true then T 18 j (r * 16 + i) else T 18 j (m * 16 + i)
  | 0, _, i, _ => by
    rw [if_neg (by omega)]
    rfl
  | k + 1, hk, i, hi => by
    have ih := drK_18m T j m r hm k (by omega) i hi
    by_cases hb : bt (T 17 j r) k = true
    · rw [drK_t hb]
      unfold ncT
      have hk17 : bt (drK T j m r k 17 j m) k = bt (T 17 j m) k := by
        rw [drK_17m T j m r hm k (by omega) k (by omega)]
        simp
      by_cases hM : bt (T 17 j m) k = true
      · rw [if_pos (by rw [hk17]; exact hM), ih]
        by_cases e : i = k
        · rw [if_neg (by omega), if_neg (fun z => z.2.2 (by rw [e]; exact hM))]
        · by_cases hik : i < k ∧ bt (T 17 j r) i = true ∧ ¬ bt (T 17 j m) i = true
          · rw [if_pos hik, if_pos ⟨by omega, hik.2⟩]
          · rw [if_neg hik, if_neg (fun z => hik ⟨by omega, z.2⟩)]
      · rw [if_neg (by rw [hk17]; exact hM)]
        by_cases e : i = k
        · rw [e, tu_self, if_pos ⟨by omega, hb, hM⟩]
        · rw [tu_n _ _ (by omega), tu_ne _ _ _ (by omega), ih]
          by_cases hik : i < k ∧ bt (T 17 j r) i = true ∧ ¬ bt (T 17 j m) i = true
          · rw [if_pos hik, if_pos ⟨by omega, hik.2⟩]
          · rw [if_neg hik, if_neg (fun z => hik ⟨by omega, z.2⟩)]
    · rw [drK_f hb, ih]
      by_cases hik : i < k ∧ bt (T 17 j r) i = true ∧ ¬ bt (T 17 j m) i = true
      · rw [if_pos hik, if_pos ⟨by omega, hik.2⟩]
      · rw [if_neg hik, if_neg (fun z => hik ⟨by
          have : i ≠ k := fun e => hb (e ▸ z.2.1)
          omega, z.2⟩)]
theorem jn_rowV {T : sv_T} {q m r : Nat} {a b J : Nat → Int32} (hm : m ≠ r) (h0 : J 0 = a 0 ||| b 0) (h3 : ∀ k, k < 16 → J (3 + k) = if bt (b 0) k = true ∧ ¬ bt (a 0) k = true then b (3 + k) else a (3 + k)) (ha : rowV T q m a) (hb : rowV T q r b) : rowV (drK T q m r 16) q m J := by
  obtain ⟨a1, a2, a3⟩ := ha
  obtain ⟨b1, b2, b3⟩ := hb
  refine ⟨?_, by rw [h0]; exact hi0_or a2 b2, fun k hk hJ => ?_⟩
  · apply bt_ext
    intro i hi
    rw [drK_17m T q m r hm 16 (by omega) i hi, h0, bt_or, a1, b1]
    by_cases h : i < 16
    · simp [h]
    · rw [b2 i (by omega) hi]; simp
  · rw [h0, bt_or, Bool.or_eq_true] at hJ
    rw [drK_18m T q m r hm 16 (by omega) k hk, h3 k hk, a1, b1]
    by_cases hc : bt (b 0) k = true ∧ ¬ bt (a 0) k = true
    · rw [if_pos ⟨hk, hc⟩, if_pos hc]
      exact b3 k hk hc.1
    · rw [if_neg (fun z => hc z.2), if_neg hc]
      exact a3 k hk (Decidable.of_not_not (fun z => hc ⟨hJ.resolve_left z, z⟩))
theorem jnM_md (a b la lb : Int32) : ∀ (c : Nat), c ≤ 16 → ∀ k, k < 16 → md (jnM a b la lb c) k = if k < c ∧ bt lb k = true ∧ ¬ bt la k = true then md b k else md a k
  | 0, _, k, _ => by
    rw [if_neg (by omega)]
    rfl
  | c + 1, hc, k, hk => by
    have ih := jnM_md a b la lb c (by omega) k hk
    unfold jnM
    by_cases h : bt lb c = true ∧ ¬ bt la c = true
    · rw [if_pos h, md_sm _ _ (by omega) hk (isMd_md _ (by omega))]
      by_cases e : k = c
      · rw [if_pos e, e, if_pos ⟨by omega, h⟩]
      · rw [if_neg e, ih]
        by_cases h2 : k < c ∧ bt lb k = true ∧ ¬ bt la k = true
        · rw [if_pos h2, if_pos ⟨by omega, h2.2⟩]
        · rw [if_neg h2, if_neg (fun z => h2 ⟨by omega, z.2⟩)]
    · rw [if_neg h, ih]
      by_cases h2 : k < c ∧ bt lb k = true ∧ ¬ bt la k = true
      · rw [if_pos h2, if_pos ⟨by omega, h2.2⟩]
      · rw [if_neg h2, if_neg (fun z => h2 ⟨by
          have : k ≠ c := fun e => h (e ▸ z.2)
          omega, z.2⟩)]
theorem jnF_0 (to fr : Nat → Int32) (t f : Nat) : jnF to fr t f (t + 0) = to (t + 0) ||| fr (f + 0) := by
  unfold jnF
  rw [va_up_ne _ _ (by omega), va_up_self]
theorem jnF_1 (to fr : Nat → Int32) (t f : Nat) : jnF to fr t f (t + 1) = to (t + 1) ||| fr (f + 1) := by
  unfold jnF
  rw [va_up_self]
theorem jnF_2 (to fr : Nat → Int32) (t f : Nat) {k : Nat} (hk : k < 16) : md (jnF to fr t f (t + 2)) k = if bt (fr (f + 1)) k = true ∧ ¬ bt (to (t + 1)) k = true then md (fr (f + 2)) k else md (to (t + 2)) k := by
  unfold jnF
  rw [va_up_ne _ _ (by omega), va_up_ne _ _ (by omega), jnP_m, jnM_md _ _ _ _ 16 (by omega) k hk]
  by_cases h : bt (fr (f + 1)) k = true ∧ ¬ bt (to (t + 1)) k = true
  · rw [if_pos ⟨hk, h⟩, if_pos h]
  · rw [if_neg (fun z => h z.2), if_neg h]
theorem jnF_3 (to fr : Nat → Int32) (t f : Nat) {k : Nat} (hk : k < 16) : jnF to fr t f (t + (3 + k)) = if bt (fr (f + 0)) k = true ∧ ¬ bt (to (t + 0)) k = true then fr (f + (3 + k)) else to (t + (3 + k)) := by
  unfold jnF
  rw [va_up_ne _ _ (by omega), va_up_ne _ _ (by omega)]
  unfold jnP
  rw [if_neg (by omega)]
  have e : t + (3 + k) - (t + 3) = k := by omega
  rw [e, Nat.add_assoc f 3 k]
  by_cases h : bt (fr (f + 0)) k = true ∧ ¬ bt (to (t + 0)) k = true
  · rw [if_pos ⟨by omega, by omega, h⟩, if_pos h]
  · rw [if_neg (fun z => h z.2.2), if_neg h]
