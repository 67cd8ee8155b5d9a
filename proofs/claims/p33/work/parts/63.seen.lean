/-! what the law sees of a State that keeps the invariant -/
theorem snc_bt {f : Nat → Int32} {k : Nat} : ∀ (c m : Nat) (acc : Int32), bt (sncR f c m acc) k = true ↔ bt acc k = true ∨ ∃ r, m ≤ r ∧ r < m + c ∧ bt (f r) k = true
  | 0, m, acc => ⟨fun h => Or.inl h, fun h => h.elim id (fun ⟨r, a, b, _⟩ => by omega)⟩
  | c + 1, m, acc => by
    unfold sncR
    rw [snc_bt c (m + 1), bt_or, Bool.or_eq_true_iff]
    constructor
    · rintro ((h | h) | ⟨r, a, b, d⟩)
      · exact Or.inl h
      · exact Or.inr ⟨m, by omega, by omega, h⟩
      · exact Or.inr ⟨r, by omega, by omega, d⟩
    · rintro (h | ⟨r, a, b, d⟩)
      · exact Or.inl (Or.inl h)
      · by_cases e : r = m
        · exact Or.inl (Or.inr (e ▸ d))
        · exact Or.inr ⟨r, by omega, by omega, d⟩
/-- the keys changed since the moment m -/
abbrev chS (T : sv_T) (q c m : Nat) : Int32 := sncR (T 17 q) (c - m) m (nI 0)
theorem chS_bt {T : sv_T} {q c m k : Nat} (hm : m ≤ c) : bt (chS T q c m) k = true ↔ ∃ r, m ≤ r ∧ r < c ∧ bt (T 17 q r) k = true := by
  rw [snc_bt, bt_0]
  constructor
  · rintro (h | ⟨r, a, b, d⟩)
    · cases h
    · exact ⟨r, a, by omega, d⟩
  · rintro ⟨r, a, b, d⟩
    exact Or.inr ⟨r, a, by omega, d⟩
theorem chS_hi {T : sv_T} {q c : Nat} (h : SO T q c) (m : Nat) : hi0 (chS T q c m) := sn_hi _ _ _ hi0_0 (fun r h1 h2 => h.2.2.2 r (by omega))
theorem chS_two {T : sv_T} {q c m k : Nat} (h : SO T q c) (hm : m ≤ c) (hk : k < 16) (hb : bt (chS T q c m) k = true) : mm (T 14 q 1) k = 2 := by
  obtain ⟨r, a, b, d⟩ := (chS_bt hm).mp hb
  exact KO_two (h.2.2.1 k hk) b d
theorem chS_sub {T : sv_T} {q c m m2 k : Nat} (h : m ≤ m2) (hm : m2 ≤ c) (hb : bt (chS T q c m2) k = true) : bt (chS T q c m) k = true := by
  obtain ⟨r, a, b, d⟩ := (chS_bt hm).mp hb
  exact (chS_bt (by omega)).mpr ⟨r, by omega, b, d⟩
/-- the keys whose mode has changed since the moment m -/
abbrev lkS (T : sv_T) (q m : Nat) : Int32 := lcS (T 15 q m ^^^ T 14 q 1) 16
theorem lkS_bt {T : sv_T} {q m i : Nat} (hi : i < 32) : bt (lkS T q m) i = true ↔ i < 16 ∧ mm (T 15 q m) i ≠ mm (T 14 q 1) i := by
  rw [lcS_bt _ 16 (Nat.le_refl _) i hi, Bool.and_eq_true_iff, decide_eq_true_eq, decide_eq_true_eq]
  constructor
  · rintro ⟨a, b⟩
    refine ⟨a, fun z => b ((md_xor _ _ a).mpr ?_)⟩
    rw [md_mm _ a, md_mm _ a, z]
  · rintro ⟨a, b⟩
    refine ⟨a, fun z => b ?_⟩
    have := (md_xor _ _ a).mp z
    rw [md_mm (T 14 q 1) a] at this
    exact mm_of a (by have := mm_lt (T 14 q 1) i; omega) this
theorem lkS_sub {T : sv_T} {q c m k : Nat} (h : SO T q c) (hm : m + 1 < c) (hk : k < 32) (hb : bt (lkS T q (m + 1)) k = true) : bt (lkS T q m) k = true := by
  obtain ⟨a, b⟩ := (lkS_bt hk).mp hb
  refine (lkS_bt hk).mpr ⟨a, ?_⟩
  have K := h.2.2.1 k a
  have k1 := (K.2 m (by omega)).1
  have k2 := KO_le K (r := m + 1) (by omega)
  rw [LA_lt (by omega), LA_lt (by omega)] at k1
  rw [LA_lt (by omega)] at k2
  omega
theorem andn {a b : Int32} (h : ∀ i, i < 32 → bt a i = true → bt b i = true) : a &&& (b ^^^ (-1)) = nI 0 := by
  have e1 : ∀ i, i < 32 → (-1 : Int32).toBitVec.getLsbD i = true := by decide +kernel
  apply bt_ext
  intro i hi
  rw [bt_0]
  have h2 := h i hi
  unfold bt at *
  rw [Int32.toBitVec_and, BitVec.getLsbD_and, Int32.toBitVec_xor, BitVec.getLsbD_xor, e1 i hi]
  cases ha : a.toBitVec.getLsbD i with
  | false => rfl
  | true => rw [h2 ha]; rfl
theorem nr_ge {f : Nat → Int32} {nm : Int32} : ∀ (c : Nat) {p : Nat}, p < c → f p = nm → ∃ r, p ≤ r ∧ r < c ∧ nrR f nm c = nI r
  | 0, p, h, _ => absurd h (Nat.not_lt_zero _)
  | c + 1, p, h, e => by
    unfold nrR
    by_cases h2 : f c = nm
    · rw [if_pos h2]
      exact ⟨c, by omega, by omega, rfl⟩
    · rw [if_neg h2]
      have : p ≠ c := fun z => h2 (z ▸ e)
      obtain ⟨r, a, b, d⟩ := nr_ge c (p := p) (by omega) e
      exact ⟨r, a, by omega, d⟩
theorem va_f {T : sv_T} {q c m k : Nat} {pr : Int32} (h : ¬ bt (chS T q c m) k = true) : vaR T q k pr c m = pr := fv_f _ _ h
theorem cv_3 (T : sv_T) (cs : Nat → Nat) (k : Nat) : cvR T cs k 3 = vaR T 2 k (vaR T 1 k (vaR T 0 k (T 11 0 k) (cs 0) 0) (cs 1) 0) (cs 2) 0 := rfl
theorem com_two {T : sv_T} {cs : Nat → Nat} (h : SI T cs) {q k : Nat} (hq : q < 3) (hk : k < 16) (h2 : mm (T 14 q 1) k = 2) : cvR T cs k 3 = vaR T q k (T 11 0 k) (cs q) 0 := by
  have ho : ∀ j, j < 3 → j ≠ q → ∀ pr, vaR T j k pr (cs j) 0 = pr := fun j hj hn pr => va_id ((h.2.2.1 j hj).2.1.2.2.1 k hk) (Nat.zero_le _) (by rw [h.2.2.2 q j k hq hj (fun z => hn z.symm) hk h2]; omega) pr
  rw [cv_3]
  have : q = 0 ∨ q = 1 ∨ q = 2 := by omega
  rcases this with rfl | rfl | rfl
  · rw [ho 2 (by omega) (by omega), ho 1 (by omega) (by omega)]
  · rw [ho 2 (by omega) (by omega), ho 0 (by omega) (by omega)]
  · rw [ho 1 (by omega) (by omega), ho 0 (by omega) (by omega)]
theorem com_no {T : sv_T} {cs : Nat → Nat} (h : SI T cs) {k : Nat} (hk : k < 16) (h2 : ∀ q, q < 3 → mm (T 14 q 1) k ≠ 2) : cvR T cs k 3 = T 11 0 k := by
  have ho : ∀ j, j < 3 → ∀ pr, vaR T j k pr (cs j) 0 = pr := fun j hj pr => va_id ((h.2.2.1 j hj).2.1.2.2.1 k hk) (Nat.zero_le _) (h2 j hj) pr
  rw [cv_3, ho 2 (by omega), ho 1 (by omega), ho 0 (by omega)]
theorem bcS_bt {T : sv_T} {k : Nat} {mode : Int32} {i : Nat} (hi : i < 32) : ∀ n, n ≤ 3 → bt (bcS T k mode n) i = (decide (i < n) && decide (busyC T i k mode))
  | 0, _ => by
    show bt (nI 0) i = _
    rw [bt_0]
    simp
  | n + 1, hn => by
    have ih := bcS_bt hi (T := T) (k := k) (mode := mode) n (by omega)
    unfold bcS
    by_cases h : busyC T n k mode
    · rw [if_pos h, bt_sb _ (by omega) hi, ih]
      by_cases e : i = n
      · subst e
        simp only [Nat.lt_succ_self, decide_true, Bool.or_true, Bool.true_and]
        exact (decide_eq_true h).symm
      · simp only [e, decide_false, Bool.or_false, show (i < n + 1) = (i < n) by simp; omega]
    · rw [if_neg h, ih]
      by_cases e : i = n
      · subst e
        simp only [Nat.lt_irrefl, decide_false, Bool.false_and, Nat.lt_succ_self, decide_true, Bool.true_and]
        exact (decide_eq_false h).symm
      · simp only [show (i < n + 1) = (i < n) by simp; omega]
theorem cnt_mono {p q : Nat → Prop} [DecidablePred p] [DecidablePred q] : ∀ n, (∀ k, k < n → p k → q k) → cnt p n ≤ cnt q n
  | 0, _ => Nat.le_refl _
  | n + 1, h => by
    have ih := cnt_mono n (fun k hk => h k (by omega))
    by_cases a : p n
    · rw [cnt_t a, cnt_t (h n (by omega) a)]; omega
    · rw [cnt_f a]
      exact Nat.le_trans ih (Nat.le_add_right _ _)
/-- the number of keys changed since the transaction began -/
theorem chg_cnt {T : sv_T} {q c : Nat} (h : SO T q c) : ∃ kn, sncR (T 17 q) c 0 (nI 0) = nI kn ∧ kn < 65536 ∧ pcn (nI kn) ≤ cnt (fun k => md (T 14 q 1) k = nI 2) 16 ∧ (c = 0 → pcn (nI kn) = 0) := by
  obtain ⟨kn, h1, h2⟩ := hi0_nI (chS_hi h 0)
  refine ⟨kn, h2, h1, ?_, fun hc => ?_⟩
  · have hz : cnt (pcP (nI kn)) 32 = cnt (pcP (nI kn)) 16 := cnt_zero 16 32 (fun i a b z => by
      have z : bt (nI kn) i = true := z
      rw [← h2, chS_hi h 0 i a b] at z
      cases z) (by omega)
    show cnt (pcP (nI kn)) 32 ≤ _
    rw [hz]
    refine cnt_mono 16 (fun k hk z => ?_)
    have z : bt (nI kn) k = true := z
    rw [← h2] at z
    exact (md_iff hk (by omega)).mpr (chS_two h (Nat.zero_le _) hk z)
  · subst hc
    have : nI kn = nI 0 := h2.symm
    rw [this]
    have e : cnt (pcP (nI 0)) 32 = cnt (pcP (nI 0)) 0 := cnt_zero 0 32 (fun i a b z => by
      have z : bt (nI 0) i = true := z
      rw [bt_0] at z
      cases z) (by omega)
    exact e
theorem xI_pos {n : Nat} (h : n < 2 ^ 31) : ¬ nI n < 0 := nI_pos h
/-- bit k of a set, as the law asks it -/
theorem bt_n0 (x : Int32) {k : Nat} (hk : k < 32) : ((x >>> (nI k &&& 31)) &&& nI 1 = nI 0) ↔ bt x k = false := bt_has0 x hk
/-- the law's own arithmetic -/
def lowN (v : Int32) (n : Nat) : Nat := v.toBitVec.toNat % 2 ^ 31 % n
theorem lowN_lt (v : Int32) {n : Nat} (h : 0 < n) : lowN v n < n := Nat.mod_lt _ h
theorem low_and (v : Int32) : v &&& 2147483647 = nI (v.toBitVec.toNat % 2 ^ 31) := by
  have e : v = nI v.toBitVec.toNat := by
    apply Int32.toBitVec_inj.mp
    apply BitVec.eq_of_toNat_eq
    rw [sv_tn v.toBitVec.isLt]
  have h := pk_andN (n := v.toBitVec.toNat) v.toBitVec.isLt (m := 2147483647) 31 (by decide +kernel)
  rw [← e] at h
  exact h
theorem low_rem (v : Int32) {n : Nat} (h : 0 < n) (hn : n < 2 ^ 31) : (v &&& 2147483647) - (v &&& 2147483647) / nI n * nI n = nI (lowN v n) := by
  rw [low_and]
  exact pk_rem (Nat.mod_lt _ (by decide)) h hn
