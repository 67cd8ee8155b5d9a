/-! a session's modes, changes and values, key by key -/
theorem nJ {a b : Nat} (ha : a < 2 ^ 31) (hb : b < 2 ^ 31) (h : nI a = nI b) : a = b := by
  have := congrArg Int32.toInt h
  rw [nI_toInt ha, nI_toInt hb] at this
  omega
/-- the mode of a key, as a number -/
def mm (x : Int32) (k : Nat) : Nat := (if bt x (2 * k) = true then 1 else 0) + (if bt x (2 * k + 1) = true then 2 else 0)
theorem mm_lt (x : Int32) (k : Nat) : mm x k < 4 := by unfold mm; split <;> split <;> omega
theorem bt_n4 : ∀ n, n < 4 → ∀ i, i < 32 → bt (nI n) i = ((decide (i = 0) && decide (n % 2 = 1)) || (decide (i = 1) && decide (2 ≤ n))) := by decide +kernel
theorem md_mm (x : Int32) {k : Nat} (hk : k < 16) : md x k = nI (mm x k) := by
  apply bt_ext
  intro i hi
  rw [md_bt x hk hi, bt_n4 _ (mm_lt x k) i hi]
  unfold mm
  by_cases h0 : i = 0
  · subst h0
    cases e0 : bt x (2 * k) <;> cases e1 : bt x (2 * k + 1) <;> simp [e0]
  · by_cases h1 : i = 1
    · subst h1
      cases e0 : bt x (2 * k) <;> cases e1 : bt x (2 * k + 1) <;> simp [e1]
    · have h2 : ¬ i < 2 := by omega
      simp [h0, h1, h2]
theorem mm_ext {x y : Int32} (h : ∀ k, k < 16 → mm x k = mm y k) : x = y := md_ext (fun k hk => by rw [md_mm x hk, md_mm y hk, h k hk])
theorem isMd_n {v : Nat} (hv : v < 4) : isMd (nI v) := fun i hi h2 => by
  rw [bt_n4 v hv i hi]
  simp [show i ≠ 0 by omega, show i ≠ 1 by omega]
theorem mm_of {x : Int32} {k n : Nat} (hk : k < 16) (hn : n < 2 ^ 31) (h : md x k = nI n) : mm x k = n := by
  rw [md_mm x hk] at h
  exact nJ (by have := mm_lt x k; omega) hn h
theorem md_iff {x : Int32} {k n : Nat} (hk : k < 16) (hn : n < 2 ^ 31) : md x k = nI n ↔ mm x k = n := ⟨mm_of hk hn, fun h => by rw [md_mm x hk, h]⟩
theorem mm_sm (x : Int32) {k q v : Nat} (hk : k < 16) (hq : q < 16) (hv : v < 4) : mm (sm x k (nI v)) q = if q = k then v else mm x q := by
  have h := md_sm x (nI v) hk hq (isMd_n hv)
  by_cases e : q = k
  · rw [if_pos e] at h ⊢
    exact mm_of hq (by omega) h
  · rw [if_neg e, md_mm x hq] at h
    rw [if_neg e]
    exact mm_of hq (by have := mm_lt x q; omega) h
theorem mm_0 (k : Nat) : mm (nI 0) k = 0 := by unfold mm; rw [bt_0, bt_0]; rfl
theorem busy_n {T : sv_T} {q k n : Nat} (hk : k < 16) (hn : n = 1 ∨ n = 2) : busyC T q k (nI n) ↔ (mm (T 14 q 1) k < n ∧ ∃ o, o < 3 ∧ o ≠ q ∧ 2 - n < mm (T 14 o 1) k) := by
  have e : (if nI n = nI 1 then nI 1 else nI 0) = nI (2 - n) := by rcases hn with rfl | rfl <;> decide
  have l := mm_lt (T 14 q 1) k
  have h1 : nI n ≤ md (T 14 q 1) k ↔ n ≤ mm (T 14 q 1) k := by rw [md_mm _ hk]; exact nI_leI (by omega) (by omega)
  have h2 : ∀ o, nI (2 - n) < md (T 14 o 1) k ↔ 2 - n < mm (T 14 o 1) k := fun o => by
    have lo := mm_lt (T 14 o 1) k
    rw [md_mm _ hk]
    exact nI_ltI (by omega) (by omega)
  constructor
  · rintro ⟨a, o, b, c, d⟩
    rw [e] at d
    exact ⟨by have := mt h1.mpr a; omega, o, b, c, (h2 o).mp d⟩
  · rintro ⟨a, o, b, c, d⟩
    exact ⟨fun z => by have := h1.mp z; omega, o, b, c, by rw [e]; exact (h2 o).mpr d⟩
theorem lk_w {T : sv_T} {q k n : Nat} (hk : k < 16) (hn : n < 4) {k2 : Nat} (hk2 : k2 < 16) : mm (lkT T q k (nI n) 14 q 1) k2 = if k2 = k then max n (mm (T 14 q 1) k) else mm (T 14 q 1) k2 := by
  have l := mm_lt (T 14 q 1) k
  have h1 : md (T 14 q 1) k < nI n ↔ mm (T 14 q 1) k < n := by rw [md_mm _ hk]; exact nI_ltI (by omega) (by omega)
  unfold lkT
  by_cases h : mm (T 14 q 1) k < n
  · rw [if_pos (h1.mpr h), tu_self, mm_sm _ hk hk2 hn]
    by_cases e : k2 = k
    · rw [if_pos e, if_pos e]; omega
    · rw [if_neg e, if_neg e]
  · rw [if_neg (mt h1.mp h)]
    by_cases e : k2 = k
    · rw [if_pos e, e]; omega
    · rw [if_neg e]
/-- a value, or none -/
def vo (v : Int32) : Prop := v = -5 ∨ inR v (nI 0) (nI 9999)
/-- one key of one session: its modes grow from moment to moment, a changed key has the mode 2 from then on -/
def KO (T : sv_T) (q c k : Nat) : Prop := mm (T 14 q 1) k ≤ 2 ∧ ∀ r, r < c → mm (LA T q c r) k ≤ mm (LA T q c (r + 1)) k ∧ (bt (T 17 q r) k = true → mm (LA T q c (r + 1)) k = 2 ∧ vo (T 18 q (r * 16 + k)))
theorem KO_ch {T : sv_T} {q c k : Nat} (h : KO T q c k) : ∀ n r, r + n ≤ c → mm (LA T q c r) k ≤ mm (LA T q c (r + n)) k
  | 0, r, _ => Nat.le_refl _
  | n + 1, r, hr => Nat.le_trans (KO_ch h n r (by omega)) (h.2 (r + n) (by omega)).1
theorem KO_le {T : sv_T} {q c k : Nat} (h : KO T q c k) {r : Nat} (hr : r ≤ c) : mm (LA T q c r) k ≤ mm (T 14 q 1) k := by
  have := KO_ch h (c - r) r (by omega)
  rw [show r + (c - r) = c by omega, LA_ge (Nat.le_refl c)] at this
  exact this
theorem KO_two {T : sv_T} {q c k : Nat} (h : KO T q c k) {r : Nat} (hr : r < c) (hb : bt (T 17 q r) k = true) : mm (T 14 q 1) k = 2 := by
  have h1 := ((h.2 r hr).2 hb).1
  have h2 := KO_le h (r := r + 1) (by omega)
  have h3 := h.1
  omega
def SO (T : sv_T) (q c : Nat) : Prop := T 14 q 0 = nI c ∧ (c = 0 → T 14 q 1 = nI 0) ∧ (∀ k, k < 16 → KO T q c k) ∧ (∀ r, r < c → hi0 (T 17 q r))
def NO (T : sv_T) (q n : Nat) : Prop := ∀ p, p < n → ∃ a, a < 8 ∧ T 16 q p = nI a
def EX (T : sv_T) : Prop := ∀ q q2 k, q < 3 → q2 < 3 → q ≠ q2 → k < 16 → mm (T 14 q 1) k = 2 → mm (T 14 q2 1) k = 0
def VO (T : sv_T) : Prop := ∀ k, k < 16 → vo (T 11 0 k)
def KP (T : sv_T) : Prop := T 10 0 0 = nI 0 ∨ T 10 0 0 = nI 1
def SI (T : sv_T) (cs : Nat → Nat) : Prop := KP T ∧ VO T ∧ (∀ q, q < 3 → cs q ≤ 13 ∧ SO T q (cs q) ∧ NO T q (cs q - 1)) ∧ EX T
theorem SO_congr {T T2 : sv_T} {q c : Nat} (h : SO T q c) (h0 : ∀ k n, 14 ≤ k → T2 k q n = T k q n) : SO T2 q c := by
  have e : ∀ k, 14 ≤ k → T2 k q = T k q := fun k hk => funext (fun n => h0 k n hk)
  unfold SO KO LA at *
  rw [e 14 (by omega), e 15 (by omega), e 17 (by omega), e 18 (by omega)]
  exact h
/-- the first n moments, with locks between -/
theorem SO_cut {T D : sv_T} {q c n : Nat} (h : SO T q c) (hn : n ≤ c) (hz : n = 0 → D 14 q 1 = nI 0) (h0 : D 14 q 0 = nI n) (h15 : ∀ r, r < n → D 15 q r = T 15 q r)
    (h17 : ∀ r, r < n → D 17 q r = nI 0 ∨ (D 17 q r = T 17 q r ∧ (∀ k, k < 16 → D 18 q (r * 16 + k) = T 18 q (r * 16 + k)) ∧ (r + 1 = n → ∀ k, k < 16 → mm (LA T q c n) k ≤ mm (D 14 q 1) k)))
    (hL : ∀ r, r + 1 = n → ∀ k, k < 16 → mm (LA T q c r) k ≤ mm (D 14 q 1) k) (hU : ∀ k, k < 16 → mm (D 14 q 1) k ≤ mm (T 14 q 1) k) : SO D q n := by
  obtain ⟨g0, g1, g2, g3⟩ := h
  refine ⟨h0, hz, fun k hk => ⟨Nat.le_trans (hU k hk) (g2 k hk).1, fun r hr => ?_⟩, fun r hr => ?_⟩
  · have K := g2 k hk
    have eL : LA D q n r = LA T q c r := by rw [LA_lt hr, LA_lt (by omega), h15 r hr]
    rw [eL]
    by_cases hr1 : r + 1 = n
    · have eN : LA D q n (r + 1) = D 14 q 1 := LA_ge (by omega)
      rw [eN]
      refine ⟨hL r hr1 k hk, fun hb => ?_⟩
      rcases h17 r hr with e | ⟨e, e18, e2⟩
      · rw [e, bt_0] at hb; cases hb
      · rw [e] at hb
        have h1 := (K.2 r (by omega)).2 hb
        have h2 := e2 hr1 k hk
        have h3 := hU k hk
        have h4 := K.1
        rw [hr1] at h1
        exact ⟨by omega, by rw [e18 k hk]; exact h1.2⟩
    · have eN : LA D q n (r + 1) = LA T q c (r + 1) := by rw [LA_lt (by omega), LA_lt (by omega), h15 _ (by omega)]
      rw [eN]
      refine ⟨(K.2 r (by omega)).1, fun hb => ?_⟩
      rcases h17 r hr with e | ⟨e, e18, e2⟩
      · rw [e, bt_0] at hb; cases hb
      · rw [e] at hb
        have h1 := (K.2 r (by omega)).2 hb
        exact ⟨h1.1, by rw [e18 k hk]; exact h1.2⟩
  · rcases h17 r hr with e | ⟨e, -, -⟩
    · rw [e]; exact hi0_0
    · rw [e]; exact g3 r (by omega)
theorem EX_le {T D : sv_T} (h : EX T) (h2 : ∀ q, q < 3 → ∀ k, k < 16 → mm (T 14 q 1) k ≤ 2) (hU : ∀ q, q < 3 → ∀ k, k < 16 → mm (D 14 q 1) k ≤ mm (T 14 q 1) k) : EX D := by
  intro q q2 k hq hq2 hne hk hm
  have a1 := hU q hq k hk
  have a2 := h2 q hq k hk
  have a3 := h q q2 k hq hq2 hne hk (by omega)
  have a4 := hU q2 hq2 k hk
  omega
theorem SI_2 {T : sv_T} {cs : Nat → Nat} (h : SI T cs) : ∀ q, q < 3 → ∀ k, k < 16 → mm (T 14 q 1) k ≤ 2 := fun q hq k hk => ((h.2.2.1 q hq).2.1.2.2.1 k hk).1
/-! undoing -/
theorem unT_11 {T : sv_T} {q m c k : Nat} (hk : k < 16) : unT T q m c 11 0 k = vaR T q k (T 11 0 k) c m := by
  have e : ufT T q m c 11 0 k = vaR T q k (T 11 0 k) c m := by
    unfold ufT
    rw [fcT_ne (by omega)]
    unfold uvT
    rw [tA_at, if_pos hk]
  unfold unT
  split
  · rw [tu_ne _ _ _ (by omega)]; exact e
  · exact e
theorem unT_17 {T : sv_T} {q m c r : Nat} (hm : m ≤ c) : unT T q m c 17 q r = if m ≤ r ∧ r < c then nI 0 else T 17 q r := by
  have e : ufT T q m c 17 q r = if m ≤ r ∧ r < c then nI 0 else T 17 q r := by
    unfold ufT
    rw [fcT_17, uvT_ne (by omega), show m + (c - m) = c by omega]
  unfold unT
  split
  · rw [tu_ne _ _ _ (by omega)]; exact e
  · exact e
theorem unT_141 {T : sv_T} {q m c : Nat} : unT T q m c 14 q 1 = if T 10 0 0 = nI 0 then T 15 q m else T 14 q 1 := by
  unfold unT
  split
  · rw [tu_self]
  · unfold ufT
    rw [fcT_ne (by omega), uvT_ne (by omega)]
theorem fv_vo {f v : Nat → Int32} {k : Nat} {d : Int32} (hd : vo d) : ∀ (c m : Nat), (∀ r, m ≤ r → r < m + c → bt (f r) k = true → vo (v r)) → vo (fvR f v k d c m)
  | 0, _, _ => hd
  | c + 1, m, h => by
    unfold fvR
    split
    · rename_i hb
      exact h m (by omega) (by omega) hb
    · exact fv_vo hd c (m + 1) (fun r h1 h2 => h r (by omega) (by omega))
theorem fv_no {f v : Nat → Int32} {k : Nat} {d : Int32} : ∀ (c m : Nat), (∀ r, m ≤ r → r < m + c → ¬ bt (f r) k = true) → fvR f v k d c m = d
  | 0, _, _ => rfl
  | c + 1, m, h => by
    unfold fvR
    rw [if_neg (h m (by omega) (by omega))]
    exact fv_no c (m + 1) (fun r h1 h2 => h r (by omega) (by omega))
theorem va_vo {T : sv_T} {q c m k : Nat} (h : KO T q c k) (hm : m ≤ c) {pr : Int32} (hp : vo pr) : vo (vaR T q k pr c m) := fv_vo hp _ _ (fun r h1 h2 hb => ((h.2 r (by omega)).2 hb).2)
/-- who hasn't the mode 2 hasn't changed it -/
theorem va_id {T : sv_T} {q c m k : Nat} (h : KO T q c k) (hm : m ≤ c) (h2 : mm (T 14 q 1) k ≠ 2) (pr : Int32) : vaR T q k pr c m = pr := fv_no _ _ (fun r h1 h3 hb => h2 (KO_two h (r := r) (by omega) hb))
/-- undone to the moment m, the moments behind it gone -/
theorem un_SO {T : sv_T} {q m c : Nat} (h : SO T q c) (hm : m < c) : SO (drT (unT T q m c) q m c) q (m + 1) := by
  have hz : drR q m (c - (m + 1)) (m + 1) (unT T q m c) = unT T q m c := drR_z _ _ _ (fun r h1 h2 => by rw [unT_17 (by omega), if_pos (by omega)])
  have e : drT (unT T q m c) q m c = tu (unT T q m c) 14 q 0 (nI (m + 1)) := by unfold drT; rw [hz]
  have e141 : drT (unT T q m c) q m c 14 q 1 = if T 10 0 0 = nI 0 then T 15 q m else T 14 q 1 := by rw [e, tu_n _ _ (by omega), unT_141]
  have hLm : LA T q c m = T 15 q m := LA_lt hm
  refine SO_cut h (by omega) (fun z => by omega) (by rw [e, tu_self]) (fun r hr => ?_) (fun r hr => ?_) (fun r hr k hk => ?_) (fun k hk => ?_)
  · rw [e, tu_ne _ _ _ (by omega), unT_ne (by omega) (by omega) (by omega)]
  · rw [e, tu_ne _ _ _ (by omega), unT_17 (by omega)]
    by_cases hr2 : r = m
    · rw [if_pos (by omega)]; exact Or.inl rfl
    · rw [if_neg (by omega)]
      exact Or.inr ⟨rfl, fun k hk => by rw [tu_ne _ _ _ (by omega), unT_ne (by omega) (by omega) (by omega)], fun z => by omega⟩
  · obtain rfl : r = m := by omega
    rw [e141]
    split
    · rw [hLm]; exact Nat.le_refl _
    · exact KO_le (h.2.2.1 k hk) (by omega)
  · rw [e141]
    split
    · rw [← hLm]; exact KO_le (h.2.2.1 k hk) (by omega)
    · exact Nat.le_refl _
/-- rows that are merged -/
theorem drR_row {j m : Nat} : ∀ (c r : Nat) (T : sv_T), m < r → ∀ i, i < 32 → bt (drR j m c r T 17 j m) i = true → bt (T 17 j m) i = true ∨ ∃ s, r ≤ s ∧ s < r + c ∧ bt (T 17 j s) i = true
  | 0, r, T, _, i, _, h => Or.inl h
  | c + 1, r, T, hm, i, hi, h => by
    unfold drR at h
    rcases drR_row c (r + 1) _ (by omega) i hi h with h | ⟨s, h1, h2, h3⟩
    · rw [drK_17m T j m r (by omega) 16 (by omega) i hi] at h
      rcases Bool.or_eq_true_iff.mp h with h | h
      · exact Or.inl h
      · exact Or.inr ⟨r, by omega, by omega, (Bool.and_eq_true_iff.mp h).2⟩
    · rw [drK_17 (by omega)] at h3
      exact Or.inr ⟨s, by omega, by omega, h3⟩
theorem drR_vo {j m k : Nat} (hk : k < 16) : ∀ (c r : Nat) (T : sv_T), m < r → (bt (T 17 j m) k = true → vo (T 18 j (m * 16 + k))) → (∀ s, r ≤ s → s < r + c → bt (T 17 j s) k = true → vo (T 18 j (s * 16 + k))) → bt (drR j m c r T 17 j m) k = true → vo (drR j m c r T 18 j (m * 16 + k))
  | 0, r, T, _, h, _, hb => h hb
  | c + 1, r, T, hm, h, hs, hb => by
    unfold drR at hb ⊢
    refine drR_vo hk c (r + 1) _ (by omega) (fun hb2 => ?_) (fun s h1 h2 hb2 => ?_) hb
    · rw [drK_18m T j m r (by omega) 16 (by omega) k hk]
      split
      · rename_i g
        exact hs r (by omega) (by omega) g.2.1
      · rename_i g
        rw [drK_17m T j m r (by omega) 16 (by omega) k (by omega)] at hb2
        rcases Bool.or_eq_true_iff.mp hb2 with g2 | g2
        · exact h g2
        · by_cases g3 : bt (T 17 j m) k = true
          · exact h g3
          · exact absurd ⟨hk, (Bool.and_eq_true_iff.mp g2).2, g3⟩ g
    · rw [drK_17 (by omega)] at hb2
      rw [drK_18 16 (by omega)]
      exact hs s (by omega) (by omega) hb2
theorem dr_SO {T : sv_T} {q m c : Nat} (h : SO T q c) (hm : m < c) : SO (drT T q m c) q (m + 1) := by
  obtain ⟨g0, g1, g2, g3⟩ := h
  have e17 : ∀ r, drT T q m c 17 q r = drR q m (c - (m + 1)) (m + 1) T 17 q r := fun r => by unfold drT; rw [tu_ne _ _ _ (by omega)]
  have e18 : ∀ n, drT T q m c 18 q n = drR q m (c - (m + 1)) (m + 1) T 18 q n := fun n => by unfold drT; rw [tu_ne _ _ _ (by omega)]
  have e15 : ∀ r, drT T q m c 15 q r = T 15 q r := fun r => drT_ne (by omega) (by omega)
  have e14 : drT T q m c 14 q 1 = T 14 q 1 := drT_ne (by omega) (by omega)
  have eL : ∀ r, r ≤ m → LA (drT T q m c) q (m + 1) r = LA T q c r := fun r hr => by rw [LA_lt (by omega), LA_lt (by omega), e15]
  have eN : LA (drT T q m c) q (m + 1) (m + 1) = T 14 q 1 := by rw [LA_ge (by omega), e14]
  refine ⟨by unfold drT; rw [tu_self], fun z => by omega, fun k hk => ⟨by rw [e14]; exact (g2 k hk).1, fun r hr => ?_⟩, fun r hr => ?_⟩
  · have K := g2 k hk
    by_cases hrm : r = m
    · subst hrm
      rw [eL r (by omega), eN, e17, e18]
      refine ⟨KO_le K (by omega), fun hb => ⟨?_, ?_⟩⟩
      · rcases drR_row _ _ _ (by omega) k (by omega) hb with hb | ⟨s, h1, h2, hb⟩
        · exact KO_two K (by omega) hb
        · exact KO_two K (by omega) hb
      · exact drR_vo hk _ _ _ (by omega) (fun z => ((K.2 r hm).2 z).2) (fun s h1 h2 z => ((K.2 s (by omega)).2 z).2) hb
    · rw [eL r (by omega), eL (r + 1) (by omega), e17, e18, drR_17 (by omega), drR_18 (by omega)]
      exact K.2 r (by omega)
  · rw [e17]
    by_cases hrm : r = m
    · subst hrm
      intro i h1 h2
      cases hb : bt (drR q r (c - (r + 1)) (r + 1) T 17 q r) i with
      | false => rfl
      | true =>
        rcases drR_row _ _ _ (by omega) i h2 hb with hb | ⟨s, h3, h4, hb⟩
        · rw [g3 r hm i h1 h2] at hb; cases hb
        · rw [g3 s (by omega) i h1 h2] at hb; cases hb
    · rw [drR_17 (by omega)]
      exact g3 r (by omega)
