theorem mS_n (M : sv_Mem) (s : Nat → Int32) : mS M s 9 9 0 = M 9 9 0 := mS_o M s (by omega)
theorem mS_f (M : sv_Mem) (s : Nat → Int32) : mS M s 9 4 0 = M 9 4 0 := mS_o M s (by omega)
theorem mN_s (M : sv_Mem) (s : Nat → Int32) : mN M s 9 5 0 = M 9 5 0 := mN_o M s (by omega)
theorem mN_f (M : sv_Mem) (s : Nat → Int32) : mN M s 9 4 0 = M 9 4 0 := mN_o M s (by omega)
/-- how many below n -/
def cnt (p : Nat → Prop) [DecidablePred p] : Nat → Nat
  | 0 => 0
  | n + 1 => cnt p n + if p n then 1 else 0
theorem cnt_le (p : Nat → Prop) [DecidablePred p] (n : Nat) : cnt p n ≤ n := by
  induction n with
  | zero => exact Nat.le_refl 0
  | succ n ih => unfold cnt; split <;> omega
theorem cnt_t {p : Nat → Prop} [DecidablePred p] {n : Nat} (h : p n) : cnt p (n + 1) = cnt p n + 1 := by
  show cnt p n + _ = _
  rw [if_pos h]
theorem cnt_f {p : Nat → Prop} [DecidablePred p] {n : Nat} (h : ¬ p n) : cnt p (n + 1) = cnt p n := by
  show cnt p n + _ = _
  rw [if_neg h]
  rfl
theorem cnt_congr {p q : Nat → Prop} [DecidablePred p] [DecidablePred q] {n : Nat} (h : ∀ k, k < n → (p k ↔ q k)) : cnt p n = cnt q n := by
  induction n with
  | zero => rfl
  | succ n ih =>
    unfold cnt
    rw [ih (fun k hk => h k (by omega))]
    by_cases hp : p n
    · rw [if_pos hp, if_pos ((h n (by omega)).mp hp)]
    · rw [if_neg hp, if_neg (fun z => hp ((h n (by omega)).mpr z))]
theorem fvR_congr {ck ck2 vb vb2 : Nat → Int32} {k k2 : Nat} {d d2 : Int32} : ∀ {c r : Nat}, (∀ i, r ≤ i → i < r + c → bt (ck i) k = bt (ck2 i) k2 ∧ (bt (ck2 i) k2 = true → vb i = vb2 i)) → d = d2 → fvR ck vb k d c r = fvR ck2 vb2 k2 d2 c r
  | 0, r, _, hd => hd
  | c + 1, r, h, hd => by
    unfold fvR
    obtain ⟨h1, h2⟩ := h r (by omega) (by omega)
    rw [h1]
    by_cases hb : bt (ck2 r) k2 = true
    · rw [if_pos hb, if_pos hb, h2 hb]
    · rw [if_neg hb, if_neg hb]
      exact fvR_congr (fun i hi hi2 => h i (by omega) (by omega)) hd
/-- the row of a moment is emptied -/
def fg1 (s : Nat → Int32) (a : Nat) : Nat → Int32 := va_up (va_up s (a + 0) (nI 0)) (a + 1) (nI 0)
def fgt (q : Nat) : Nat → Nat → (Nat → Int32) → (Nat → Int32)
  | 0, _, s => s
  | c + 1, r, s => fgt q c (r + 1) (fg1 s (rAt q r))
/-- c rows from r on go into the row of moment m -/
def mrg (q m : Nat) : Nat → Nat → (Nat → Int32) → (Nat → Int32)
  | 0, _, s => s
  | c + 1, r, s => mrg q m c (r + 1) (fg1 (jnF s s (rAt q m) (rAt q r)) (rAt q r))
def gbM (s : Nat → Int32) (q c m : Nat) : Nat → Int32
  | 0 => s (30 + q)
  | k + 1 => sm (gbM s q c m k) k (mbR s q k c m)
def gbV (s : Nat → Int32) (q c m k : Nat) : Nat → Int32 := fun n => if 8 ≤ n ∧ n < 8 + k then bfR s q (n - 8) c m else if n = 30 + q ∧ s 0 = 0 then gbM s q c m k else s n
def gbE (s : Nat → Int32) (q m : Nat) : Nat → Int32 := va_up (va_up (va_up s (rAt q m + 0) (nI 0)) (rAt q m + 1) (if s 0 = 0 then nI 0 else s (rAt q m + 1))) (27 + q) (nI m)
/-- goBack: all that it does to s -/
def gbF (s : Nat → Int32) (q m mq : Nat) : Nat → Int32 := gbE (mrg q m (mq - m) (m + 1) (gbV s q (mq + 1 - m) m 16)) q m
def clF (s : Nat → Int32) (q mq : Nat) : Nat → Int32 := va_up (va_up (va_up (fgt q (mq + 1) 0 s) (24 + q) (nI 0)) (27 + q) (nI 0)) (30 + q) (nI 0)
abbrev othP (s : Nat → Int32) (q m mq : Nat) : Nat → Prop := fun k => bfR s q k (mq + 1 - m) m ≠ s (8 + k)
abbrev othR (s : Nat → Int32) (q m mq : Nat) : Nat := cnt (othP s q m mq) 16
def nrR (f : Nat → Int32) (nm : Int32) : Nat → Int32
  | 0 => -5
  | c + 1 => if f c = nm then nI c else nrR f nm c
abbrev nmR (s : Nat → Int32) (q : Nat) (nm : Int32) (mq : Nat) : Int32 := nrR (fun p => s (33 + 12 * q + p)) nm mq
theorem fg1_out {s : Nat → Int32} {a n : Nat} (h : n < a ∨ a + 2 ≤ n) : fg1 s a n = s n := by
  unfold fg1
  rw [va_up_ne _ _ (by omega), va_up_ne _ _ (by omega)]
theorem fgt_lo {q : Nat} : ∀ {c r : Nat} {s : Nat → Int32} {n : Nat}, n < 69 → fgt q c r s n = s n
  | 0, _, _, _, _ => rfl
  | c + 1, r, s, n, h => by
    unfold fgt
    rw [fgt_lo h, fg1_out (by unfold rAt; omega)]
theorem jnF_out {to fr : Nat → Int32} {t f n : Nat} (h : n < t ∨ t + 19 ≤ n) : jnF to fr t f n = to n := by
  unfold jnF
  rw [va_up_ne _ _ (by omega), va_up_ne _ _ (by omega), jnP_out (by omega)]
theorem mrg_lo {q m : Nat} : ∀ {c r : Nat} {s : Nat → Int32} {n : Nat}, n < 69 → mrg q m c r s n = s n
  | 0, _, _, _, _ => rfl
  | c + 1, r, s, n, h => by
    unfold mrg
    rw [mrg_lo h, fg1_out (by unfold rAt; omega), jnF_out (by unfold rAt; omega)]

theorem fvR_isMd {ck vb : Nat → Int32} {k : Nat} {d : Int32} (hvb : ∀ r, isMd (vb r)) (hd : isMd d) : ∀ (c r : Nat), isMd (fvR ck vb k d c r)
  | 0, _ => hd
  | c + 1, r => by
    unfold fvR
    split
    · exact hvb r
    · exact fvR_isMd hvb hd c (r + 1)
theorem mbR_isMd (s : Nat → Int32) (q : Nat) {k : Nat} (c m : Nat) (hk : k < 16) : isMd (mbR s q k c m) := fvR_isMd (fun _ => isMd_md _ hk) (isMd_md _ hk) c m

theorem gbM_md (s : Nat → Int32) (q c m : Nat) : ∀ (k : Nat), k ≤ 16 → ∀ i, i < 16 → md (gbM s q c m k) i = if i < k then md (gbM s q c m k) i else md (s (30 + q)) i
  | 0, _, i, _ => by rw [if_neg (by omega)]; rfl
  | k + 1, hk, i, hi => by
    by_cases h : i < k + 1
    · rw [if_pos h]
    · rw [if_neg h]
      unfold gbM
      rw [md_sm _ _ (by omega) hi (mbR_isMd s q c m (by omega)), if_neg (by omega), gbM_md s q c m k (by omega) i hi, if_neg (by omega)]

theorem gbM_hi (s : Nat → Int32) (q c m : Nat) {k : Nat} (hk : k < 16) : md (gbM s q c m k) k = md (s (30 + q)) k := by
  rw [gbM_md s q c m k (by omega) k hk, if_neg (by omega)]
theorem gbV_0 (s : Nat → Int32) (q c m : Nat) : gbV s q c m 0 = s := by
  funext n
  unfold gbV
  rw [if_neg (by omega)]
  split <;> rename_i h
  · rw [h.1]; rfl
  · rfl
theorem gbV_hi {s : Nat → Int32} {q c m k n : Nat} (h : n < 8 ∨ 8 + k ≤ n) (h2 : n ≠ 30 + q) : gbV s q c m k n = s n := by
  unfold gbV
  rw [if_neg (by omega), if_neg (fun z => h2 z.1)]
theorem gbV_30 {s : Nat → Int32} {q c m k : Nat} (hk : k ≤ 16) : gbV s q c m k (30 + q) = if s 0 = 0 then gbM s q c m k else s (30 + q) := by
  unfold gbV
  rw [if_neg (by omega)]
  by_cases h : s 0 = 0
  · rw [if_pos ⟨rfl, h⟩, if_pos h]
  · rw [if_neg (fun z => h z.2), if_neg h]
theorem gbV_md30 {s : Nat → Int32} {q c m k : Nat} (hk : k < 16) : md (gbV s q c m k (30 + q)) k = md (s (30 + q)) k := by
  rw [gbV_30 (by omega)]
  split
  · exact gbM_hi s q c m hk
  · rfl
theorem gbV_bf {s : Nat → Int32} {q c m k : Nat} (hk : k < 16) (hq : q < 3) (c2 m2 : Nat) : bfR (gbV s q c m k) q k c2 m2 = bfR s q k c2 m2 :=
  fvR_congr (fun i _ _ => by
    constructor
    · show bt (gbV s q c m k _) k = _
      rw [gbV_hi (by unfold rAt; omega) (by unfold rAt; omega)]
    · intro _
      exact gbV_hi (by unfold rAt; omega) (by unfold rAt; omega)) (gbV_hi (by omega) (by omega))
theorem gbV_mb {s : Nat → Int32} {q c m k : Nat} (hk : k < 16) (hq : q < 3) (c2 m2 : Nat) (v : Int32) : mbR (va_up (gbV s q c m k) (8 + k) v) q k c2 m2 = mbR s q k c2 m2 :=
  fvR_congr (fun i _ _ => by
    constructor
    · show bt (va_up _ _ _ _) k = _
      rw [va_up_ne _ _ (by unfold rAt; omega), gbV_hi (by unfold rAt; omega) (by unfold rAt; omega)]
    · intro _
      show md (va_up _ _ _ _) k = _
      rw [va_up_ne _ _ (by unfold rAt; omega), gbV_hi (by unfold rAt; omega) (by unfold rAt; omega)]) (by rw [va_up_ne _ _ (by omega)]; exact gbV_md30 hk)
theorem gbV_step {s : Nat → Int32} {q c m k : Nat} (hk : k < 16) (hq : q < 3) : gbV s q c m (k + 1) = if s 0 = 0 then va_up (va_up (gbV s q c m k) (8 + k) (bfR s q k c m)) (30 + q) (sm (gbV s q c m k (30 + q)) k (mbR s q k c m)) else va_up (gbV s q c m k) (8 + k) (bfR s q k c m) := by
  funext n
  by_cases h0 : s 0 = 0
  · rw [if_pos h0]
    by_cases h1 : n = 30 + q
    · subst h1
      rw [va_up_self, gbV_30 (by omega), if_pos h0, gbV_30 (by omega), if_pos h0]
      rfl
    · rw [va_up_ne _ _ h1]
      by_cases h2 : n = 8 + k
      · subst h2
        rw [va_up_self]
        unfold gbV
        rw [if_pos (by omega), show 8 + k - 8 = k by omega]
      · rw [va_up_ne _ _ h2]
        unfold gbV
        by_cases h3 : 8 ≤ n ∧ n < 8 + k
        · rw [if_pos h3, if_pos (by omega)]
        · rw [if_neg h3, if_neg (by omega), if_neg (fun z => h1 z.1), if_neg (fun z => h1 z.1)]
  · rw [if_neg h0]
    by_cases h2 : n = 8 + k
    · subst h2
      rw [va_up_self]
      unfold gbV
      rw [if_pos (by omega), show 8 + k - 8 = k by omega]
    · rw [va_up_ne _ _ h2]
      unfold gbV
      by_cases h3 : 8 ≤ n ∧ n < 8 + k
      · rw [if_pos h3, if_pos (by omega)]
      · rw [if_neg h3, if_neg (by omega), if_neg (fun z => h0 z.2), if_neg (fun z => h0 z.2)]

set_option maxHeartbeats 4000000 in
set_option maxRecDepth 100000 in
theorem c_X4_others {G : sv_G} {M : sv_Mem} {q m mq : Nat} (hq : q < 3) (hm : m ≤ mq + 1) (hmq : M 9 5 0 (27 + q) = nI mq) (hmq2 : mq ≤ 12) : sv_Ct G M_X4_others 2 [.ref (sv_ad G 4 9 0), .int (nI q), .int (nI m)] M (some (.int (nI (othR (M 9 5 0) q m mq)))) (M) := by
  refine sv_Ct_of (lo := [some (.ref (sv_ad G 4 9 0)), some (.int (nI q)), some (.int (nI m)), none, none]) (pn_X4) rfl (Nat.le_of_ble_eq_true rfl) rfl (fun K X Y => ?_)
  replace X : sv_X G K cX4_others RX4 5 2 := X
  replace Y : sv_Y G K (some .int) _ _ := Y
  show sw_W G K 5 0 _ _ _
  have L : ∀ r, r ≤ 16 → (fun r => ∀ x, x = nI (cnt (othP (M 9 5 0) q m mq) r) → sw_W G K 5 5 [some (.ref (sv_ad G 4 9 0)), some (.int (nI q)), some (.int (nI m)), some (.int x), some (.int (nI r))] [] M) r := by
    refine up_ind (N := 16) (P := fun r => ∀ x, x = nI (cnt (othP (M 9 5 0) q m mq) r) → sw_W G K 5 5 [some (.ref (sv_ad G 4 9 0)), some (.int (nI q)), some (.int (nI m)), some (.int x), some (.int (nI r))] [] M) ?_
    intro r hr ih x hx
    refine sw_iload_4 X dX4_others_5 ?_
    refine sw_bipush X (nI 16) dX4_others_7 (by decide) ?_
    refine sw_icmp_ge X 47 dX4_others_9 (by decide) (fun h9 => ?_) (fun h9 => ?_)
    ·
      have e : r = 16 := by have := (nI_leI (by omega) (by omega)).mp h9; omega
      subst e
      refine sw_iload_3 X dX4_others_47 ?_
      exact sw_iret X Y dX4_others_48 (ri_of hx.symm) (rfl)
    ·
      have hr3 : r < 16 := by have := mt (nI_leI (by omega) (by omega)).mpr h9; omega
      refine sw_iload_3 X dX4_others_12 ?_
      refine sw_aload_0 X dX4_others_13 ?_
      refine sw_iload_1 X dX4_others_14 ?_
      refine sw_iload_2 X dX4_others_15 ?_
      refine sw_iload_4 X dX4_others_16 ?_
      refine ca_X4_51 X (by decide) dX4_others_18 (Nat.le_of_ble_eq_true rfl) (c_X4_before hq hr3 hm hmq hmq2) ?_
      refine sw_aload_0 X dX4_others_21 ?_
      refine gf_X4_7 X dX4_others_22 ?_
      refine sw_bipush X (nI 8) dX4_others_25 (by decide) ?_
      refine sw_iload_4 X dX4_others_27 ?_
      refine sw_iadd X dX4_others_29 ?_
      try refine sw_tope (nI_add _ _) ?_
      refine ia_5 X rfl (by omega) dX4_others_30 ?_
      refine sw_icmp_eq X 38 dX4_others_31 (by decide) (fun h31 => ?_) (fun h31 => ?_)
      ·
        refine sw_iconst X (nI 0) dX4_others_38 (by decide) ?_
        rw [hx]
        refine sw_iadd X dX4_others_39 ?_
        try refine sw_tope (nI_add _ _) ?_
        refine sw_istore_3 X dX4_others_40 trivial ?_
        first | refine sw_inc1_4 X dX4_others_41 trivial ?_ | refine sw_iinc_4 X _ dX4_others_41 rfl trivial ?_
        refine sw_goto X 5 dX4_others_44 (by decide) ?_
        exact ih (r + 1) (by omega) (by omega) _ (by first | exact congrArg nI (cnt_t h31).symm | exact congrArg nI (cnt_f (fun z => z h31)).symm)
      ·
        refine sw_iconst X (nI 1) dX4_others_34 (by decide) ?_
        refine sw_goto X 39 dX4_others_35 (by decide) ?_
        rw [hx]
        refine sw_iadd X dX4_others_39 ?_
        try refine sw_tope (nI_add _ _) ?_
        refine sw_istore_3 X dX4_others_40 trivial ?_
        first | refine sw_inc1_4 X dX4_others_41 trivial ?_ | refine sw_iinc_4 X _ dX4_others_41 rfl trivial ?_
        refine sw_goto X 5 dX4_others_44 (by decide) ?_
        exact ih (r + 1) (by omega) (by omega) _ (by first | exact congrArg nI (cnt_t h31).symm | exact congrArg nI (cnt_f (fun z => z h31)).symm)
  refine sw_iconst X (nI 0) dX4_others_0 (by decide) ?_
  refine sw_istore_3 X dX4_others_1 trivial ?_
  refine sw_iconst X (nI 0) dX4_others_2 (by decide) ?_
  refine sw_istore_4 X dX4_others_3 trivial ?_
  exact L 0 (by omega) _ rfl
