/-- reads and writes of the reference's rows: s, now; its single ints -/
def mS (M : sv_Mem) (s : Nat → Int32) : sv_Mem := sv_upA M 9 5 0 s
def mN (M : sv_Mem) (n : Nat → Int32) : sv_Mem := sv_upA M 9 9 0 n
theorem sv_up_A (M : sv_Mem) (i k j n : Nat) (v : Int32) : sv_up M i k j n v = sv_upA M i k j (va_up (M i k j) n v) := rfl
theorem va_up_up {α : Type} (f : Nat → α) (k : Nat) (v w : α) : va_up (va_up f k v) k w = va_up f k w := by
  funext j
  unfold va_up
  split <;> rfl
theorem va_up_id {α : Type} (f : Nat → α) (k : Nat) : va_up f k (f k) = f := by
  funext j
  unfold va_up
  split <;> rename_i h
  · rw [h]
  · rfl
theorem va_up_comm {α : Type} (f : Nat → α) {k q : Nat} (v w : α) (h : k ≠ q) : va_up (va_up f k v) q w = va_up (va_up f q w) k v := by
  funext j
  unfold va_up
  by_cases h1 : j = q <;> by_cases h2 : j = k <;> simp only [h1, h2, if_pos, if_false]
  · exact absurd (h2.symm.trans h1) h
  · rw [if_neg (fun e => h2 (h1.trans e))]
  · rw [if_neg (fun e => h1 (h2.trans e))]
theorem sv_upA_upA (M : sv_Mem) (i k j : Nat) (f g : Nat → Int32) : sv_upA (sv_upA M i k j f) i k j g = sv_upA M i k j g := by
  unfold sv_upA
  simp only [va_up_self, va_up_up]
theorem sv_upA_id (M : sv_Mem) (i k j : Nat) : sv_upA M i k j (M i k j) = M := by
  unfold sv_upA
  simp only [va_up_id]
theorem sv_upA_get (M : sv_Mem) {i k j i2 k2 j2 : Nat} (f : Nat → Int32) (h : ¬ (k2 = k ∧ i2 = i ∧ j2 = j)) : sv_upA M i k j f i2 k2 j2 = M i2 k2 j2 := sv_upA_ne M i k j f k2 i2 j2 h
theorem sv_mem_ext {M M2 : sv_Mem} (h : ∀ i k j, M i k j = M2 i k j) : M = M2 := by
  funext i k j
  exact h i k j
theorem sv_upA_at2 (M : sv_Mem) (i k j : Nat) (f : Nat → Int32) (i2 k2 j2 : Nat) : sv_upA M i k j f i2 k2 j2 = if k2 = k ∧ i2 = i ∧ j2 = j then f else M i2 k2 j2 := by
  split <;> rename_i h
  · obtain ⟨rfl, rfl, rfl⟩ := h
    exact sv_upA_at ..
  · exact sv_upA_get M f h
theorem sv_upA_comm (M : sv_Mem) {i k j i2 k2 j2 : Nat} (f g : Nat → Int32) (h : ¬ (k2 = k ∧ i2 = i ∧ j2 = j)) : sv_upA (sv_upA M i k j f) i2 k2 j2 g = sv_upA (sv_upA M i2 k2 j2 g) i k j f := by
  apply sv_mem_ext
  intro a b c
  simp only [sv_upA_at2]
  by_cases h1 : b = k2 ∧ a = i2 ∧ c = j2
  · rw [if_pos h1, if_neg (fun z => h (by obtain ⟨a1, a2, a3⟩ := h1; obtain ⟨b1, b2, b3⟩ := z; omega)), if_pos h1]
  · rw [if_neg h1, if_neg h1]
theorem mN_mS (M : sv_Mem) (s n : Nat → Int32) : mN (mS M s) n = mS (mN M n) s := sv_upA_comm M s n (by omega)
theorem mS_mS (M : sv_Mem) (s t : Nat → Int32) : mS (mS M s) t = mS M t := sv_upA_upA ..
theorem mN_mN (M : sv_Mem) (s t : Nat → Int32) : mN (mN M s) t = mN M t := sv_upA_upA ..
theorem mS_s (M : sv_Mem) (s : Nat → Int32) : mS M s 9 5 0 = s := sv_upA_at ..
theorem mN_n (M : sv_Mem) (s : Nat → Int32) : mN M s 9 9 0 = s := sv_upA_at ..
theorem mS_o (M : sv_Mem) (s : Nat → Int32) {i k j : Nat} (h : ¬ (k = 5 ∧ i = 9 ∧ j = 0)) : mS M s i k j = M i k j := sv_upA_get M s h
theorem mN_o (M : sv_Mem) (s : Nat → Int32) {i k j : Nat} (h : ¬ (k = 9 ∧ i = 9 ∧ j = 0)) : mN M s i k j = M i k j := sv_upA_get M s h
theorem mS_id (M : sv_Mem) : mS M (M 9 5 0) = M := sv_upA_id ..
theorem mN_id (M : sv_Mem) : mN M (M 9 9 0) = M := sv_upA_id ..
theorem up5 (M : sv_Mem) (n : Nat) (v : Int32) : sv_up M 9 5 0 n v = mS M (va_up (M 9 5 0) n v) := rfl
theorem up9 (M : sv_Mem) (n : Nat) (v : Int32) : sv_up M 9 9 0 n v = mN M (va_up (M 9 9 0) n v) := rfl
theorem up_ind {N : Nat} {P : Nat → Prop} (h : ∀ r, r ≤ N → (∀ r2, r < r2 → r2 ≤ N → P r2) → P r) : ∀ r, r ≤ N → P r := by
  have key : ∀ c r, r ≤ N → N - r < c → P r := by
    intro c
    induction c with
    | zero => intro r _ h2; omega
    | succ c ih => intro r h1 h2; exact h r h1 (fun r2 h3 h4 => ih r2 h4 (by omega))
  exact fun r hr => key (N + 1) r hr (by omega)
/-- in a range -/
abbrev inR (v a b : Int32) : Prop := ¬ v < a ∧ ¬ b < v
/-- how the reference's -1 for no value is told -/
def outs (v : Int32) : Int32 := if v = -1 then -5 else v
/-- where the row of a moment lies -/
abbrev rAt (q m : Nat) : Nat := 69 + 247 * q + 19 * m
/-- session q would find key k busy -/
abbrev busyR (s : Nat → Int32) (q k : Nat) (mode : Int32) : Prop := ¬ mode ≤ md (s (30 + q)) k ∧ ∃ o, o < 3 ∧ o ≠ q ∧ nI 2 - mode < md (s (30 + o)) k
def busyN (s : Nat → Int32) (q k : Nat) (mode : Int32) (n : Nat) : Prop := ∃ o, o < n ∧ o ≠ q ∧ nI 2 - mode < md (s (30 + o)) k
def takesN (s n : Nat → Int32) (q k : Nat) (mode : Int32) : Nat → Int32 := if md (s (30 + q)) k < mode then (if bt (n 1) k = true then n else va_up (va_up n 1 (sb (n 1) k)) 2 (sm (n 2) k (md (s (30 + q)) k))) else n
def takesS (s : Nat → Int32) (q k : Nat) (mode : Int32) : Nat → Int32 := if md (s (30 + q)) k < mode then va_up s (30 + q) (sm (s (30 + q)) k mode) else s
def chgN (s n : Nat → Int32) (k : Nat) : Nat → Int32 := if bt (n 0) k = true then n else va_up (va_up n 0 (sb (n 0) k)) (3 + k) (s (8 + k))
def chgS (s : Nat → Int32) (k : Nat) (v : Int32) : Nat → Int32 := va_up s (8 + k) v
theorem jshl1 (k : Nat) (x : Int32) : x ||| (nI 1 <<< (nI k &&& 31)) = sb x k := rfl

set_option maxHeartbeats 4000000 in
set_option maxRecDepth 100000 in
theorem c_X4_in {G : sv_G} {M : sv_Mem} {v a b : Int32} : sv_Ct G M_X4_in 0 [.int v, .int a, .int b] M (some (.int (bI (inR v a b)))) (M) := by
  refine sv_Ct_of (lo := [some (.int v), some (.int a), some (.int b)]) (pn_X4) rfl (Nat.le_of_ble_eq_true rfl) rfl (fun K X Y => ?_)
  replace X : sv_X G K cX4_in RX4 3 0 := X
  replace Y : sv_Y G K (some .boolean) _ _ := Y
  show sw_W G K 3 0 _ _ _
  refine sw_iload_0 X dX4_in_0 ?_
  refine sw_iload_1 X dX4_in_1 ?_
  refine sw_icmp_lt X 14 dX4_in_2 (by decide) (fun h2 => ?_) (fun h2 => ?_)
  ·
    refine sw_iconst X (nI 0) dX4_in_14 (by decide) ?_
    exact sw_zret X Y dX4_in_15 (by first | rfl | exact sv_nzB) (by first | exact rb_t ⟨h2, h7⟩ | exact rb_f (fun z => z.1 h2) | exact rb_f (fun z => z.2 h7)) (rfl)
  ·
    refine sw_iload_0 X dX4_in_5 ?_
    refine sw_iload_2 X dX4_in_6 ?_
    refine sw_icmp_gt X 14 dX4_in_7 (by decide) (fun h7 => ?_) (fun h7 => ?_)
    ·
      refine sw_iconst X (nI 0) dX4_in_14 (by decide) ?_
      exact sw_zret X Y dX4_in_15 (by first | rfl | exact sv_nzB) (by first | exact rb_t ⟨h2, h7⟩ | exact rb_f (fun z => z.1 h2) | exact rb_f (fun z => z.2 h7)) (rfl)
    ·
      refine sw_iconst X (nI 1) dX4_in_10 (by decide) ?_
      refine sw_goto X 15 dX4_in_11 (by decide) ?_
      exact sw_zret X Y dX4_in_15 (by first | rfl | exact sv_nzB) (by first | exact rb_t ⟨h2, h7⟩ | exact rb_f (fun z => z.1 h2) | exact rb_f (fun z => z.2 h7)) (rfl)
set_option maxHeartbeats 4000000 in
set_option maxRecDepth 100000 in
theorem c_X4_isSession {G : sv_G} {M : sv_Mem} {v : Int32} : sv_Ct G M_X4_isSession 1 [.int v] M (some (.int (bI (inR v (nI 0) (nI 2))))) (M) := by
  refine sv_Ct_of (lo := [some (.int v)]) (pn_X4) rfl (Nat.le_of_ble_eq_true rfl) rfl (fun K X Y => ?_)
  replace X : sv_X G K cX4_isSession RX4 1 1 := X
  replace Y : sv_Y G K (some .boolean) _ _ := Y
  show sw_W G K 1 0 _ _ _
  refine sw_iload_0 X dX4_isSession_0 ?_
  refine sw_iconst X (nI 0) dX4_isSession_1 (by decide) ?_
  refine sw_iconst X (nI 2) dX4_isSession_2 (by decide) ?_
  refine ca_X4_25 X (by decide) dX4_isSession_3 (Nat.le_of_ble_eq_true rfl) c_X4_in ?_
  exact sw_zret X Y dX4_isSession_6 (by first | rfl | exact sv_nzB) (rfl) (rfl)
set_option maxHeartbeats 4000000 in
set_option maxRecDepth 100000 in
theorem c_X4_isKey {G : sv_G} {M : sv_Mem} {v : Int32} : sv_Ct G M_X4_isKey 1 [.int v] M (some (.int (bI (inR v (nI 0) (nI 15))))) (M) := by
  refine sv_Ct_of (lo := [some (.int v)]) (pn_X4) rfl (Nat.le_of_ble_eq_true rfl) rfl (fun K X Y => ?_)
  replace X : sv_X G K cX4_isKey RX4 1 1 := X
  replace Y : sv_Y G K (some .boolean) _ _ := Y
  show sw_W G K 1 0 _ _ _
  refine sw_iload_0 X dX4_isKey_0 ?_
  refine sw_iconst X (nI 0) dX4_isKey_1 (by decide) ?_
  refine sw_bipush X (nI 15) dX4_isKey_2 (by decide) ?_
  refine ca_X4_25 X (by decide) dX4_isKey_4 (Nat.le_of_ble_eq_true rfl) c_X4_in ?_
  exact sw_zret X Y dX4_isKey_7 (by first | rfl | exact sv_nzB) (rfl) (rfl)
set_option maxHeartbeats 4000000 in
set_option maxRecDepth 100000 in
theorem c_X4_isName {G : sv_G} {M : sv_Mem} {v : Int32} : sv_Ct G M_X4_isName 1 [.int v] M (some (.int (bI (inR v (nI 0) (nI 7))))) (M) := by
  refine sv_Ct_of (lo := [some (.int v)]) (pn_X4) rfl (Nat.le_of_ble_eq_true rfl) rfl (fun K X Y => ?_)
  replace X : sv_X G K cX4_isName RX4 1 1 := X
  replace Y : sv_Y G K (some .boolean) _ _ := Y
  show sw_W G K 1 0 _ _ _
  refine sw_iload_0 X dX4_isName_0 ?_
  refine sw_iconst X (nI 0) dX4_isName_1 (by decide) ?_
  refine sw_bipush X (nI 7) dX4_isName_2 (by decide) ?_
  refine ca_X4_25 X (by decide) dX4_isName_4 (Nat.le_of_ble_eq_true rfl) c_X4_in ?_
  exact sw_zret X Y dX4_isName_7 (by first | rfl | exact sv_nzB) (rfl) (rfl)
set_option maxHeartbeats 4000000 in
set_option maxRecDepth 100000 in
theorem c_X4_has {G : sv_G} {M : sv_Mem} {x : Int32} {k : Nat} (hk : k < 32) : sv_Ct G M_X4_has 0 [.int x, .int (nI k)] M (some (.int (bI (bt x k = true)))) (M) := by
  refine sv_Ct_of (lo := [some (.int x), some (.int (nI k))]) (pn_X4) rfl (Nat.le_of_ble_eq_true rfl) rfl (fun K X Y => ?_)
  replace X : sv_X G K cX4_has RX4 2 0 := X
  replace Y : sv_Y G K (some .boolean) _ _ := Y
  show sw_W G K 2 0 _ _ _
  refine sw_iload_0 X dX4_has_0 ?_
  refine sw_iload_1 X dX4_has_1 ?_
  refine sw_ishr X dX4_has_2 ?_
  refine sw_iconst X (nI 1) dX4_has_3 (by decide) ?_
  refine sw_iand X dX4_has_4 ?_
  refine sw_iconst X (nI 1) dX4_has_5 (by decide) ?_
  refine sw_icmp_ne X 13 dX4_has_6 (by decide) (fun h6 => ?_) (fun h6 => ?_)
  ·
    refine sw_iconst X (nI 0) dX4_has_13 (by decide) ?_
    exact sw_zret X Y dX4_has_14 (by first | rfl | exact sv_nzB) (by first | exact rb_t ((bt_has x hk).mp (Decidable.of_not_not h6)) | exact rb_t ((bt_has x hk).mp h6) | exact rb_f (fun z => h6 ((bt_has x hk).mpr z))) (rfl)
  ·
    refine sw_iconst X (nI 1) dX4_has_9 (by decide) ?_
    refine sw_goto X 14 dX4_has_10 (by decide) ?_
    exact sw_zret X Y dX4_has_14 (by first | rfl | exact sv_nzB) (by first | exact rb_t ((bt_has x hk).mp (Decidable.of_not_not h6)) | exact rb_t ((bt_has x hk).mp h6) | exact rb_f (fun z => h6 ((bt_has x hk).mpr z))) (rfl)
set_option maxHeartbeats 4000000 in
set_option maxRecDepth 100000 in
theorem c_X4_outside {G : sv_G} {M : sv_Mem} {x : Int32} : sv_Ct G M_X4_outside 0 [.int x] M (some (.int (outs x))) (M) := by
  refine sv_Ct_of (lo := [some (.int x)]) (pn_X4) rfl (Nat.le_of_ble_eq_true rfl) rfl (fun K X Y => ?_)
  replace X : sv_X G K cX4_outside RX4 1 0 := X
  replace Y : sv_Y G K (some .int) _ _ := Y
  show sw_W G K 1 0 _ _ _
  refine sw_iload_0 X dX4_outside_0 ?_
  refine sw_iconst X (-1) dX4_outside_1 (by decide) ?_
  refine sw_icmp_ne X 10 dX4_outside_2 (by decide) (fun h2 => ?_) (fun h2 => ?_)
  ·
    refine sw_iload_0 X dX4_outside_10 ?_
    exact sw_iret X Y dX4_outside_11 (by unfold outs; simp [h2]) (rfl)
  ·
    refine sw_bipush X (-5) dX4_outside_5 (by decide) ?_
    refine sw_goto X 11 dX4_outside_7 (by decide) ?_
    exact sw_iret X Y dX4_outside_11 (by unfold outs; simp [h2]) (rfl)
set_option maxHeartbeats 4000000 in
set_option maxRecDepth 100000 in
theorem c_X4_at {G : sv_G} {M : sv_Mem} {q m : Nat} : sv_Ct G M_X4_at 0 [.int (nI q), .int (nI m)] M (some (.int (nI (rAt q m)))) (M) := by
  refine sv_Ct_of (lo := [some (.int (nI q)), some (.int (nI m))]) (pn_X4) rfl (Nat.le_of_ble_eq_true rfl) rfl (fun K X Y => ?_)
  replace X : sv_X G K cX4_at RX4 2 0 := X
  replace Y : sv_Y G K (some .int) _ _ := Y
  show sw_W G K 2 0 _ _ _
  refine sw_bipush X (nI 69) dX4_at_0 (by decide) ?_
  refine sw_sipush X (nI 247) dX4_at_2 (by decide) ?_
  refine sw_iload_0 X dX4_at_5 ?_
  refine sw_imul X dX4_at_6 ?_
  try refine sw_tope (pk_mul _ _) ?_
  refine sw_iadd X dX4_at_7 ?_
  try refine sw_tope (nI_add _ _) ?_
  refine sw_bipush X (nI 19) dX4_at_8 (by decide) ?_
  refine sw_iload_1 X dX4_at_10 ?_
  refine sw_imul X dX4_at_11 ?_
  try refine sw_tope (pk_mul _ _) ?_
  refine sw_iadd X dX4_at_12 ?_
  try refine sw_tope (nI_add _ _) ?_
  exact sw_iret X Y dX4_at_13 (rfl) (rfl)
set_option maxHeartbeats 4000000 in
set_option maxRecDepth 100000 in
theorem c_X4_isOpen {G : sv_G} {M : sv_Mem} {q : Nat} (hq : q < 3) : sv_Ct G M_X4_isOpen 0 [.ref (sv_ad G 4 9 0), .int (nI q)] M (some (.int (bI (M 9 5 0 (24 + q) = nI 1)))) (M) := by
  refine sv_Ct_of (lo := [some (.ref (sv_ad G 4 9 0)), some (.int (nI q))]) (pn_X4) rfl (Nat.le_of_ble_eq_true rfl) rfl (fun K X Y => ?_)
  replace X : sv_X G K cX4_isOpen RX4 2 0 := X
  replace Y : sv_Y G K (some .boolean) _ _ := Y
  show sw_W G K 2 0 _ _ _
  refine sw_aload_0 X dX4_isOpen_0 ?_
  refine gf_X4_7 X dX4_isOpen_1 ?_
  refine sw_bipush X (nI 24) dX4_isOpen_4 (by decide) ?_
  refine sw_iload_1 X dX4_isOpen_6 ?_
  refine sw_iadd X dX4_isOpen_7 ?_
  try refine sw_tope (nI_add _ _) ?_
  refine ia_5 X rfl (by omega) dX4_isOpen_8 ?_
  refine sw_iconst X (nI 1) dX4_isOpen_9 (by decide) ?_
  refine sw_icmp_ne X 17 dX4_isOpen_10 (by decide) (fun h10 => ?_) (fun h10 => ?_)
  ·
    refine sw_iconst X (nI 0) dX4_isOpen_17 (by decide) ?_
    exact sw_zret X Y dX4_isOpen_18 (by first | rfl | exact sv_nzB) (by first | exact rb_t (by assumption) | exact rb_f (by assumption) | exact rb_t (Decidable.of_not_not (by assumption))) (rfl)
  ·
    refine sw_iconst X (nI 1) dX4_isOpen_13 (by decide) ?_
    refine sw_goto X 18 dX4_isOpen_14 (by decide) ?_
    exact sw_zret X Y dX4_isOpen_18 (by first | rfl | exact sv_nzB) (by first | exact rb_t (by assumption) | exact rb_f (by assumption) | exact rb_t (Decidable.of_not_not (by assumption))) (rfl)
set_option maxHeartbeats 4000000 in
set_option maxRecDepth 100000 in
theorem c_X4_modeOf {G : sv_G} {M : sv_Mem} {q k : Nat} (hq : q < 3) (hk : k < 16) : sv_Ct G M_X4_modeOf 0 [.ref (sv_ad G 4 9 0), .int (nI q), .int (nI k)] M (some (.int (md (M 9 5 0 (30 + q)) k))) (M) := by
  refine sv_Ct_of (lo := [some (.ref (sv_ad G 4 9 0)), some (.int (nI q)), some (.int (nI k))]) (pn_X4) rfl (Nat.le_of_ble_eq_true rfl) rfl (fun K X Y => ?_)
  replace X : sv_X G K cX4_modeOf RX4 3 0 := X
  replace Y : sv_Y G K (some .int) _ _ := Y
  show sw_W G K 3 0 _ _ _
  refine sw_aload_0 X dX4_modeOf_0 ?_
  refine gf_X4_7 X dX4_modeOf_1 ?_
  refine sw_bipush X (nI 30) dX4_modeOf_4 (by decide) ?_
  refine sw_iload_1 X dX4_modeOf_6 ?_
  refine sw_iadd X dX4_modeOf_7 ?_
  try refine sw_tope (nI_add _ _) ?_
  refine ia_5 X rfl (by omega) dX4_modeOf_8 ?_
  refine sw_iconst X (nI 2) dX4_modeOf_9 (by decide) ?_
  refine sw_iload_2 X dX4_modeOf_10 ?_
  refine sw_imul X dX4_modeOf_11 ?_
  try refine sw_tope (pk_mul _ _) ?_
  refine sw_ishr X dX4_modeOf_12 ?_
  refine sw_iconst X (nI 3) dX4_modeOf_13 (by decide) ?_
  refine sw_iand X dX4_modeOf_14 ?_
  exact sw_iret X Y dX4_modeOf_15 (rfl) (rfl)
set_option maxHeartbeats 4000000 in
set_option maxRecDepth 100000 in
theorem c_X4_withMode {G : sv_G} {M : sv_Mem} {x v : Int32} {k : Nat} (hk : k < 16) : sv_Ct G M_X4_withMode 0 [.int x, .int (nI k), .int v] M (some (.int (sm x k v))) (M) := by
  refine sv_Ct_of (lo := [some (.int x), some (.int (nI k)), some (.int v)]) (pn_X4) rfl (Nat.le_of_ble_eq_true rfl) rfl (fun K X Y => ?_)
  replace X : sv_X G K cX4_withMode RX4 3 0 := X
  replace Y : sv_Y G K (some .int) _ _ := Y
  show sw_W G K 3 0 _ _ _
  refine sw_iload_0 X dX4_withMode_0 ?_
  refine sw_iconst X (nI 3) dX4_withMode_1 (by decide) ?_
  refine sw_iconst X (nI 2) dX4_withMode_2 (by decide) ?_
  refine sw_iload_1 X dX4_withMode_3 ?_
  refine sw_imul X dX4_withMode_4 ?_
  try refine sw_tope (pk_mul _ _) ?_
  refine sw_ishl X dX4_withMode_5 ?_
  refine sw_iconst X (-1) dX4_withMode_6 (by decide) ?_
  refine sw_ixor X dX4_withMode_7 ?_
  refine sw_iand X dX4_withMode_8 ?_
  refine sw_iload_2 X dX4_withMode_9 ?_
  refine sw_iconst X (nI 2) dX4_withMode_10 (by decide) ?_
  refine sw_iload_1 X dX4_withMode_11 ?_
  refine sw_imul X dX4_withMode_12 ?_
  try refine sw_tope (pk_mul _ _) ?_
  refine sw_ishl X dX4_withMode_13 ?_
  refine sw_ior X dX4_withMode_14 ?_
  exact sw_iret X Y dX4_withMode_15 (rfl) (rfl)
set_option maxHeartbeats 4000000 in
set_option maxRecDepth 100000 in
theorem c_X4_forget_5 {G : sv_G} {M : sv_Mem} {r : Nat} (hr : r + 1 < 810) : sv_Ct G M_X4_forget 0 [.ref (sv_ad G 5 9 0), .int (nI r)] M (none) (mS M (va_up (va_up (M 9 5 0) (r + 0) (nI 0)) (r + 1) (nI 0))) := by
  refine sv_Ct_of (lo := [some (.ref (sv_ad G 5 9 0)), some (.int (nI r))]) (pn_X4) rfl (Nat.le_of_ble_eq_true rfl) rfl (fun K X Y => ?_)
  replace X : sv_X G K cX4_forget RX4 2 0 := X
  replace Y : sv_Y G K none _ _ := Y
  show sw_W G K 2 0 _ _ _
  refine sw_aload_0 X dX4_forget_0 ?_
  refine sw_iload_1 X dX4_forget_1 ?_
  refine sw_iconst X (nI 0) dX4_forget_2 (by decide) ?_
  refine sw_iadd X dX4_forget_3 ?_
  try refine sw_tope (nI_add _ _) ?_
  refine sw_iconst X (nI 0) dX4_forget_4 (by decide) ?_
  refine is_5 X rfl (by omega) dX4_forget_5 ?_
  refine sw_aload_0 X dX4_forget_6 ?_
  refine sw_iload_1 X dX4_forget_7 ?_
  refine sw_iconst X (nI 1) dX4_forget_8 (by decide) ?_
  refine sw_iadd X dX4_forget_9 ?_
  try refine sw_tope (nI_add _ _) ?_
  refine sw_iconst X (nI 0) dX4_forget_10 (by decide) ?_
  refine is_5 X rfl (by omega) dX4_forget_11 ?_
  exact sw_vret X Y dX4_forget_12 rfl (by simp only [up5, up9, mN_mS, mS_mS, mN_mN, mS_s, mN_n, mS_id, mN_id])
set_option maxHeartbeats 4000000 in
set_option maxRecDepth 100000 in
theorem c_X4_forget_9 {G : sv_G} {M : sv_Mem} {r : Nat} (hr : r + 1 < 19) : sv_Ct G M_X4_forget 0 [.ref (sv_ad G 9 9 0), .int (nI r)] M (none) (mN M (va_up (va_up (M 9 9 0) (r + 0) (nI 0)) (r + 1) (nI 0))) := by
  refine sv_Ct_of (lo := [some (.ref (sv_ad G 9 9 0)), some (.int (nI r))]) (pn_X4) rfl (Nat.le_of_ble_eq_true rfl) rfl (fun K X Y => ?_)
  replace X : sv_X G K cX4_forget RX4 2 0 := X
  replace Y : sv_Y G K none _ _ := Y
  show sw_W G K 2 0 _ _ _
  refine sw_aload_0 X dX4_forget_0 ?_
  refine sw_iload_1 X dX4_forget_1 ?_
  refine sw_iconst X (nI 0) dX4_forget_2 (by decide) ?_
  refine sw_iadd X dX4_forget_3 ?_
  try refine sw_tope (nI_add _ _) ?_
  refine sw_iconst X (nI 0) dX4_forget_4 (by decide) ?_
  refine is_9 X rfl (by omega) dX4_forget_5 ?_
  refine sw_aload_0 X dX4_forget_6 ?_
  refine sw_iload_1 X dX4_forget_7 ?_
  refine sw_iconst X (nI 1) dX4_forget_8 (by decide) ?_
  refine sw_iadd X dX4_forget_9 ?_
  try refine sw_tope (nI_add _ _) ?_
  refine sw_iconst X (nI 0) dX4_forget_10 (by decide) ?_
  refine is_9 X rfl (by omega) dX4_forget_11 ?_
  exact sw_vret X Y dX4_forget_12 rfl (by simp only [up5, up9, mN_mS, mS_mS, mN_mN, mS_s, mN_n, mS_id, mN_id])
set_option maxHeartbeats 4000000 in
set_option maxRecDepth 100000 in
theorem c_X4_isBusy {G : sv_G} {M : sv_Mem} {q k : Nat} {mode : Int32} (hq : q < 3) (hk : k < 16) : sv_Ct G M_X4_isBusy 1 [.ref (sv_ad G 4 9 0), .int (nI q), .int (nI k), .int mode] M (some (.int (bI (busyR (M 9 5 0) q k mode)))) (M) := by
  refine sv_Ct_of (lo := [some (.ref (sv_ad G 4 9 0)), some (.int (nI q)), some (.int (nI k)), some (.int mode), none, none]) (pn_X4) rfl (Nat.le_of_ble_eq_true rfl) rfl (fun K X Y => ?_)
  replace X : sv_X G K cX4_isBusy RX4 6 1 := X
  replace Y : sv_Y G K (some .boolean) _ _ := Y
  show sw_W G K 6 0 _ _ _
  have L : ¬ mode ≤ md (M 9 5 0 (30 + q)) k → ∀ r, r ≤ 3 → (fun r => ∀ b : Int32, (b = nI 1 ∧ busyN (M 9 5 0) q k mode r ∨ b = nI 0 ∧ ¬ busyN (M 9 5 0) q k mode r) → sw_W G K 6 18 [some (.ref (sv_ad G 4 9 0)), some (.int (nI q)), some (.int (nI k)), some (.int mode), some (.int b), some (.int (nI r))] [] M) r := by
    intro h7
    refine up_ind (N := 3) (P := fun r => ∀ b : Int32, (b = nI 1 ∧ busyN (M 9 5 0) q k mode r ∨ b = nI 0 ∧ ¬ busyN (M 9 5 0) q k mode r) → sw_W G K 6 18 [some (.ref (sv_ad G 4 9 0)), some (.int (nI q)), some (.int (nI k)), some (.int mode), some (.int b), some (.int (nI r))] [] M) ?_
    intro r hr ih b hb
    refine sw_iload_5 X dX4_isBusy_18 ?_
    refine sw_iconst X (nI 3) dX4_isBusy_20 (by decide) ?_
    refine sw_icmp_ge X 61 dX4_isBusy_21 (by decide) (fun h21 => ?_) (fun h21 => ?_)
    ·
      have e : r = 3 := by have := (nI_leI (by omega) (by omega)).mp h21; omega
      subst e
      refine sw_iload_4 X dX4_isBusy_61 ?_
      exact sw_zret X Y dX4_isBusy_63 (by rcases hb with z | z <;> rw [z.1] <;> rfl) (by rcases hb with z | z; (rw [z.1]; exact rb_t ⟨h7, z.2⟩); (rw [z.1]; exact rb_f (fun w => z.2 w.2))) (rfl)
    ·
      have hr3 : r < 3 := by have := mt (nI_leI (by omega) (by omega)).mpr h21; omega
      refine sw_iload_4 X dX4_isBusy_24 ?_
      refine sw_if_ne X 48 dX4_isBusy_26 (by decide) (fun h26 => ?_) (fun h26 => ?_)
      ·
        have hbt : busyN (M 9 5 0) q k mode (r + 1) := by rcases hb with z | z; (obtain ⟨o, a, b, c⟩ := z.2; exact ⟨o, by omega, b, c⟩); (exact absurd z.1 h26)
        refine sw_iconst X (nI 1) dX4_isBusy_48 (by decide) ?_
        refine sw_goto X 53 dX4_isBusy_49 (by decide) ?_
        refine sw_istore_4 X dX4_isBusy_53 trivial ?_
        first | refine sw_inc1_5 X dX4_isBusy_55 trivial ?_ | refine sw_iinc_5 X _ dX4_isBusy_55 rfl trivial ?_
        refine sw_goto X 18 dX4_isBusy_58 (by decide) ?_
        exact ih (r + 1) (by omega) (by omega) _ (by first | exact Or.inl ⟨rfl, hbt⟩ | exact Or.inr ⟨rfl, hbt⟩)
      ·
        have hbf : ¬ busyN (M 9 5 0) q k mode r := by rcases hb with z | z; (rw [z.1] at h26; exact absurd h26 (by decide)); exact z.2
        refine sw_iload_5 X dX4_isBusy_29 ?_
        refine sw_iload_1 X dX4_isBusy_31 ?_
        refine sw_icmp_eq X 52 dX4_isBusy_32 (by decide) (fun h32 => ?_) (fun h32 => ?_)
        ·
          have hbt : ¬ busyN (M 9 5 0) q k mode (r + 1) := fun ⟨o, a, b, c⟩ => hbf ⟨o, by have := (nI_eq (by omega) (by omega)).mp h32; omega, b, c⟩
          refine sw_iconst X (nI 0) dX4_isBusy_52 (by decide) ?_
          refine sw_istore_4 X dX4_isBusy_53 trivial ?_
          first | refine sw_inc1_5 X dX4_isBusy_55 trivial ?_ | refine sw_iinc_5 X _ dX4_isBusy_55 rfl trivial ?_
          refine sw_goto X 18 dX4_isBusy_58 (by decide) ?_
          exact ih (r + 1) (by omega) (by omega) _ (by first | exact Or.inl ⟨rfl, hbt⟩ | exact Or.inr ⟨rfl, hbt⟩)
        ·
          refine sw_aload_0 X dX4_isBusy_35 ?_
          refine sw_iload_5 X dX4_isBusy_36 ?_
          refine sw_iload_2 X dX4_isBusy_38 ?_
          refine ca_X4_33 X (by decide) dX4_isBusy_39 (Nat.le_of_ble_eq_true rfl) (c_X4_modeOf hr3 hk) ?_
          refine sw_iconst X (nI 2) dX4_isBusy_42 (by decide) ?_
          refine sw_iload_3 X dX4_isBusy_43 ?_
          refine sw_isub X dX4_isBusy_44 ?_
          refine sw_icmp_le X 52 dX4_isBusy_45 (by decide) (fun h45 => ?_) (fun h45 => ?_)
          ·
            have hbt : ¬ busyN (M 9 5 0) q k mode (r + 1) := fun ⟨o, a, b, c⟩ => by
              rcases Nat.lt_or_ge o r with z | z
              · exact hbf ⟨o, z, b, c⟩
              · have e : o = r := by omega
                subst e
                exact absurd c (Int32.not_lt.mpr h45)
            refine sw_iconst X (nI 0) dX4_isBusy_52 (by decide) ?_
            refine sw_istore_4 X dX4_isBusy_53 trivial ?_
            first | refine sw_inc1_5 X dX4_isBusy_55 trivial ?_ | refine sw_iinc_5 X _ dX4_isBusy_55 rfl trivial ?_
            refine sw_goto X 18 dX4_isBusy_58 (by decide) ?_
            exact ih (r + 1) (by omega) (by omega) _ (by first | exact Or.inl ⟨rfl, hbt⟩ | exact Or.inr ⟨rfl, hbt⟩)
          ·
            have hbt : busyN (M 9 5 0) q k mode (r + 1) := ⟨r, by omega, fun z => h32 (by rw [z]), Int32.not_le.mp h45⟩
            refine sw_iconst X (nI 1) dX4_isBusy_48 (by decide) ?_
            refine sw_goto X 53 dX4_isBusy_49 (by decide) ?_
            refine sw_istore_4 X dX4_isBusy_53 trivial ?_
            first | refine sw_inc1_5 X dX4_isBusy_55 trivial ?_ | refine sw_iinc_5 X _ dX4_isBusy_55 rfl trivial ?_
            refine sw_goto X 18 dX4_isBusy_58 (by decide) ?_
            exact ih (r + 1) (by omega) (by omega) _ (by first | exact Or.inl ⟨rfl, hbt⟩ | exact Or.inr ⟨rfl, hbt⟩)
  refine sw_aload_0 X dX4_isBusy_0 ?_
  refine sw_iload_1 X dX4_isBusy_1 ?_
  refine sw_iload_2 X dX4_isBusy_2 ?_
  refine ca_X4_33 X (by decide) dX4_isBusy_3 (Nat.le_of_ble_eq_true rfl) (c_X4_modeOf hq hk) ?_
  refine sw_iload_3 X dX4_isBusy_6 ?_
  refine sw_icmp_lt X 12 dX4_isBusy_7 (by decide) (fun h7 => ?_) (fun h7 => ?_)
  ·
    replace h7 := Int32.not_le.mpr h7
    refine sw_iconst X (nI 0) dX4_isBusy_12 (by decide) ?_
    refine sw_istore_4 X dX4_isBusy_13 trivial ?_
    refine sw_iconst X (nI 0) dX4_isBusy_15 (by decide) ?_
    refine sw_istore_5 X dX4_isBusy_16 trivial ?_
    exact L h7 0 (by omega) _ (Or.inr ⟨rfl, fun ⟨o, a, b, c⟩ => by omega⟩)
  ·
    refine sw_iconst X (nI 0) dX4_isBusy_10 (by decide) ?_
    exact sw_zret X Y dX4_isBusy_11 (by first | rfl | exact sv_nzB) (by exact rb_f (fun w => w.1 (Int32.not_lt.mp h7))) (rfl)
