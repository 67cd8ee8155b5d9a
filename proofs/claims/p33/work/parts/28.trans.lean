/-! the class: one State's ints, one Transaction's methods -/
abbrev sv_T : Type := Nat → Nat → Nat → Int32
def sT (M : sv_Mem) (i : Nat) (T : sv_T) : sv_Mem := va_up M i T
def tu (T : sv_T) (k j n : Nat) (v : Int32) : sv_T := va_up T k (va_up (T k) j (va_up (T k j) n v))
def tA (T : sv_T) (k j : Nat) (f : Nat → Int32) : sv_T := va_up T k (va_up (T k) j f)
theorem upT (M : sv_Mem) (i k j n : Nat) (v : Int32) : sv_up M i k j n v = sT M i (tu (M i) k j n v) := rfl
theorem upAT (M : sv_Mem) (i k j : Nat) (f : Nat → Int32) : sv_upA M i k j f = sT M i (tA (M i) k j f) := rfl
theorem tuA (T : sv_T) (k j n : Nat) (v : Int32) : tu T k j n v = tA T k j (va_up (T k j) n v) := rfl
theorem sT_at (M : sv_Mem) (i : Nat) (T : sv_T) : sT M i T i = T := va_up_self ..
theorem sT_ne (M : sv_Mem) {i i2 : Nat} (T : sv_T) (h : i2 ≠ i) : sT M i T i2 = M i2 := va_up_ne _ _ h
theorem sT_sT (M : sv_Mem) (i : Nat) (T U : sv_T) : sT (sT M i T) i U = sT M i U := va_up_up ..
theorem sT_id (M : sv_Mem) (i : Nat) : sT M i (M i) = M := va_up_id ..
theorem tA_at (T : sv_T) (k j : Nat) (f : Nat → Int32) : tA T k j f k j = f := by unfold tA; rw [va_up_self, va_up_self]
theorem tA_ne (T : sv_T) {k j k2 j2 : Nat} (f : Nat → Int32) (h : ¬ (k2 = k ∧ j2 = j)) : tA T k j f k2 j2 = T k2 j2 := by
  unfold tA
  by_cases hk : k2 = k
  · subst hk
    rw [va_up_self, va_up_ne _ _ (fun z => h ⟨rfl, z⟩)]
  · rw [va_up_ne _ _ hk]
theorem tu_at (T : sv_T) (k j n : Nat) (v : Int32) : tu T k j n v k j = va_up (T k j) n v := tA_at ..
theorem tu_ne (T : sv_T) {k j k2 j2 : Nat} (n : Nat) (v : Int32) (h : ¬ (k2 = k ∧ j2 = j)) : tu T k j n v k2 j2 = T k2 j2 := tA_ne _ _ h
theorem tu_self (T : sv_T) (k j n : Nat) (v : Int32) : tu T k j n v k j n = v := by rw [tu_at, va_up_self]
theorem tu_n (T : sv_T) {k j n n2 : Nat} (v : Int32) (h : n2 ≠ n) : tu T k j n v k j n2 = T k j n2 := by rw [tu_at, va_up_ne _ _ h]
/-- addMoment, close, noteChangeAt -/
def aM (T : sv_T) (j c : Nat) : sv_T := tu (tu (tu T 15 j c (T 14 j 1)) 17 j c (nI 0)) 14 j 0 (nI (c + 1))
def clT (T : sv_T) (j : Nat) : sv_T := tu (tu T 14 j 0 (nI 0)) 14 j 1 (nI 0)
def ncT (T : sv_T) (j m k : Nat) (v : Int32) : sv_T := if bt (T 17 j m) k = true then T else tu (tu T 17 j m (sb (T 17 j m) k)) 18 j (m * 16 + k) v
def lcS (d : Int32) : Nat → Int32
  | 0 => nI 0
  | k + 1 => if md d k = nI 0 then lcS d k else sb (lcS d k) k
/-- rows from r on, c of them, are emptied -/
def fcT (j : Nat) : Nat → Nat → sv_T → sv_T
  | 0, _, T => T
  | c + 1, r, T => fcT j c (r + 1) (tu T 17 j r (nI 0))
/-- the first k keys of row r go into row m -/
def drK (T : sv_T) (j m r : Nat) : Nat → sv_T
  | 0 => T
  | k + 1 => if bt (T 17 j r) k = true then ncT (drK T j m r k) j m k (T 18 j (r * 16 + k)) else drK T j m r k
def drR (j m : Nat) : Nat → Nat → sv_T → sv_T
  | 0, _, T => T
  | c + 1, r, T => drR j m c (r + 1) (drK T j m r 16)
/-- dropMomentsAfter(m) of c moments -/
def drT (T : sv_T) (j m c : Nat) : sv_T := tu (drR j m (c - (m + 1)) (m + 1) T) 14 j 0 (nI (m + 1))
theorem drK_t {T : sv_T} {j m r k : Nat} (h : bt (T 17 j r) k = true) : drK T j m r (k + 1) = ncT (drK T j m r k) j m k (T 18 j (r * 16 + k)) := if_pos h
theorem drK_f {T : sv_T} {j m r k : Nat} (h : ¬ bt (T 17 j r) k = true) : drK T j m r (k + 1) = drK T j m r k := if_neg h
theorem ncT_ne {T : sv_T} {j m k k2 j2 : Nat} {v : Int32} (h : ¬ ((k2 = 17 ∨ k2 = 18) ∧ j2 = j)) : ncT T j m k v k2 j2 = T k2 j2 := by
  unfold ncT
  split
  · rfl
  · rw [tu_ne _ _ _ (fun z => h ⟨Or.inr z.1, z.2⟩), tu_ne _ _ _ (fun z => h ⟨Or.inl z.1, z.2⟩)]
theorem ncT_17 {T : sv_T} {j m k r : Nat} {v : Int32} (h : r ≠ m) : ncT T j m k v 17 j r = T 17 j r := by
  unfold ncT
  split
  · rfl
  · rw [tu_ne _ _ _ (by omega), tu_n _ _ h]
theorem ncT_18 {T : sv_T} {j m k n : Nat} {v : Int32} (h : n ≠ m * 16 + k) : ncT T j m k v 18 j n = T 18 j n := by
  unfold ncT
  split
  · rfl
  · rw [tu_n _ _ h, tu_ne _ _ _ (by omega)]
theorem drK_ne {T : sv_T} {j m r k2 j2 : Nat} (h : ¬ ((k2 = 17 ∨ k2 = 18) ∧ j2 = j)) : ∀ k, drK T j m r k k2 j2 = T k2 j2
  | 0 => rfl
  | k + 1 => by
    unfold drK
    split
    · rw [ncT_ne h, drK_ne h k]
    · exact drK_ne h k
theorem drK_17 {T : sv_T} {j m r r2 : Nat} (h : r2 ≠ m) : ∀ k, drK T j m r k 17 j r2 = T 17 j r2
  | 0 => rfl
  | k + 1 => by
    unfold drK
    split
    · rw [ncT_17 h, drK_17 h k]
    · exact drK_17 h k
theorem drK_18 {T : sv_T} {j m r n : Nat} : ∀ k, n < m * 16 ∨ m * 16 + k ≤ n → drK T j m r k 18 j n = T 18 j n
  | 0, _ => rfl
  | k + 1, h => by
    unfold drK
    split
    · rw [ncT_18 (by omega), drK_18 k (by omega)]
    · exact drK_18 k (by omega)
theorem drR_ne {j m k2 j2 : Nat} (h : ¬ ((k2 = 17 ∨ k2 = 18) ∧ j2 = j)) : ∀ (c r : Nat) (T : sv_T), drR j m c r T k2 j2 = T k2 j2
  | 0, _, _ => rfl
  | c + 1, r, T => by
    unfold drR
    rw [drR_ne h c, drK_ne h]
theorem fcT_ne {j k2 j2 : Nat} (h : ¬ (k2 = 17 ∧ j2 = j)) : ∀ (c r : Nat) (T : sv_T), fcT j c r T k2 j2 = T k2 j2
  | 0, _, _ => rfl
  | c + 1, r, T => by
    unfold fcT
    rw [fcT_ne h c, tu_ne _ _ _ h]
theorem mxN {a b : Nat} (ha : a < 2 ^ 31) (hb : b < 2 ^ 31) : (if nI a < nI b then nI b else nI a) = nI (max a b) := by
  by_cases h : a < b
  · rw [if_pos (nI_lt h hb), Nat.max_eq_right (by omega)]
  · rw [if_neg (nI_nlt (by omega) ha), Nat.max_eq_left (by omega)]
theorem mx0 {c : Nat} (hc : c < 2 ^ 30) : (if nI c - nI 1 < nI 0 then nI 0 else nI c - nI 1) = nI (c - 1) := by
  cases c with
  | zero => decide
  | succ c =>
    rw [pk_sub (by omega), if_neg (nI_nlt (by omega) (by omega))]
theorem mnN {a b : Nat} (ha : a < 2 ^ 31) (hb : b < 2 ^ 31) : (if nI b < nI a then nI b else nI a) = nI (min a b) := by
  by_cases h : b < a
  · rw [if_pos (nI_lt h ha), Nat.min_eq_right (by omega)]
  · rw [if_neg (nI_nlt (by omega) hb), Nat.min_eq_left (by omega)]

set_option maxHeartbeats 4000000 in
set_option maxRecDepth 100000 in
theorem c_X2_isOpen {G : sv_G} {M : sv_Mem} {i j : Nat} (hi : i < 8) (hj : j < 3) {c : Nat} (hc : M i 14 j 0 = nI c) (hc2 : c ≤ 14) : sv_Ct G M_X2_isOpen 0 [.ref (sv_ad G 14 i j)] M (some (.int (bI (c ≠ 0)))) (M) := by
  refine sv_Ct_of (lo := [some (.ref (sv_ad G 14 i j))]) (pn_X2) rfl (Nat.le_of_ble_eq_true rfl) rfl (fun K X Y => ?_)
  replace X : sv_X G K cX2_isOpen RX2 1 0 := X
  replace Y : sv_Y G K (some .boolean) _ _ := Y
  show sw_W G K 1 0 _ _ _
  refine sw_aload_0 X dX2_isOpen_0 ?_
  refine gf_X2_24 X hi hj dX2_isOpen_1 ?_
  refine sw_tope hc ?_
  refine sw_if_le X 11 dX2_isOpen_4 (by decide) (fun h4 => ?_) (fun h4 => ?_)
  ·
    have h0 : c = 0 := by have := (nI_leI (b := 0) (by omega) (by omega)).mp h4; omega
    refine sw_iconst X (nI 0) dX2_isOpen_11 (by decide) ?_
    exact sw_zret X Y dX2_isOpen_12 (by first | rfl | exact sv_nzB) (by first | exact rb_t h0 | exact rb_f (fun z => z h0)) (rfl)
  ·
    have h0 : c ≠ 0 := fun z => h4 (by rw [z]; decide)
    refine sw_iconst X (nI 1) dX2_isOpen_7 (by decide) ?_
    refine sw_goto X 12 dX2_isOpen_8 (by decide) ?_
    exact sw_zret X Y dX2_isOpen_12 (by first | rfl | exact sv_nzB) (by first | exact rb_t h0 | exact rb_f (fun z => z h0)) (rfl)
set_option maxHeartbeats 4000000 in
set_option maxRecDepth 100000 in
theorem c_X2_savepointCount {G : sv_G} {M : sv_Mem} {i j : Nat} (hi : i < 8) (hj : j < 3) {c : Nat} (hc : M i 14 j 0 = nI c) (hc2 : c ≤ 14) : sv_Ct G M_X2_savepointCount 1 [.ref (sv_ad G 14 i j)] M (some (.int (nI (c - 1)))) (M) := by
  refine sv_Ct_of (lo := [some (.ref (sv_ad G 14 i j))]) (pn_X2) rfl (Nat.le_of_ble_eq_true rfl) rfl (fun K X Y => ?_)
  replace X : sv_X G K cX2_savepointCount RX2 1 1 := X
  replace Y : sv_Y G K (some .int) _ _ := Y
  show sw_W G K 1 0 _ _ _
  refine sw_aload_0 X dX2_savepointCount_0 ?_
  refine gf_X2_24 X hi hj dX2_savepointCount_1 ?_
  refine sw_tope hc ?_
  refine sw_iconst X (nI 1) dX2_savepointCount_4 (by decide) ?_
  refine sw_isub X dX2_savepointCount_5 ?_
  refine sw_iconst X (nI 0) dX2_savepointCount_6 (by decide) ?_
  refine sw_mmax X wl_X2_28 wx_maxs wx_math wx_maxc (by decide) (Nat.le_of_ble_eq_true rfl) dX2_savepointCount_7 ?_
  exact sw_iret X Y dX2_savepointCount_10 (ri_of (mx0 (by omega)).symm) (rfl)
set_option maxHeartbeats 4000000 in
set_option maxRecDepth 100000 in
theorem c_X2_addMoment {G : sv_G} {M : sv_Mem} {i j : Nat} (hi : i < 8) (hj : j < 3) {c : Nat} (hc : M i 14 j 0 = nI c) (hc2 : c < 14) : sv_Ct G M_X2_addMoment 0 [.ref (sv_ad G 14 i j)] M (none) (sT M i (aM (M i) j c)) := by
  refine sv_Ct_of (lo := [some (.ref (sv_ad G 14 i j))]) (pn_X2) rfl (Nat.le_of_ble_eq_true rfl) rfl (fun K X Y => ?_)
  replace X : sv_X G K cX2_addMoment RX2 1 0 := X
  replace Y : sv_Y G K none _ _ := Y
  show sw_W G K 1 0 _ _ _
  refine sw_aload_0 X dX2_addMoment_0 ?_
  refine gf_X2_24 X hi hj dX2_addMoment_1 ?_
  refine sw_tope hc ?_
  refine sw_bipush X (nI 14) dX2_addMoment_4 (by decide) ?_
  refine sw_icmp_lt X 10 dX2_addMoment_6 (by decide) (fun h6 => ?_) (fun h6 => ?_)
  ·
    refine sw_aload_0 X dX2_addMoment_10 ?_
    refine gf_X2_9 X hi hj dX2_addMoment_11 ?_
    refine sw_aload_0 X dX2_addMoment_14 ?_
    refine gf_X2_24 X hi hj dX2_addMoment_15 ?_
    refine sw_tope hc ?_
    refine sw_aload_0 X dX2_addMoment_18 ?_
    refine gf_X2_34 X hi hj dX2_addMoment_19 ?_
    refine is_15 X hi hj rfl (by omega) dX2_addMoment_22 ?_
    refine sw_aload_0 X dX2_addMoment_23 ?_
    refine gf_X2_18 X hi hj dX2_addMoment_24 ?_
    refine sw_aload_0 X dX2_addMoment_27 ?_
    refine gf_X2_24 X hi hj dX2_addMoment_28 ?_
    refine sw_tope (v2 := nI c) (by rw [upT, sT_at, tu_ne _ _ _ (by omega)]; exact hc) ?_
    refine sw_iconst X (nI 0) dX2_addMoment_31 (by decide) ?_
    refine is_17 X hi hj rfl (by omega) dX2_addMoment_32 ?_
    refine sw_aload_0 X dX2_addMoment_33 ?_
    refine sw_dup X dX2_addMoment_34 rfl ?_
    refine gf_X2_24 X hi hj dX2_addMoment_35 ?_
    refine sw_tope (v2 := nI c) (by rw [upT, upT, sT_sT, sT_at, sT_at, tu_ne _ _ _ (by omega), tu_ne _ _ _ (by omega)]; exact hc) ?_
    refine sw_iconst X (nI 1) dX2_addMoment_38 (by decide) ?_
    refine sw_iadd X dX2_addMoment_39 ?_
    try refine sw_tope (nI_add _ _) ?_
    refine pf_X2_24 X hi hj dX2_addMoment_40 ?_
    exact sw_vret X Y dX2_addMoment_43 rfl (by simp only [upT, sT_sT, sT_at]; rfl)
  ·
    exact absurd ((nI_ltI (a := c) (b := 14) (by omega) (by omega)).mpr hc2) (by first | exact h6 | exact Int32.not_lt.mpr (by first | exact h6 | exact Int32.not_lt.mp h6))
set_option maxHeartbeats 4000000 in
set_option maxRecDepth 100000 in
theorem c_X2_close {G : sv_G} {M : sv_Mem} {i j : Nat} (hi : i < 8) (hj : j < 3) : sv_Ct G M_X2_close 0 [.ref (sv_ad G 14 i j)] M (none) (sT M i (clT (M i) j)) := by
  refine sv_Ct_of (lo := [some (.ref (sv_ad G 14 i j))]) (pn_X2) rfl (Nat.le_of_ble_eq_true rfl) rfl (fun K X Y => ?_)
  replace X : sv_X G K cX2_close RX2 1 0 := X
  replace Y : sv_Y G K none _ _ := Y
  show sw_W G K 1 0 _ _ _
  refine sw_aload_0 X dX2_close_0 ?_
  refine sw_iconst X (nI 0) dX2_close_1 (by decide) ?_
  refine pf_X2_24 X hi hj dX2_close_2 ?_
  refine sw_aload_0 X dX2_close_5 ?_
  refine sw_iconst X (nI 0) dX2_close_6 (by decide) ?_
  refine pf_X2_34 X hi hj dX2_close_7 ?_
  exact sw_vret X Y dX2_close_10 rfl (by simp only [upT, sT_sT, sT_at]; rfl)
set_option maxHeartbeats 4000000 in
set_option maxRecDepth 100000 in
theorem c_X2_nearestSavepoint {G : sv_G} {M : sv_Mem} {i j : Nat} (hi : i < 8) (hj : j < 3) {nm : Int32} {c : Nat} (hc : M i 14 j 0 = nI c) (hc2 : c ≤ 13) : sv_Ct G M_X2_nearestSavepoint 2 [.ref (sv_ad G 14 i j), .int nm] M (some (.int (nrR (M i 16 j) nm (c - 1)))) (M) := by
  refine sv_Ct_of (lo := [some (.ref (sv_ad G 14 i j)), some (.int nm), none]) (pn_X2) rfl (Nat.le_of_ble_eq_true rfl) rfl (fun K X Y => ?_)
  replace X : sv_X G K cX2_nearestSavepoint RX2 3 2 := X
  replace Y : sv_Y G K (some .int) _ _ := Y
  show sw_W G K 3 0 _ _ _
  have L : ∀ q, q ≤ c - 1 → nrR (M i 16 j) nm (c - 1) = nrR (M i 16 j) nm q → ∀ x, x = nI q - nI 1 → sw_W G K 3 7 [some (.ref (sv_ad G 14 i j)), some (.int nm), some (.int x)] [] M := by
    intro q
    induction q with
    | zero =>
      intro hq hv x hx
      refine sw_iload_2 X dX2_nearestSavepoint_7 ?_
      refine sw_if_lt X 29 dX2_nearestSavepoint_8 (by decide) (fun h8 => ?_) (fun h8 => ?_)
      ·
        refine sw_bipush X (-5) dX2_nearestSavepoint_29 (by decide) ?_
        exact sw_iret X Y dX2_nearestSavepoint_31 (ri_of hv) (rfl)
      ·
        exact absurd (by rw [hx]; decide) h8
    | succ q ih =>
      intro hq hv x hx
      have hx2 : x = nI q := by rw [hx, pk_sub (by omega)]; rfl
      subst hx2
      refine sw_iload_2 X dX2_nearestSavepoint_7 ?_
      refine sw_if_lt X 29 dX2_nearestSavepoint_8 (by decide) (fun h8 => ?_) (fun h8 => ?_)
      ·
        exact absurd h8 (nI_pos (by omega))
      ·
        refine sw_aload_0 X dX2_nearestSavepoint_11 ?_
        refine gf_X2_15 X hi hj dX2_nearestSavepoint_12 ?_
        refine sw_iload_2 X dX2_nearestSavepoint_15 ?_
        refine ia_16 X hi hj rfl (by omega) dX2_nearestSavepoint_16 ?_
        refine sw_iload_1 X dX2_nearestSavepoint_17 ?_
        refine sw_icmp_ne X 23 dX2_nearestSavepoint_18 (by decide) (fun h18 => ?_) (fun h18 => ?_)
        ·
          have hv2 := hv.trans (if_neg h18)
          refine sw_iinc_2 X _ dX2_nearestSavepoint_23 rfl trivial ?_
          refine sw_goto X 7 dX2_nearestSavepoint_26 (by decide) ?_
          exact ih (by omega) hv2 _ (by rw [Int32.sub_eq_add_neg]; rfl)
        ·
          have hv2 := hv.trans (if_pos (by first | exact h18 | exact Decidable.of_not_not h18))
          refine sw_iload_2 X dX2_nearestSavepoint_21 ?_
          exact sw_iret X Y dX2_nearestSavepoint_22 (ri_of hv2) (rfl)
  refine sw_aload_0 X dX2_nearestSavepoint_0 ?_
  refine ca_X2_37 X hi hj (by decide) dX2_nearestSavepoint_1 (Nat.le_of_ble_eq_true rfl) (c_X2_savepointCount hi hj hc (by omega)) ?_
  refine sw_iconst X (nI 1) dX2_nearestSavepoint_4 (by decide) ?_
  refine sw_isub X dX2_nearestSavepoint_5 ?_
  refine sw_istore_2 X dX2_nearestSavepoint_6 trivial ?_
  exact L (c - 1) (Nat.le_refl _) rfl _ rfl
set_option maxHeartbeats 4000000 in
set_option maxRecDepth 100000 in
theorem c_X2_lockMode {G : sv_G} {M : sv_Mem} {i j : Nat} (hi : i < 8) (hj : j < 3) {k : Nat} (hk : k < 16) : sv_Ct G M_X2_lockMode 0 [.ref (sv_ad G 14 i j), .int (nI k)] M (some (.int (md (M i 14 j 1) k))) (M) := by
  refine sv_Ct_of (lo := [some (.ref (sv_ad G 14 i j)), some (.int (nI k))]) (pn_X2) rfl (Nat.le_of_ble_eq_true rfl) rfl (fun K X Y => ?_)
  replace X : sv_X G K cX2_lockMode RX2 2 0 := X
  replace Y : sv_Y G K (some .int) _ _ := Y
  show sw_W G K 2 0 _ _ _
  refine sw_aload_0 X dX2_lockMode_0 ?_
  refine gf_X2_34 X hi hj dX2_lockMode_1 ?_
  refine sw_iconst X (nI 2) dX2_lockMode_4 (by decide) ?_
  refine sw_iload_1 X dX2_lockMode_5 ?_
  refine sw_imul X dX2_lockMode_6 ?_
  try refine sw_tope (pk_mul _ _) ?_
  refine sw_iushr X dX2_lockMode_7 ?_
  refine sw_iconst X (nI 3) dX2_lockMode_8 (by decide) ?_
  refine sw_iand X dX2_lockMode_9 ?_
  exact sw_iret X Y dX2_lockMode_10 (ri_of (md_ushr _ hk).symm) (rfl)
set_option maxHeartbeats 4000000 in
set_option maxRecDepth 100000 in
theorem c_X2_setLockMode {G : sv_G} {M : sv_Mem} {i j : Nat} (hi : i < 8) (hj : j < 3) {k : Nat} {v : Int32} (hk : k < 16) : sv_Ct G M_X2_setLockMode 0 [.ref (sv_ad G 14 i j), .int (nI k), .int v] M (none) (sT M i (tu (M i) 14 j 1 (sm (M i 14 j 1) k v))) := by
  refine sv_Ct_of (lo := [some (.ref (sv_ad G 14 i j)), some (.int (nI k)), some (.int v), none]) (pn_X2) rfl (Nat.le_of_ble_eq_true rfl) rfl (fun K X Y => ?_)
  replace X : sv_X G K cX2_setLockMode RX2 4 0 := X
  replace Y : sv_Y G K none _ _ := Y
  show sw_W G K 4 0 _ _ _
  refine sw_iconst X (nI 2) dX2_setLockMode_0 (by decide) ?_
  refine sw_iload_1 X dX2_setLockMode_1 ?_
  refine sw_imul X dX2_setLockMode_2 ?_
  try refine sw_tope (pk_mul _ _) ?_
  refine sw_istore_3 X dX2_setLockMode_3 trivial ?_
  refine sw_aload_0 X dX2_setLockMode_4 ?_
  refine sw_aload_0 X dX2_setLockMode_5 ?_
  refine gf_X2_34 X hi hj dX2_setLockMode_6 ?_
  refine sw_iconst X (nI 3) dX2_setLockMode_9 (by decide) ?_
  refine sw_iload_3 X dX2_setLockMode_10 ?_
  refine sw_ishl X dX2_setLockMode_11 ?_
  refine sw_iconst X (-1) dX2_setLockMode_12 (by decide) ?_
  refine sw_ixor X dX2_setLockMode_13 ?_
  refine sw_iand X dX2_setLockMode_14 ?_
  refine sw_iload_2 X dX2_setLockMode_15 ?_
  refine sw_iload_3 X dX2_setLockMode_16 ?_
  refine sw_ishl X dX2_setLockMode_17 ?_
  refine sw_ior X dX2_setLockMode_18 ?_
  refine pf_X2_34 X hi hj dX2_setLockMode_19 ?_
  exact sw_vret X Y dX2_setLockMode_22 rfl (rfl)
set_option maxHeartbeats 4000000 in
set_option maxRecDepth 100000 in
theorem c_X2_lockCount {G : sv_G} {M : sv_Mem} {i j : Nat} (hi : i < 8) (hj : j < 3) {mode : Int32} : sv_Ct G M_X2_lockCount 1 [.ref (sv_ad G 14 i j), .int mode] M (some (.int (nI (cnt (fun k => md (M i 14 j 1) k = mode) 16)))) (M) := by
  refine sv_Ct_of (lo := [some (.ref (sv_ad G 14 i j)), some (.int mode), none, none]) (pn_X2) rfl (Nat.le_of_ble_eq_true rfl) rfl (fun K X Y => ?_)
  replace X : sv_X G K cX2_lockCount RX2 4 1 := X
  replace Y : sv_Y G K (some .int) _ _ := Y
  show sw_W G K 4 0 _ _ _
  have L : ∀ r, r ≤ 16 → (fun r => ∀ x, x = nI (cnt (fun k => md (M i 14 j 1) k = mode) r) → sw_W G K 4 4 [some (.ref (sv_ad G 14 i j)), some (.int mode), some (.int x), some (.int (nI r))] [] M) r := by
    refine up_ind (N := 16) (P := fun r => ∀ x, x = nI (cnt (fun k => md (M i 14 j 1) k = mode) r) → sw_W G K 4 4 [some (.ref (sv_ad G 14 i j)), some (.int mode), some (.int x), some (.int (nI r))] [] M) ?_
    intro r hr ih x hx
    refine sw_iload_3 X dX2_lockCount_4 ?_
    refine sw_bipush X (nI 16) dX2_lockCount_5 (by decide) ?_
    refine sw_icmp_ge X 28 dX2_lockCount_7 (by decide) (fun h7 => ?_) (fun h7 => ?_)
    ·
      have e : r = 16 := by have := (nI_leI (by omega) (by omega)).mp h7; omega
      subst e
      refine sw_iload_2 X dX2_lockCount_28 ?_
      exact sw_iret X Y dX2_lockCount_29 (ri_of hx.symm) (rfl)
    ·
      have hr3 : r < 16 := by have := mt (nI_leI (by omega) (by omega)).mpr h7; omega
      refine sw_aload_0 X dX2_lockCount_10 ?_
      refine sw_iload_3 X dX2_lockCount_11 ?_
      refine ca_X2_41 X hi hj (by decide) dX2_lockCount_12 (Nat.le_of_ble_eq_true rfl) (c_X2_lockMode hi hj hr3) ?_
      refine sw_iload_1 X dX2_lockCount_15 ?_
      refine sw_icmp_ne X 22 dX2_lockCount_16 (by decide) (fun h16 => ?_) (fun h16 => ?_)
      ·
        have hx2 := congrArg nI (cnt_f (p := fun k => md (M i 14 j 1) k = mode) (n := r) h16).symm
        rw [hx]
        first | refine sw_inc1_3 X dX2_lockCount_22 trivial ?_ | refine sw_iinc_3 X _ dX2_lockCount_22 rfl trivial ?_
        refine sw_goto X 4 dX2_lockCount_25 (by decide) ?_
        exact ih (r + 1) (by omega) (by omega) _ hx2
      ·
        have hx2 := congrArg nI (cnt_t (p := fun k => md (M i 14 j 1) k = mode) (n := r) (by first | exact h16 | exact Decidable.of_not_not h16)).symm
        rw [hx]
        first | refine sw_inc1_2 X dX2_lockCount_19 trivial ?_ | refine sw_iinc_2 X _ dX2_lockCount_19 rfl trivial ?_
        first | refine sw_inc1_3 X dX2_lockCount_22 trivial ?_ | refine sw_iinc_3 X _ dX2_lockCount_22 rfl trivial ?_
        refine sw_goto X 4 dX2_lockCount_25 (by decide) ?_
        exact ih (r + 1) (by omega) (by omega) _ hx2
  refine sw_iconst X (nI 0) dX2_lockCount_0 (by decide) ?_
  refine sw_istore_2 X dX2_lockCount_1 trivial ?_
  refine sw_iconst X (nI 0) dX2_lockCount_2 (by decide) ?_
  refine sw_istore_3 X dX2_lockCount_3 trivial ?_
  exact L 0 (by omega) _ rfl
set_option maxHeartbeats 4000000 in
set_option maxRecDepth 100000 in
theorem c_X2_locksChangedSince {G : sv_G} {M : sv_Mem} {i j : Nat} (hi : i < 8) (hj : j < 3) {c : Nat} (hc : M i 14 j 0 = nI c) (hc2 : c ≤ 14) {m : Nat} (hm : m < c) : sv_Ct G M_X2_locksChangedSince 0 [.ref (sv_ad G 14 i j), .int (nI m)] M (some (.int (lcS (M i 15 j m ^^^ M i 14 j 1) 16))) (M) := by
  refine sv_Ct_of (lo := [some (.ref (sv_ad G 14 i j)), some (.int (nI m)), none, none, none]) (pn_X2) rfl (Nat.le_of_ble_eq_true rfl) rfl (fun K X Y => ?_)
  replace X : sv_X G K cX2_locksChangedSince RX2 5 0 := X
  replace Y : sv_Y G K (some .int) _ _ := Y
  show sw_W G K 5 0 _ _ _
  have L : ∀ r, r ≤ 16 → (fun r => ∀ x, x = lcS (M i 15 j m ^^^ M i 14 j 1) r → sw_W G K 5 31 [some (.ref (sv_ad G 14 i j)), some (.int (nI m)), some (.int (M i 15 j m ^^^ M i 14 j 1)), some (.int x), some (.int (nI r))] [] M) r := by
    refine up_ind (N := 16) (P := fun r => ∀ x, x = lcS (M i 15 j m ^^^ M i 14 j 1) r → sw_W G K 5 31 [some (.ref (sv_ad G 14 i j)), some (.int (nI m)), some (.int (M i 15 j m ^^^ M i 14 j 1)), some (.int x), some (.int (nI r))] [] M) ?_
    intro r hr ih x hx
    refine sw_iload_4 X dX2_locksChangedSince_31 ?_
    refine sw_bipush X (nI 16) dX2_locksChangedSince_33 (by decide) ?_
    refine sw_icmp_ge X 62 dX2_locksChangedSince_35 (by decide) (fun h35 => ?_) (fun h35 => ?_)
    ·
      have e : r = 16 := by have := (nI_leI (by omega) (by omega)).mp h35; omega
      subst e
      refine sw_iload_3 X dX2_locksChangedSince_62 ?_
      exact sw_iret X Y dX2_locksChangedSince_63 (ri_of hx.symm) (rfl)
    ·
      have hr3 : r < 16 := by have := mt (nI_leI (by omega) (by omega)).mpr h35; omega
      refine sw_iload_2 X dX2_locksChangedSince_38 ?_
      refine sw_iconst X (nI 2) dX2_locksChangedSince_39 (by decide) ?_
      refine sw_iload_4 X dX2_locksChangedSince_40 ?_
      refine sw_imul X dX2_locksChangedSince_42 ?_
      try refine sw_tope (pk_mul _ _) ?_
      refine sw_iushr X dX2_locksChangedSince_43 ?_
      refine sw_iconst X (nI 3) dX2_locksChangedSince_44 (by decide) ?_
      refine sw_iand X dX2_locksChangedSince_45 ?_
      refine sw_tope (v2 := md (M i 15 j m ^^^ M i 14 j 1) r) (md_ushr _ hr3) ?_
      refine sw_if_eq X 56 dX2_locksChangedSince_46 (by decide) (fun h46 => ?_) (fun h46 => ?_)
      ·
        have hx2 : x = lcS (M i 15 j m ^^^ M i 14 j 1) (r + 1) := hx.trans (if_pos h46).symm
        first | refine sw_inc1_4 X dX2_locksChangedSince_56 trivial ?_ | refine sw_iinc_4 X _ dX2_locksChangedSince_56 rfl trivial ?_
        refine sw_goto X 31 dX2_locksChangedSince_59 (by decide) ?_
        exact ih (r + 1) (by omega) (by omega) _ hx2
      ·
        have hx2 : sb x r = lcS (M i 15 j m ^^^ M i 14 j 1) (r + 1) := (congrArg (fun z => sb z r) hx).trans (if_neg h46).symm
        refine sw_iload_3 X dX2_locksChangedSince_49 ?_
        refine sw_iconst X (nI 1) dX2_locksChangedSince_50 (by decide) ?_
        refine sw_iload_4 X dX2_locksChangedSince_51 ?_
        refine sw_ishl X dX2_locksChangedSince_53 ?_
        refine sw_ior X dX2_locksChangedSince_54 ?_
        refine sw_istore_3 X dX2_locksChangedSince_55 trivial ?_
        first | refine sw_inc1_4 X dX2_locksChangedSince_56 trivial ?_ | refine sw_iinc_4 X _ dX2_locksChangedSince_56 rfl trivial ?_
        refine sw_goto X 31 dX2_locksChangedSince_59 (by decide) ?_
        exact ih (r + 1) (by omega) (by omega) _ hx2
  refine sw_iload_1 X dX2_locksChangedSince_0 ?_
  refine sw_if_lt X 12 dX2_locksChangedSince_1 (by decide) (fun h1 => ?_) (fun h1 => ?_)
  ·
    exact absurd h1 (nI_pos (by omega))
  ·
    refine sw_iload_1 X dX2_locksChangedSince_4 ?_
    refine sw_aload_0 X dX2_locksChangedSince_5 ?_
    refine gf_X2_24 X hi hj dX2_locksChangedSince_6 ?_
    refine sw_tope hc ?_
    refine sw_icmp_lt X 14 dX2_locksChangedSince_9 (by decide) (fun h9 => ?_) (fun h9 => ?_)
    ·
      refine sw_aload_0 X dX2_locksChangedSince_14 ?_
      refine gf_X2_9 X hi hj dX2_locksChangedSince_15 ?_
      refine sw_iload_1 X dX2_locksChangedSince_18 ?_
      refine ia_15 X hi hj rfl (by omega) dX2_locksChangedSince_19 ?_
      refine sw_aload_0 X dX2_locksChangedSince_20 ?_
      refine gf_X2_34 X hi hj dX2_locksChangedSince_21 ?_
      refine sw_ixor X dX2_locksChangedSince_24 ?_
      refine sw_istore_2 X dX2_locksChangedSince_25 trivial ?_
      refine sw_iconst X (nI 0) dX2_locksChangedSince_26 (by decide) ?_
      refine sw_istore_3 X dX2_locksChangedSince_27 trivial ?_
      refine sw_iconst X (nI 0) dX2_locksChangedSince_28 (by decide) ?_
      refine sw_istore_4 X dX2_locksChangedSince_29 trivial ?_
      exact L 0 (by omega) _ rfl
    ·
      exact absurd ((nI_ltI (by omega) (by omega)).mpr hm) (by first | exact h9 | exact Int32.not_lt.mpr (by first | exact h9 | exact Int32.not_lt.mp h9))
set_option maxHeartbeats 4000000 in
set_option maxRecDepth 100000 in
theorem c_X2_undoLocks {G : sv_G} {M : sv_Mem} {i j : Nat} (hi : i < 8) (hj : j < 3) {c : Nat} (hc : M i 14 j 0 = nI c) (hc2 : c ≤ 14) {m : Nat} (hm : m < c) : sv_Ct G M_X2_undoLocks 0 [.ref (sv_ad G 14 i j), .int (nI m)] M (none) (sT M i (tu (M i) 14 j 1 (M i 15 j m))) := by
  refine sv_Ct_of (lo := [some (.ref (sv_ad G 14 i j)), some (.int (nI m))]) (pn_X2) rfl (Nat.le_of_ble_eq_true rfl) rfl (fun K X Y => ?_)
  replace X : sv_X G K cX2_undoLocks RX2 2 0 := X
  replace Y : sv_Y G K none _ _ := Y
  show sw_W G K 2 0 _ _ _
  refine sw_iload_1 X dX2_undoLocks_0 ?_
  refine sw_if_lt X 22 dX2_undoLocks_1 (by decide) (fun h1 => ?_) (fun h1 => ?_)
  ·
    exact absurd h1 (nI_pos (by omega))
  ·
    refine sw_iload_1 X dX2_undoLocks_4 ?_
    refine sw_aload_0 X dX2_undoLocks_5 ?_
    refine gf_X2_24 X hi hj dX2_undoLocks_6 ?_
    refine sw_tope hc ?_
    refine sw_icmp_ge X 22 dX2_undoLocks_9 (by decide) (fun h9 => ?_) (fun h9 => ?_)
    ·
      exact absurd ((nI_leI (by omega) (by omega)).mp h9) (by omega)
    ·
      refine sw_aload_0 X dX2_undoLocks_12 ?_
      refine sw_aload_0 X dX2_undoLocks_13 ?_
      refine gf_X2_9 X hi hj dX2_undoLocks_14 ?_
      refine sw_iload_1 X dX2_undoLocks_17 ?_
      refine ia_15 X hi hj rfl (by omega) dX2_undoLocks_18 ?_
      refine pf_X2_34 X hi hj dX2_undoLocks_19 ?_
      exact sw_vret X Y dX2_undoLocks_22 rfl (rfl)
set_option maxHeartbeats 4000000 in
set_option maxRecDepth 100000 in
theorem c_X2_noteChangeAt {G : sv_G} {M : sv_Mem} {i j : Nat} (hi : i < 8) (hj : j < 3) {m k : Nat} {v : Int32} (hm : m < 14) (hk : k < 16) : sv_Ct G M_X2_noteChangeAt 0 [.ref (sv_ad G 14 i j), .int (nI m), .int (nI k), .int v] M (none) (sT M i (ncT (M i) j m k v)) := by
  refine sv_Ct_of (lo := [some (.ref (sv_ad G 14 i j)), some (.int (nI m)), some (.int (nI k)), some (.int v), none]) (pn_X2) rfl (Nat.le_of_ble_eq_true rfl) rfl (fun K X Y => ?_)
  replace X : sv_X G K cX2_noteChangeAt RX2 5 0 := X
  replace Y : sv_Y G K none _ _ := Y
  show sw_W G K 5 0 _ _ _
  refine sw_iconst X (nI 1) dX2_noteChangeAt_0 (by decide) ?_
  refine sw_iload_2 X dX2_noteChangeAt_1 ?_
  refine sw_ishl X dX2_noteChangeAt_2 ?_
  refine sw_istore_4 X dX2_noteChangeAt_3 trivial ?_
  refine sw_aload_0 X dX2_noteChangeAt_5 ?_
  refine gf_X2_18 X hi hj dX2_noteChangeAt_6 ?_
  refine sw_iload_1 X dX2_noteChangeAt_9 ?_
  refine ia_17 X hi hj rfl (by omega) dX2_noteChangeAt_10 ?_
  refine sw_iload_4 X dX2_noteChangeAt_11 ?_
  refine sw_iand X dX2_noteChangeAt_13 ?_
  refine sw_if_ne X 40 dX2_noteChangeAt_14 (by decide) (fun h14 => ?_) (fun h14 => ?_)
  ·
    have hb : bt (M i 17 j m) k = true := by cases hbb : bt (M i 17 j m) k with | true => rfl | false => exact absurd ((bt_and0 _ (by omega)).mpr hbb) h14
    exact sw_vret X Y dX2_noteChangeAt_40 rfl (by unfold ncT; first | (rw [if_pos hb, sT_id]; done) | (rw [if_neg hb]; simp only [upT, sT_sT, sT_at]; rfl))
  ·
    have hb : ¬ bt (M i 17 j m) k = true := by have := (bt_and0 (M i 17 j m) (k := k) (by omega)).mp (by first | exact h14 | exact Decidable.of_not_not h14); rw [this]; decide
    refine sw_aload_0 X dX2_noteChangeAt_17 ?_
    refine gf_X2_18 X hi hj dX2_noteChangeAt_18 ?_
    refine sw_iload_1 X dX2_noteChangeAt_21 ?_
    refine sw_dup2 X dX2_noteChangeAt_22 rfl rfl ?_
    refine ia_17 X hi hj rfl (by omega) dX2_noteChangeAt_23 ?_
    refine sw_iload_4 X dX2_noteChangeAt_24 ?_
    refine sw_ior X dX2_noteChangeAt_26 ?_
    refine is_17 X hi hj rfl (by omega) dX2_noteChangeAt_27 ?_
    refine sw_aload_0 X dX2_noteChangeAt_28 ?_
    refine gf_X2_21 X hi hj dX2_noteChangeAt_29 ?_
    refine sw_iload_1 X dX2_noteChangeAt_32 ?_
    refine sw_bipush X (nI 16) dX2_noteChangeAt_33 (by decide) ?_
    refine sw_imul X dX2_noteChangeAt_35 ?_
    try refine sw_tope (pk_mul _ _) ?_
    refine sw_iload_2 X dX2_noteChangeAt_36 ?_
    refine sw_iadd X dX2_noteChangeAt_37 ?_
    try refine sw_tope (nI_add _ _) ?_
    refine sw_iload_3 X dX2_noteChangeAt_38 ?_
    refine is_18 X hi hj rfl (by omega) dX2_noteChangeAt_39 ?_
    exact sw_vret X Y dX2_noteChangeAt_40 rfl (by unfold ncT; first | (rw [if_pos hb, sT_id]; done) | (rw [if_neg hb]; simp only [upT, sT_sT, sT_at]; rfl))
set_option maxHeartbeats 4000000 in
set_option maxRecDepth 100000 in
theorem c_X2_noteChange {G : sv_G} {M : sv_Mem} {i j : Nat} (hi : i < 8) (hj : j < 3) {c k : Nat} {v : Int32} (hc : M i 14 j 0 = nI (c + 1)) (hc2 : c < 14) (hk : k < 16) : sv_Ct G M_X2_noteChange 1 [.ref (sv_ad G 14 i j), .int (nI k), .int v] M (none) (sT M i (ncT (M i) j c k v)) := by
  refine sv_Ct_of (lo := [some (.ref (sv_ad G 14 i j)), some (.int (nI k)), some (.int v), none]) (pn_X2) rfl (Nat.le_of_ble_eq_true rfl) rfl (fun K X Y => ?_)
  replace X : sv_X G K cX2_noteChange RX2 4 1 := X
  replace Y : sv_Y G K none _ _ := Y
  show sw_W G K 4 0 _ _ _
  refine sw_aload_0 X dX2_noteChange_0 ?_
  refine gf_X2_24 X hi hj dX2_noteChange_1 ?_
  refine sw_tope hc ?_
  refine sw_iconst X (nI 1) dX2_noteChange_4 (by decide) ?_
  refine sw_isub X dX2_noteChange_5 ?_
  refine sw_tope (v2 := nI c) (by rw [pk_sub (by omega)]; rfl) ?_
  refine sw_istore_3 X dX2_noteChange_6 trivial ?_
  refine sw_iload_3 X dX2_noteChange_7 ?_
  refine sw_if_lt X 18 dX2_noteChange_8 (by decide) (fun h8 => ?_) (fun h8 => ?_)
  ·
    exact absurd h8 (nI_pos (by omega))
  ·
    refine sw_aload_0 X dX2_noteChange_11 ?_
    refine sw_iload_3 X dX2_noteChange_12 ?_
    refine sw_iload_1 X dX2_noteChange_13 ?_
    refine sw_iload_2 X dX2_noteChange_14 ?_
    refine ca_X2_45 X hi hj (by decide) dX2_noteChange_15 (Nat.le_of_ble_eq_true rfl) (c_X2_noteChangeAt hi hj hc2 hk) ?_
    exact sw_vret X Y dX2_noteChange_18 rfl (rfl)
set_option maxHeartbeats 4000000 in
set_option maxRecDepth 100000 in
theorem c_X2_keysChangedSince {G : sv_G} {M : sv_Mem} {i j : Nat} (hi : i < 8) (hj : j < 3) {c : Nat} (hc : M i 14 j 0 = nI c) (hc2 : c ≤ 14) {m : Nat} (hm : m ≤ c) : sv_Ct G M_X2_keysChangedSince 1 [.ref (sv_ad G 14 i j), .int (nI m)] M (some (.int (sncR (M i 17 j) (c - m) m (nI 0)))) (M) := by
  refine sv_Ct_of (lo := [some (.ref (sv_ad G 14 i j)), some (.int (nI m)), none, none]) (pn_X2) rfl (Nat.le_of_ble_eq_true rfl) rfl (fun K X Y => ?_)
  replace X : sv_X G K cX2_keysChangedSince RX2 4 1 := X
  replace Y : sv_Y G K (some .int) _ _ := Y
  show sw_W G K 4 0 _ _ _
  have L : ∀ q r acc, r + q = c → sncR (M i 17 j) (c - m) m (nI 0) = sncR (M i 17 j) q r acc → sw_W G K 4 8 [some (.ref (sv_ad G 14 i j)), some (.int (nI m)), some (.int acc), some (.int (nI r))] [] M := by
    intro q
    induction q with
    | zero =>
      intro r acc hr hv
      refine sw_iload_3 X dX2_keysChangedSince_8 ?_
      refine sw_aload_0 X dX2_keysChangedSince_9 ?_
      refine gf_X2_24 X hi hj dX2_keysChangedSince_10 ?_
      refine sw_tope hc ?_
      refine sw_icmp_ge X 31 dX2_keysChangedSince_13 (by decide) (fun h13 => ?_) (fun h13 => ?_)
      ·
        refine sw_iload_2 X dX2_keysChangedSince_31 ?_
        exact sw_iret X Y dX2_keysChangedSince_32 (ri_of hv) (rfl)
      ·
        exact absurd ((nI_leI (by omega) (by omega)).mpr (by omega)) h13
    | succ q ih =>
      intro r acc hr hv
      refine sw_iload_3 X dX2_keysChangedSince_8 ?_
      refine sw_aload_0 X dX2_keysChangedSince_9 ?_
      refine gf_X2_24 X hi hj dX2_keysChangedSince_10 ?_
      refine sw_tope hc ?_
      refine sw_icmp_ge X 31 dX2_keysChangedSince_13 (by decide) (fun h13 => ?_) (fun h13 => ?_)
      ·
        exact absurd ((nI_leI (by omega) (by omega)).mp h13) (by omega)
      ·
        refine sw_iload_2 X dX2_keysChangedSince_16 ?_
        refine sw_aload_0 X dX2_keysChangedSince_17 ?_
        refine gf_X2_18 X hi hj dX2_keysChangedSince_18 ?_
        refine sw_iload_3 X dX2_keysChangedSince_21 ?_
        refine ia_17 X hi hj rfl (by omega) dX2_keysChangedSince_22 ?_
        refine sw_ior X dX2_keysChangedSince_23 ?_
        refine sw_istore_2 X dX2_keysChangedSince_24 trivial ?_
        first | refine sw_inc1_3 X dX2_keysChangedSince_25 trivial ?_ | refine sw_iinc_3 X _ dX2_keysChangedSince_25 rfl trivial ?_
        refine sw_goto X 8 dX2_keysChangedSince_28 (by decide) ?_
        exact ih (r + 1) _ (by omega) hv
  refine sw_iconst X (nI 0) dX2_keysChangedSince_0 (by decide) ?_
  refine sw_istore_2 X dX2_keysChangedSince_1 trivial ?_
  refine sw_iload_1 X dX2_keysChangedSince_2 ?_
  refine sw_iconst X (nI 0) dX2_keysChangedSince_3 (by decide) ?_
  refine sw_mmax X wl_X2_28 wx_maxs wx_math wx_maxc (by decide) (Nat.le_of_ble_eq_true rfl) dX2_keysChangedSince_4 ?_
  refine sw_tope (v2 := nI m) (by rw [mxN (by omega) (by omega), Nat.max_eq_left (Nat.zero_le _)]) ?_
  refine sw_istore_3 X dX2_keysChangedSince_7 trivial ?_
  exact L _ _ _ (by omega) rfl
set_option maxHeartbeats 4000000 in
set_option maxRecDepth 100000 in
theorem c_X2_valueAt {G : sv_G} {M : sv_Mem} {i j : Nat} (hi : i < 8) (hj : j < 3) {c : Nat} (hc : M i 14 j 0 = nI c) (hc2 : c ≤ 14) {m k : Nat} {pr : Int32} (hm : m ≤ 14) (hk : k < 16) : sv_Ct G M_X2_valueAt 1 [.ref (sv_ad G 14 i j), .int (nI m), .int (nI k), .int pr] M (some (.int (fvR (M i 17 j) (fun r => M i 18 j (r * 16 + k)) k pr (c - m) m))) (M) := by
  refine sv_Ct_of (lo := [some (.ref (sv_ad G 14 i j)), some (.int (nI m)), some (.int (nI k)), some (.int pr), none]) (pn_X2) rfl (Nat.le_of_ble_eq_true rfl) rfl (fun K X Y => ?_)
  replace X : sv_X G K cX2_valueAt RX2 5 1 := X
  replace Y : sv_Y G K (some .int) _ _ := Y
  show sw_W G K 5 0 _ _ _
  have L : ∀ q r, r + q = c ∨ (q = 0 ∧ c ≤ r) → fvR (M i 17 j) (fun r => M i 18 j (r * 16 + k)) k pr (c - m) m = fvR (M i 17 j) (fun r => M i 18 j (r * 16 + k)) k pr q r → r ≤ 14 → sw_W G K 5 7 [some (.ref (sv_ad G 14 i j)), some (.int (nI m)), some (.int (nI k)), some (.int pr), some (.int (nI r))] [] M := by
    intro q
    induction q with
    | zero =>
      intro r hr hv hr14
      refine sw_iload_4 X dX2_valueAt_7 ?_
      refine sw_aload_0 X dX2_valueAt_9 ?_
      refine gf_X2_24 X hi hj dX2_valueAt_10 ?_
      refine sw_tope hc ?_
      refine sw_icmp_ge X 49 dX2_valueAt_13 (by decide) (fun h13 => ?_) (fun h13 => ?_)
      ·
        refine sw_iload_3 X dX2_valueAt_49 ?_
        exact sw_iret X Y dX2_valueAt_50 (ri_of hv) (rfl)
      ·
        exact absurd ((nI_leI (by omega) (by omega)).mpr (by omega)) h13
    | succ q ih =>
      intro r hr hv hr14
      refine sw_iload_4 X dX2_valueAt_7 ?_
      refine sw_aload_0 X dX2_valueAt_9 ?_
      refine gf_X2_24 X hi hj dX2_valueAt_10 ?_
      refine sw_tope hc ?_
      refine sw_icmp_ge X 49 dX2_valueAt_13 (by decide) (fun h13 => ?_) (fun h13 => ?_)
      ·
        exact absurd ((nI_leI (by omega) (by omega)).mp h13) (by omega)
      ·
        refine sw_aload_0 X dX2_valueAt_16 ?_
        refine gf_X2_18 X hi hj dX2_valueAt_17 ?_
        refine sw_iload_4 X dX2_valueAt_20 ?_
        refine ia_17 X hi hj rfl (by omega) dX2_valueAt_22 ?_
        refine sw_iload_2 X dX2_valueAt_23 ?_
        refine sw_ishr X dX2_valueAt_24 ?_
        refine sw_iconst X (nI 1) dX2_valueAt_25 (by decide) ?_
        refine sw_iand X dX2_valueAt_26 ?_
        refine sw_if_eq X 43 dX2_valueAt_27 (by decide) (fun h27 => ?_) (fun h27 => ?_)
        ·
          have hb : ¬ bt (M i 17 j r) k = true := by have := (bt_has0 _ (by omega)).mp h27; rw [this]; decide
          have hv2 := hv.trans (if_neg hb)
          first | refine sw_inc1_4 X dX2_valueAt_43 trivial ?_ | refine sw_iinc_4 X _ dX2_valueAt_43 rfl trivial ?_
          refine sw_goto X 7 dX2_valueAt_46 (by decide) ?_
          exact ih (r + 1) (by omega) hv2 (by omega)
        ·
          have hb : bt (M i 17 j r) k = true := by cases hbb : bt (M i 17 j r) k with | true => rfl | false => exact absurd ((bt_has0 _ (by omega)).mpr hbb) h27
          have hv2 := hv.trans (if_pos hb)
          refine sw_aload_0 X dX2_valueAt_30 ?_
          refine gf_X2_21 X hi hj dX2_valueAt_31 ?_
          refine sw_iload_4 X dX2_valueAt_34 ?_
          refine sw_bipush X (nI 16) dX2_valueAt_36 (by decide) ?_
          refine sw_imul X dX2_valueAt_38 ?_
          try refine sw_tope (pk_mul _ _) ?_
          refine sw_iload_2 X dX2_valueAt_39 ?_
          refine sw_iadd X dX2_valueAt_40 ?_
          try refine sw_tope (nI_add _ _) ?_
          refine ia_18 X hi hj rfl (by omega) dX2_valueAt_41 ?_
          exact sw_iret X Y dX2_valueAt_42 (ri_of hv2) (rfl)
  refine sw_iload_1 X dX2_valueAt_0 ?_
  refine sw_iconst X (nI 0) dX2_valueAt_1 (by decide) ?_
  refine sw_mmax X wl_X2_28 wx_maxs wx_math wx_maxc (by decide) (Nat.le_of_ble_eq_true rfl) dX2_valueAt_2 ?_
  refine sw_tope (v2 := nI m) (by rw [mxN (by omega) (by omega), Nat.max_eq_left (Nat.zero_le _)]) ?_
  refine sw_istore_4 X dX2_valueAt_5 trivial ?_
  exact L _ _ (by omega) rfl hm
set_option maxHeartbeats 4000000 in
set_option maxRecDepth 100000 in
theorem c_X2_forgetChangesSince {G : sv_G} {M : sv_Mem} {i j : Nat} (hi : i < 8) (hj : j < 3) {c : Nat} (hc : M i 14 j 0 = nI c) (hc2 : c ≤ 14) {m : Nat} (hm : m ≤ c) : sv_Ct G M_X2_forgetChangesSince 1 [.ref (sv_ad G 14 i j), .int (nI m)] M (none) (sT M i (fcT j (c - m) m (M i))) := by
  refine sv_Ct_of (lo := [some (.ref (sv_ad G 14 i j)), some (.int (nI m)), none]) (pn_X2) rfl (Nat.le_of_ble_eq_true rfl) rfl (fun K X Y => ?_)
  replace X : sv_X G K cX2_forgetChangesSince RX2 3 1 := X
  replace Y : sv_Y G K none _ _ := Y
  show sw_W G K 3 0 _ _ _
  have L : ∀ q r U, r + q = c → U 14 j 0 = nI c → fcT j q r U = fcT j (c - m) m (M i) → sw_W G K 3 6 [some (.ref (sv_ad G 14 i j)), some (.int (nI m)), some (.int (nI r))] [] (sT M i U) := by
    intro q
    induction q with
    | zero =>
      intro r U hr hU hv
      refine sw_iload_2 X dX2_forgetChangesSince_6 ?_
      refine sw_aload_0 X dX2_forgetChangesSince_7 ?_
      refine gf_X2_24 X hi hj dX2_forgetChangesSince_8 ?_
      refine sw_tope (v2 := nI c) (by rw [sT_at]; exact hU) ?_
      refine sw_icmp_ge X 27 dX2_forgetChangesSince_11 (by decide) (fun h11 => ?_) (fun h11 => ?_)
      ·
        exact sw_vret X Y dX2_forgetChangesSince_27 rfl (by rw [← hv]; rfl)
      ·
        exact absurd ((nI_leI (by omega) (by omega)).mpr (by omega)) h11
    | succ q ih =>
      intro r U hr hU hv
      refine sw_iload_2 X dX2_forgetChangesSince_6 ?_
      refine sw_aload_0 X dX2_forgetChangesSince_7 ?_
      refine gf_X2_24 X hi hj dX2_forgetChangesSince_8 ?_
      refine sw_tope (v2 := nI c) (by rw [sT_at]; exact hU) ?_
      refine sw_icmp_ge X 27 dX2_forgetChangesSince_11 (by decide) (fun h11 => ?_) (fun h11 => ?_)
      ·
        exact absurd ((nI_leI (by omega) (by omega)).mp h11) (by omega)
      ·
        refine sw_aload_0 X dX2_forgetChangesSince_14 ?_
        refine gf_X2_18 X hi hj dX2_forgetChangesSince_15 ?_
        refine sw_iload_2 X dX2_forgetChangesSince_18 ?_
        refine sw_iconst X (nI 0) dX2_forgetChangesSince_19 (by decide) ?_
        refine is_17 X hi hj rfl (by omega) dX2_forgetChangesSince_20 ?_
        first | refine sw_inc1_2 X dX2_forgetChangesSince_21 trivial ?_ | refine sw_iinc_2 X _ dX2_forgetChangesSince_21 rfl trivial ?_
        refine sw_goto X 6 dX2_forgetChangesSince_24 (by decide) ?_
        refine sw_mem (by rw [upT, sT_sT, sT_at]) (ih (r + 1) _ (by omega) (by rw [tu_ne _ _ _ (by omega)]; exact hU) hv)
  refine sw_iload_1 X dX2_forgetChangesSince_0 ?_
  refine sw_iconst X (nI 0) dX2_forgetChangesSince_1 (by decide) ?_
  refine sw_mmax X wl_X2_28 wx_maxs wx_math wx_maxc (by decide) (Nat.le_of_ble_eq_true rfl) dX2_forgetChangesSince_2 ?_
  refine sw_tope (v2 := nI m) (by rw [mxN (by omega) (by omega), Nat.max_eq_left (Nat.zero_le _)]) ?_
  refine sw_istore_2 X dX2_forgetChangesSince_5 trivial ?_
  exact sw_mem (by rw [sT_id]) (L _ _ (M i) (by omega) hc rfl)
set_option maxHeartbeats 4000000 in
set_option maxRecDepth 100000 in
theorem c_X2_dropMomentsAfter {G : sv_G} {M : sv_Mem} {i j : Nat} (hi : i < 8) (hj : j < 3) {c : Nat} (hc : M i 14 j 0 = nI c) (hc2 : c ≤ 14) {m : Nat} (hm : m < c) : sv_Ct G M_X2_dropMomentsAfter 1 [.ref (sv_ad G 14 i j), .int (nI m)] M (none) (sT M i (drT (M i) j m c)) := by
  refine sv_Ct_of (lo := [some (.ref (sv_ad G 14 i j)), some (.int (nI m)), none, none]) (pn_X2) rfl (Nat.le_of_ble_eq_true rfl) rfl (fun K X Y => ?_)
  replace X : sv_X G K cX2_dropMomentsAfter RX2 4 1 := X
  replace Y : sv_Y G K none _ _ := Y
  show sw_W G K 4 0 _ _ _
  have L : ∀ q r U l3, r + q = c → m < r → U 14 j 0 = nI c → drR j m q r U = drR j m (c - (m + 1)) (m + 1) (M i) → sw_W G K 4 9 [some (.ref (sv_ad G 14 i j)), some (.int (nI m)), some (.int (nI r)), l3] [] (sT M i U) := by
    intro q
    induction q with
    | zero =>
      intro r U l3 hr hmr hU hv
      refine sw_iload_2 X dX2_dropMomentsAfter_9 ?_
      refine sw_aload_0 X dX2_dropMomentsAfter_10 ?_
      refine gf_X2_24 X hi hj dX2_dropMomentsAfter_11 ?_
      refine sw_tope (v2 := nI c) (by rw [sT_at]; exact hU) ?_
      refine sw_icmp_ge X 67 dX2_dropMomentsAfter_14 (by decide) (fun h14 => ?_) (fun h14 => ?_)
      ·
        refine sw_aload_0 X dX2_dropMomentsAfter_67 ?_
        refine sw_aload_0 X dX2_dropMomentsAfter_68 ?_
        refine gf_X2_24 X hi hj dX2_dropMomentsAfter_69 ?_
        refine sw_tope (v2 := nI c) (by rw [sT_at]; exact hU) ?_
        refine sw_iload_1 X dX2_dropMomentsAfter_72 ?_
        refine sw_iconst X (nI 1) dX2_dropMomentsAfter_73 (by decide) ?_
        refine sw_iadd X dX2_dropMomentsAfter_74 ?_
        try refine sw_tope (nI_add _ _) ?_
        refine sw_mmin X wl_X2_49 wx_mins wx_math wx_minc (by decide) (Nat.le_of_ble_eq_true rfl) dX2_dropMomentsAfter_75 ?_
        refine sw_tope (v2 := nI (m + 1)) (by rw [mnN (by omega) (by omega), Nat.min_eq_right (by omega)]) ?_
        refine pf_X2_24 X hi hj dX2_dropMomentsAfter_78 ?_
        exact sw_vret X Y dX2_dropMomentsAfter_81 rfl (by rw [upT, sT_sT, sT_at]; unfold drT; rw [← hv]; rfl)
      ·
        exact absurd ((nI_leI (by omega) (by omega)).mpr (by omega)) h14
    | succ q ih =>
      intro r U l3 hr hmr hU hv
      have LK : ∀ k, k ≤ 16 → (fun k => sw_W G K 4 19 [some (.ref (sv_ad G 14 i j)), some (.int (nI m)), some (.int (nI r)), some (.int (nI k))] [] (sT M i (drK U j m r k))) k := by
        refine up_ind (N := 16) (P := fun k => sw_W G K 4 19 [some (.ref (sv_ad G 14 i j)), some (.int (nI m)), some (.int (nI r)), some (.int (nI k))] [] (sT M i (drK U j m r k))) ?_
        intro k hk16 ih2
        show sw_W _ _ _ _ _ _ _
        refine sw_iload_3 X dX2_dropMomentsAfter_19 ?_
        refine sw_bipush X (nI 16) dX2_dropMomentsAfter_20 (by decide) ?_
        refine sw_icmp_ge X 61 dX2_dropMomentsAfter_22 (by decide) (fun h22 => ?_) (fun h22 => ?_)
        ·
          have e : k = 16 := by have := (nI_leI (by omega) (by omega)).mp h22; omega
          subst e
          refine sw_inc1_2 X dX2_dropMomentsAfter_61 trivial ?_
          refine sw_goto X 9 dX2_dropMomentsAfter_64 (by decide) ?_
          exact ih (r + 1) _ _ (by omega) (by omega) (by rw [drK_ne (by omega)]; exact hU) hv
        ·
          have hk3 : k < 16 := by have := mt (nI_leI (by omega) (by omega)).mpr h22; omega
          refine sw_aload_0 X dX2_dropMomentsAfter_25 ?_
          refine gf_X2_18 X hi hj dX2_dropMomentsAfter_26 ?_
          refine sw_iload_2 X dX2_dropMomentsAfter_29 ?_
          refine ia_17 X hi hj rfl (by omega) dX2_dropMomentsAfter_30 ?_
          refine sw_tope (v2 := U 17 j r) (by rw [sT_at, drK_17 (by omega)]) ?_
          refine sw_iload_3 X dX2_dropMomentsAfter_31 ?_
          refine sw_ishr X dX2_dropMomentsAfter_32 ?_
          refine sw_iconst X (nI 1) dX2_dropMomentsAfter_33 (by decide) ?_
          refine sw_iand X dX2_dropMomentsAfter_34 ?_
          refine sw_if_eq X 55 dX2_dropMomentsAfter_35 (by decide) (fun h35 => ?_) (fun h35 => ?_)
          ·
            have hb : ¬ bt (U 17 j r) k = true := by have := (bt_has0 _ (by omega)).mp h35; rw [this]; decide
            refine sw_mem (M2 := sT M i (drK U j m r (k + 1))) (by first | (rw [drK_t hb, sT_at, sT_sT]; done) | (rw [drK_f hb]; done)) ?_
            refine sw_inc1_3 X dX2_dropMomentsAfter_55 trivial ?_
            refine sw_goto X 19 dX2_dropMomentsAfter_58 (by decide) ?_
            exact ih2 (k + 1) (by omega) (by omega)
          ·
            have hb : bt (U 17 j r) k = true := by cases hbb : bt (U 17 j r) k with | true => rfl | false => exact absurd ((bt_has0 _ (by omega)).mpr hbb) h35
            refine sw_aload_0 X dX2_dropMomentsAfter_38 ?_
            refine sw_iload_1 X dX2_dropMomentsAfter_39 ?_
            refine sw_iload_3 X dX2_dropMomentsAfter_40 ?_
            refine sw_aload_0 X dX2_dropMomentsAfter_41 ?_
            refine gf_X2_21 X hi hj dX2_dropMomentsAfter_42 ?_
            refine sw_iload_2 X dX2_dropMomentsAfter_45 ?_
            refine sw_bipush X (nI 16) dX2_dropMomentsAfter_46 (by decide) ?_
            refine sw_imul X dX2_dropMomentsAfter_48 ?_
            try refine sw_tope (pk_mul _ _) ?_
            refine sw_iload_3 X dX2_dropMomentsAfter_49 ?_
            refine sw_iadd X dX2_dropMomentsAfter_50 ?_
            try refine sw_tope (nI_add _ _) ?_
            refine ia_18 X hi hj rfl (by omega) dX2_dropMomentsAfter_51 ?_
            refine sw_tope (v2 := U 18 j (r * 16 + k)) (by rw [sT_at, drK_18 _ (by omega)]) ?_
            refine ca_X2_45 X hi hj (by decide) dX2_dropMomentsAfter_52 (Nat.le_of_ble_eq_true rfl) (c_X2_noteChangeAt hi hj (by omega) hk3) ?_
            refine sw_mem (M2 := sT M i (drK U j m r (k + 1))) (by first | (rw [drK_t hb, sT_at, sT_sT]; done) | (rw [drK_f hb]; done)) ?_
            refine sw_inc1_3 X dX2_dropMomentsAfter_55 trivial ?_
            refine sw_goto X 19 dX2_dropMomentsAfter_58 (by decide) ?_
            exact ih2 (k + 1) (by omega) (by omega)
      refine sw_iload_2 X dX2_dropMomentsAfter_9 ?_
      refine sw_aload_0 X dX2_dropMomentsAfter_10 ?_
      refine gf_X2_24 X hi hj dX2_dropMomentsAfter_11 ?_
      refine sw_tope (v2 := nI c) (by rw [sT_at]; exact hU) ?_
      refine sw_icmp_ge X 67 dX2_dropMomentsAfter_14 (by decide) (fun h14 => ?_) (fun h14 => ?_)
      ·
        exact absurd ((nI_leI (by omega) (by omega)).mp h14) (by omega)
      ·
        refine sw_iconst X (nI 0) dX2_dropMomentsAfter_17 (by decide) ?_
        refine sw_istore_3 X dX2_dropMomentsAfter_18 trivial ?_
        exact LK 0 (by omega)
  refine sw_iload_1 X dX2_dropMomentsAfter_0 ?_
  refine sw_if_ge X 5 dX2_dropMomentsAfter_1 (by decide) (fun h1 => ?_) (fun h1 => ?_)
  ·
    refine sw_iload_1 X dX2_dropMomentsAfter_5 ?_
    refine sw_iconst X (nI 1) dX2_dropMomentsAfter_6 (by decide) ?_
    refine sw_iadd X dX2_dropMomentsAfter_7 ?_
    try refine sw_tope (nI_add _ _) ?_
    refine sw_istore_2 X dX2_dropMomentsAfter_8 trivial ?_
    exact sw_mem (by rw [sT_id]) (L (c - (m + 1)) (m + 1) (M i) _ (by omega) (by omega) hc rfl)
  ·
    exact absurd (nI_pos' (by omega)) h1
