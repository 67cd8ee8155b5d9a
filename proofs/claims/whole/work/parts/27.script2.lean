/-! the class: Script, and what numbers mean -/
abbrev isEr (v : Int32) : Prop := v < 0 ∧ v ≠ -5 ∧ v ≠ -6 ∧ v ≠ -7
theorem le_lt {a : Nat} (v : Int32) (ha : a + 1 < 2 ^ 31) : nI (a + 1) ≤ v ↔ nI a < v := by
  rw [Int32.le_iff_toInt_le, Int32.lt_iff_toInt_lt, nI_toInt ha, nI_toInt (by omega)]
  omega
/-- the class's text, its length -/
def TC (M : sv_Mem) (x : Nat → Int32) (n : Nat) : Prop := M 8 3 0 = x ∧ M 8 2 0 1 = nI n ∧ n ≤ 80 ∧ ∀ i, i < n → ∃ c, 32 ≤ c ∧ c ≤ 126 ∧ x i = nI c
/-- where the digits from p on end -/
def eoN (x : Nat → Int32) : Nat → Nat → Nat
  | 0, p => p
  | c + 1, p => if inR (x p) (nI 48) (nI 57) then eoN x c (p + 1) else p
def nuN (x : Nat → Int32) : Nat → Nat → Nat → Nat
  | 0, _, v => v
  | c + 1, p, v => nuN x c (p + 1) (10 * v + dg (x p))
abbrev eoR (x : Nat → Int32) (n p : Nat) : Nat := eoN x (n - p) p
abbrev nuR (x : Nat → Int32) (n p : Nat) : Nat := nuN x (eoR x n p - p) p 0
theorem eoN_le {x : Nat → Int32} : ∀ {c p : Nat}, p ≤ eoN x c p ∧ eoN x c p ≤ p + c ∧ ∀ i, p ≤ i → i < eoN x c p → inR (x i) (nI 48) (nI 57)
  | 0, p => ⟨Nat.le_refl _, Nat.le_refl _, fun i h1 h2 => by unfold eoN at h2; omega⟩
  | c + 1, p => by
    unfold eoN
    split <;> rename_i h
    · obtain ⟨a, b, d⟩ := eoN_le (x := x) (c := c) (p := p + 1)
      refine ⟨by omega, by omega, fun i h1 h2 => ?_⟩
      by_cases e : i = p
      · rw [e]; exact h
      · exact d i (by omega) h2
    · exact ⟨Nat.le_refl _, by omega, fun i h1 h2 => by omega⟩
theorem eoR_le {x : Nat → Int32} {n p : Nat} (h : p ≤ n) : p ≤ eoR x n p ∧ eoR x n p ≤ n ∧ ∀ i, p ≤ i → i < eoR x n p → inR (x i) (nI 48) (nI 57) := by
  obtain ⟨a, b, d⟩ := eoN_le (x := x) (c := n - p) (p := p)
  exact ⟨a, by show eoN x (n - p) p ≤ n; omega, d⟩
theorem nc_ok {c : Nat} (h : c < 65536) : vp_nar .char (nI c) = nI c := by
  rw [vp_nar_char]
  have := (pk_charN h).1
  simp only [narrow, Value.int.injEq] at this
  exact this

set_option maxHeartbeats 4000000 in
set_option maxRecDepth 100000 in
theorem c_X0_isBetween {G : sv_G} {M : sv_Mem} {a v b : Int32} : sv_Ct G M_X0_isBetween 0 [.int a, .int v, .int b] M (some (.int (bI (inR v a b)))) (M) := by
  refine sv_Ct_of (lo := [some (.int a), some (.int v), some (.int b)]) (pn_X0) rfl (Nat.le_of_ble_eq_true rfl) rfl (fun K X Y => ?_)
  replace X : sv_X G K cX0_isBetween RX0 3 0 := X
  replace Y : sv_Y G K (some .boolean) _ _ := Y
  show sw_W G K 3 0 _ _ _
  refine sw_iload_1 X dX0_isBetween_0 ?_
  refine sw_iload_0 X dX0_isBetween_1 ?_
  refine sw_icmp_lt X 14 dX0_isBetween_2 (by decide) (fun h2 => ?_) (fun h2 => ?_)
  ·
    refine sw_iconst X (nI 0) dX0_isBetween_14 (by decide) ?_
    exact sw_zret X Y dX0_isBetween_15 (by first | rfl | exact sv_nzB) (by first | exact rb_t ⟨h2, h7⟩ | exact rb_f (fun z => z.1 h2) | exact rb_f (fun z => z.2 h7)) (rfl)
  ·
    refine sw_iload_1 X dX0_isBetween_5 ?_
    refine sw_iload_2 X dX0_isBetween_6 ?_
    refine sw_icmp_gt X 14 dX0_isBetween_7 (by decide) (fun h7 => ?_) (fun h7 => ?_)
    ·
      refine sw_iconst X (nI 0) dX0_isBetween_14 (by decide) ?_
      exact sw_zret X Y dX0_isBetween_15 (by first | rfl | exact sv_nzB) (by first | exact rb_t ⟨h2, h7⟩ | exact rb_f (fun z => z.1 h2) | exact rb_f (fun z => z.2 h7)) (rfl)
    ·
      refine sw_iconst X (nI 1) dX0_isBetween_10 (by decide) ?_
      refine sw_goto X 15 dX0_isBetween_11 (by decide) ?_
      exact sw_zret X Y dX0_isBetween_15 (by first | rfl | exact sv_nzB) (by first | exact rb_t ⟨h2, h7⟩ | exact rb_f (fun z => z.1 h2) | exact rb_f (fun z => z.2 h7)) (rfl)
set_option maxHeartbeats 4000000 in
set_option maxRecDepth 100000 in
theorem c_X3_isSession {G : sv_G} {M : sv_Mem} {v : Int32} : sv_Ct G M_X3_isSession 0 [.int v] M (some (.int (bI (inR v (nI 0) (nI 2))))) (M) := by
  refine sv_Ct_of (lo := [some (.int v)]) (pn_X3) rfl (Nat.le_of_ble_eq_true rfl) rfl (fun K X Y => ?_)
  replace X : sv_X G K cX3_isSession RX3 1 0 := X
  replace Y : sv_Y G K (some .boolean) _ _ := Y
  show sw_W G K 1 0 _ _ _
  refine sw_iload_0 X dX3_isSession_0 ?_
  refine sw_if_lt X 13 dX3_isSession_1 (by decide) (fun h1 => ?_) (fun h1 => ?_)
  ·
    refine sw_iconst X (nI 0) dX3_isSession_13 (by decide) ?_
    exact sw_zret X Y dX3_isSession_14 (by first | rfl | exact sv_nzB) (by first | exact rb_t ⟨h1, fun z => h6 ((le_lt (a := 2) v (by omega)).mpr z)⟩ | exact rb_f (fun z => z.1 h1) | exact rb_f (fun z => z.2 ((le_lt (a := 2) v (by omega)).mp h6))) (rfl)
  ·
    refine sw_iload_0 X dX3_isSession_4 ?_
    refine sw_iconst X (nI 3) dX3_isSession_5 (by decide) ?_
    refine sw_icmp_ge X 13 dX3_isSession_6 (by decide) (fun h6 => ?_) (fun h6 => ?_)
    ·
      refine sw_iconst X (nI 0) dX3_isSession_13 (by decide) ?_
      exact sw_zret X Y dX3_isSession_14 (by first | rfl | exact sv_nzB) (by first | exact rb_t ⟨h1, fun z => h6 ((le_lt (a := 2) v (by omega)).mpr z)⟩ | exact rb_f (fun z => z.1 h1) | exact rb_f (fun z => z.2 ((le_lt (a := 2) v (by omega)).mp h6))) (rfl)
    ·
      refine sw_iconst X (nI 1) dX3_isSession_9 (by decide) ?_
      refine sw_goto X 14 dX3_isSession_10 (by decide) ?_
      exact sw_zret X Y dX3_isSession_14 (by first | rfl | exact sv_nzB) (by first | exact rb_t ⟨h1, fun z => h6 ((le_lt (a := 2) v (by omega)).mpr z)⟩ | exact rb_f (fun z => z.1 h1) | exact rb_f (fun z => z.2 ((le_lt (a := 2) v (by omega)).mp h6))) (rfl)
set_option maxHeartbeats 4000000 in
set_option maxRecDepth 100000 in
theorem c_X3_isKey {G : sv_G} {M : sv_Mem} {v : Int32} : sv_Ct G M_X3_isKey 0 [.int v] M (some (.int (bI (inR v (nI 0) (nI 15))))) (M) := by
  refine sv_Ct_of (lo := [some (.int v)]) (pn_X3) rfl (Nat.le_of_ble_eq_true rfl) rfl (fun K X Y => ?_)
  replace X : sv_X G K cX3_isKey RX3 1 0 := X
  replace Y : sv_Y G K (some .boolean) _ _ := Y
  show sw_W G K 1 0 _ _ _
  refine sw_iload_0 X dX3_isKey_0 ?_
  refine sw_if_lt X 14 dX3_isKey_1 (by decide) (fun h1 => ?_) (fun h1 => ?_)
  ·
    refine sw_iconst X (nI 0) dX3_isKey_14 (by decide) ?_
    exact sw_zret X Y dX3_isKey_15 (by first | rfl | exact sv_nzB) (by first | exact rb_t ⟨h1, fun z => h7 ((le_lt (a := 15) v (by omega)).mpr z)⟩ | exact rb_f (fun z => z.1 h1) | exact rb_f (fun z => z.2 ((le_lt (a := 15) v (by omega)).mp h7))) (rfl)
  ·
    refine sw_iload_0 X dX3_isKey_4 ?_
    refine sw_bipush X (nI 16) dX3_isKey_5 (by decide) ?_
    refine sw_icmp_ge X 14 dX3_isKey_7 (by decide) (fun h7 => ?_) (fun h7 => ?_)
    ·
      refine sw_iconst X (nI 0) dX3_isKey_14 (by decide) ?_
      exact sw_zret X Y dX3_isKey_15 (by first | rfl | exact sv_nzB) (by first | exact rb_t ⟨h1, fun z => h7 ((le_lt (a := 15) v (by omega)).mpr z)⟩ | exact rb_f (fun z => z.1 h1) | exact rb_f (fun z => z.2 ((le_lt (a := 15) v (by omega)).mp h7))) (rfl)
    ·
      refine sw_iconst X (nI 1) dX3_isKey_10 (by decide) ?_
      refine sw_goto X 15 dX3_isKey_11 (by decide) ?_
      exact sw_zret X Y dX3_isKey_15 (by first | rfl | exact sv_nzB) (by first | exact rb_t ⟨h1, fun z => h7 ((le_lt (a := 15) v (by omega)).mpr z)⟩ | exact rb_f (fun z => z.1 h1) | exact rb_f (fun z => z.2 ((le_lt (a := 15) v (by omega)).mp h7))) (rfl)
set_option maxHeartbeats 4000000 in
set_option maxRecDepth 100000 in
theorem c_X3_isName {G : sv_G} {M : sv_Mem} {v : Int32} : sv_Ct G M_X3_isName 0 [.int v] M (some (.int (bI (inR v (nI 0) (nI 7))))) (M) := by
  refine sv_Ct_of (lo := [some (.int v)]) (pn_X3) rfl (Nat.le_of_ble_eq_true rfl) rfl (fun K X Y => ?_)
  replace X : sv_X G K cX3_isName RX3 1 0 := X
  replace Y : sv_Y G K (some .boolean) _ _ := Y
  show sw_W G K 1 0 _ _ _
  refine sw_iload_0 X dX3_isName_0 ?_
  refine sw_if_lt X 14 dX3_isName_1 (by decide) (fun h1 => ?_) (fun h1 => ?_)
  ·
    refine sw_iconst X (nI 0) dX3_isName_14 (by decide) ?_
    exact sw_zret X Y dX3_isName_15 (by first | rfl | exact sv_nzB) (by first | exact rb_t ⟨h1, fun z => h7 ((le_lt (a := 7) v (by omega)).mpr z)⟩ | exact rb_f (fun z => z.1 h1) | exact rb_f (fun z => z.2 ((le_lt (a := 7) v (by omega)).mp h7))) (rfl)
  ·
    refine sw_iload_0 X dX3_isName_4 ?_
    refine sw_bipush X (nI 8) dX3_isName_5 (by decide) ?_
    refine sw_icmp_ge X 14 dX3_isName_7 (by decide) (fun h7 => ?_) (fun h7 => ?_)
    ·
      refine sw_iconst X (nI 0) dX3_isName_14 (by decide) ?_
      exact sw_zret X Y dX3_isName_15 (by first | rfl | exact sv_nzB) (by first | exact rb_t ⟨h1, fun z => h7 ((le_lt (a := 7) v (by omega)).mpr z)⟩ | exact rb_f (fun z => z.1 h1) | exact rb_f (fun z => z.2 ((le_lt (a := 7) v (by omega)).mp h7))) (rfl)
    ·
      refine sw_iconst X (nI 1) dX3_isName_10 (by decide) ?_
      refine sw_goto X 15 dX3_isName_11 (by decide) ?_
      exact sw_zret X Y dX3_isName_15 (by first | rfl | exact sv_nzB) (by first | exact rb_t ⟨h1, fun z => h7 ((le_lt (a := 7) v (by omega)).mpr z)⟩ | exact rb_f (fun z => z.1 h1) | exact rb_f (fun z => z.2 ((le_lt (a := 7) v (by omega)).mp h7))) (rfl)
set_option maxHeartbeats 4000000 in
set_option maxRecDepth 100000 in
theorem c_X3_isValue {G : sv_G} {M : sv_Mem} {v : Int32} : sv_Ct G M_X3_isValue 0 [.int v] M (some (.int (bI (inR v (nI 0) (nI 9999))))) (M) := by
  refine sv_Ct_of (lo := [some (.int v)]) (pn_X3) rfl (Nat.le_of_ble_eq_true rfl) rfl (fun K X Y => ?_)
  replace X : sv_X G K cX3_isValue RX3 1 0 := X
  replace Y : sv_Y G K (some .boolean) _ _ := Y
  show sw_W G K 1 0 _ _ _
  refine sw_iload_0 X dX3_isValue_0 ?_
  refine sw_if_lt X 15 dX3_isValue_1 (by decide) (fun h1 => ?_) (fun h1 => ?_)
  ·
    refine sw_iconst X (nI 0) dX3_isValue_15 (by decide) ?_
    exact sw_zret X Y dX3_isValue_16 (by first | rfl | exact sv_nzB) (by first | exact rb_t ⟨h1, h8⟩ | exact rb_f (fun z => z.1 h1) | exact rb_f (fun z => z.2 h8)) (rfl)
  ·
    refine sw_iload_0 X dX3_isValue_4 ?_
    refine sw_sipush X (nI 9999) dX3_isValue_5 (by decide) ?_
    refine sw_icmp_gt X 15 dX3_isValue_8 (by decide) (fun h8 => ?_) (fun h8 => ?_)
    ·
      refine sw_iconst X (nI 0) dX3_isValue_15 (by decide) ?_
      exact sw_zret X Y dX3_isValue_16 (by first | rfl | exact sv_nzB) (by first | exact rb_t ⟨h1, h8⟩ | exact rb_f (fun z => z.1 h1) | exact rb_f (fun z => z.2 h8)) (rfl)
    ·
      refine sw_iconst X (nI 1) dX3_isValue_11 (by decide) ?_
      refine sw_goto X 16 dX3_isValue_12 (by decide) ?_
      exact sw_zret X Y dX3_isValue_16 (by first | rfl | exact sv_nzB) (by first | exact rb_t ⟨h1, h8⟩ | exact rb_f (fun z => z.1 h1) | exact rb_f (fun z => z.2 h8)) (rfl)
set_option maxHeartbeats 4000000 in
set_option maxRecDepth 100000 in
theorem c_X3_isError {G : sv_G} {M : sv_Mem} {v : Int32} : sv_Ct G M_X3_isError 0 [.int v] M (some (.int (bI (isEr v)))) (M) := by
  refine sv_Ct_of (lo := [some (.int v)]) (pn_X3) rfl (Nat.le_of_ble_eq_true rfl) rfl (fun K X Y => ?_)
  replace X : sv_X G K cX3_isError RX3 1 0 := X
  replace Y : sv_Y G K (some .boolean) _ _ := Y
  show sw_W G K 1 0 _ _ _
  refine sw_iload_0 X dX3_isError_0 ?_
  refine sw_if_ge X 26 dX3_isError_1 (by decide) (fun h1 => ?_) (fun h1 => ?_)
  ·
    refine sw_iconst X (nI 0) dX3_isError_26 (by decide) ?_
    exact sw_zret X Y dX3_isError_27 (by first | rfl | exact sv_nzB) (by first | exact rb_f (fun z => absurd z.1 (Int32.not_lt.mpr h1)) | exact rb_f (fun z => z.2.1 h7) | exact rb_f (fun z => z.2.2.1 h13) | exact rb_f (fun z => z.2.2.2 h19) | exact rb_t ⟨Int32.not_le.mp h1, h7, h13, h19⟩) (rfl)
  ·
    refine sw_iload_0 X dX3_isError_4 ?_
    refine sw_bipush X (-5) dX3_isError_5 (by decide) ?_
    refine sw_icmp_eq X 26 dX3_isError_7 (by decide) (fun h7 => ?_) (fun h7 => ?_)
    ·
      refine sw_iconst X (nI 0) dX3_isError_26 (by decide) ?_
      exact sw_zret X Y dX3_isError_27 (by first | rfl | exact sv_nzB) (by first | exact rb_f (fun z => absurd z.1 (Int32.not_lt.mpr h1)) | exact rb_f (fun z => z.2.1 h7) | exact rb_f (fun z => z.2.2.1 h13) | exact rb_f (fun z => z.2.2.2 h19) | exact rb_t ⟨Int32.not_le.mp h1, h7, h13, h19⟩) (rfl)
    ·
      refine sw_iload_0 X dX3_isError_10 ?_
      refine sw_bipush X (-6) dX3_isError_11 (by decide) ?_
      refine sw_icmp_eq X 26 dX3_isError_13 (by decide) (fun h13 => ?_) (fun h13 => ?_)
      ·
        refine sw_iconst X (nI 0) dX3_isError_26 (by decide) ?_
        exact sw_zret X Y dX3_isError_27 (by first | rfl | exact sv_nzB) (by first | exact rb_f (fun z => absurd z.1 (Int32.not_lt.mpr h1)) | exact rb_f (fun z => z.2.1 h7) | exact rb_f (fun z => z.2.2.1 h13) | exact rb_f (fun z => z.2.2.2 h19) | exact rb_t ⟨Int32.not_le.mp h1, h7, h13, h19⟩) (rfl)
      ·
        refine sw_iload_0 X dX3_isError_16 ?_
        refine sw_bipush X (-7) dX3_isError_17 (by decide) ?_
        refine sw_icmp_eq X 26 dX3_isError_19 (by decide) (fun h19 => ?_) (fun h19 => ?_)
        ·
          refine sw_iconst X (nI 0) dX3_isError_26 (by decide) ?_
          exact sw_zret X Y dX3_isError_27 (by first | rfl | exact sv_nzB) (by first | exact rb_f (fun z => absurd z.1 (Int32.not_lt.mpr h1)) | exact rb_f (fun z => z.2.1 h7) | exact rb_f (fun z => z.2.2.1 h13) | exact rb_f (fun z => z.2.2.2 h19) | exact rb_t ⟨Int32.not_le.mp h1, h7, h13, h19⟩) (rfl)
        ·
          refine sw_iconst X (nI 1) dX3_isError_22 (by decide) ?_
          refine sw_goto X 27 dX3_isError_23 (by decide) ?_
          exact sw_zret X Y dX3_isError_27 (by first | rfl | exact sv_nzB) (by first | exact rb_f (fun z => absurd z.1 (Int32.not_lt.mpr h1)) | exact rb_f (fun z => z.2.1 h7) | exact rb_f (fun z => z.2.2.1 h13) | exact rb_f (fun z => z.2.2.2 h19) | exact rb_t ⟨Int32.not_le.mp h1, h7, h13, h19⟩) (rfl)
set_option maxHeartbeats 4000000 in
set_option maxRecDepth 100000 in
theorem c_X3_momentOf {G : sv_G} {M : sv_Mem} {p : Nat} : sv_Ct G M_X3_momentOf 0 [.int (nI p)] M (some (.int (nI (p + 1)))) (M) := by
  refine sv_Ct_of (lo := [some (.int (nI p))]) (pn_X3) rfl (Nat.le_of_ble_eq_true rfl) rfl (fun K X Y => ?_)
  replace X : sv_X G K cX3_momentOf RX3 1 0 := X
  replace Y : sv_Y G K (some .int) _ _ := Y
  show sw_W G K 1 0 _ _ _
  refine sw_iload_0 X dX3_momentOf_0 ?_
  refine sw_iconst X (nI 1) dX3_momentOf_1 (by decide) ?_
  refine sw_iadd X dX3_momentOf_2 ?_
  try refine sw_tope (nI_add _ _) ?_
  exact sw_iret X Y dX3_momentOf_3 (rfl) (rfl)
set_option maxHeartbeats 4000000 in
set_option maxRecDepth 100000 in
theorem c_X0_canEndOrder {G : sv_G} {M : sv_Mem} {v : Int32} : sv_Ct G M_X0_canEndOrder 0 [.int v] M (some (.int (bI (ceP v)))) (M) := by
  refine sv_Ct_of (lo := [some (.int v)]) (pn_X0) rfl (Nat.le_of_ble_eq_true rfl) rfl (fun K X Y => ?_)
  replace X : sv_X G K cX0_canEndOrder RX0 1 0 := X
  replace Y : sv_Y G K (some .boolean) _ _ := Y
  show sw_W G K 1 0 _ _ _
  refine sw_iload_0 X dX0_canEndOrder_0 ?_
  refine sw_bipush X (nI 12) dX0_canEndOrder_1 (by decide) ?_
  refine sw_icmp_eq X 29 dX0_canEndOrder_3 (by decide) (fun h3 => ?_) (fun h3 => ?_)
  ·
    refine sw_iconst X (nI 1) dX0_canEndOrder_29 (by decide) ?_
    refine sw_goto X 34 dX0_canEndOrder_30 (by decide) ?_
    exact sw_zret X Y dX0_canEndOrder_34 (by first | rfl | exact sv_nzB) (by first | exact rb_t (Or.inl h3) | exact rb_t (Or.inr (Or.inl h8)) | exact rb_t (Or.inr (Or.inr (Or.inl h14))) | exact rb_t (Or.inr (Or.inr (Or.inr (Or.inl h20)))) | exact rb_t (Or.inr (Or.inr (Or.inr (Or.inr (by first | exact h26 | exact Decidable.of_not_not h26))))) | exact rb_f (fun z => z.elim h3 (fun z => z.elim h8 (fun z => z.elim h14 (fun z => z.elim h20 (fun z => h26 z)))))) (rfl)
  ·
    refine sw_iload_0 X dX0_canEndOrder_6 ?_
    refine sw_iconst X (nI 4) dX0_canEndOrder_7 (by decide) ?_
    refine sw_icmp_eq X 29 dX0_canEndOrder_8 (by decide) (fun h8 => ?_) (fun h8 => ?_)
    ·
      refine sw_iconst X (nI 1) dX0_canEndOrder_29 (by decide) ?_
      refine sw_goto X 34 dX0_canEndOrder_30 (by decide) ?_
      exact sw_zret X Y dX0_canEndOrder_34 (by first | rfl | exact sv_nzB) (by first | exact rb_t (Or.inl h3) | exact rb_t (Or.inr (Or.inl h8)) | exact rb_t (Or.inr (Or.inr (Or.inl h14))) | exact rb_t (Or.inr (Or.inr (Or.inr (Or.inl h20)))) | exact rb_t (Or.inr (Or.inr (Or.inr (Or.inr (by first | exact h26 | exact Decidable.of_not_not h26))))) | exact rb_f (fun z => z.elim h3 (fun z => z.elim h8 (fun z => z.elim h14 (fun z => z.elim h20 (fun z => h26 z)))))) (rfl)
    ·
      refine sw_iload_0 X dX0_canEndOrder_11 ?_
      refine sw_bipush X (nI 9) dX0_canEndOrder_12 (by decide) ?_
      refine sw_icmp_eq X 29 dX0_canEndOrder_14 (by decide) (fun h14 => ?_) (fun h14 => ?_)
      ·
        refine sw_iconst X (nI 1) dX0_canEndOrder_29 (by decide) ?_
        refine sw_goto X 34 dX0_canEndOrder_30 (by decide) ?_
        exact sw_zret X Y dX0_canEndOrder_34 (by first | rfl | exact sv_nzB) (by first | exact rb_t (Or.inl h3) | exact rb_t (Or.inr (Or.inl h8)) | exact rb_t (Or.inr (Or.inr (Or.inl h14))) | exact rb_t (Or.inr (Or.inr (Or.inr (Or.inl h20)))) | exact rb_t (Or.inr (Or.inr (Or.inr (Or.inr (by first | exact h26 | exact Decidable.of_not_not h26))))) | exact rb_f (fun z => z.elim h3 (fun z => z.elim h8 (fun z => z.elim h14 (fun z => z.elim h20 (fun z => h26 z)))))) (rfl)
      ·
        refine sw_iload_0 X dX0_canEndOrder_17 ?_
        refine sw_bipush X (nI 10) dX0_canEndOrder_18 (by decide) ?_
        refine sw_icmp_eq X 29 dX0_canEndOrder_20 (by decide) (fun h20 => ?_) (fun h20 => ?_)
        ·
          refine sw_iconst X (nI 1) dX0_canEndOrder_29 (by decide) ?_
          refine sw_goto X 34 dX0_canEndOrder_30 (by decide) ?_
          exact sw_zret X Y dX0_canEndOrder_34 (by first | rfl | exact sv_nzB) (by first | exact rb_t (Or.inl h3) | exact rb_t (Or.inr (Or.inl h8)) | exact rb_t (Or.inr (Or.inr (Or.inl h14))) | exact rb_t (Or.inr (Or.inr (Or.inr (Or.inl h20)))) | exact rb_t (Or.inr (Or.inr (Or.inr (Or.inr (by first | exact h26 | exact Decidable.of_not_not h26))))) | exact rb_f (fun z => z.elim h3 (fun z => z.elim h8 (fun z => z.elim h14 (fun z => z.elim h20 (fun z => h26 z)))))) (rfl)
        ·
          refine sw_iload_0 X dX0_canEndOrder_23 ?_
          refine sw_bipush X (nI 11) dX0_canEndOrder_24 (by decide) ?_
          refine sw_icmp_ne X 33 dX0_canEndOrder_26 (by decide) (fun h26 => ?_) (fun h26 => ?_)
          ·
            refine sw_iconst X (nI 0) dX0_canEndOrder_33 (by decide) ?_
            exact sw_zret X Y dX0_canEndOrder_34 (by first | rfl | exact sv_nzB) (by first | exact rb_t (Or.inl h3) | exact rb_t (Or.inr (Or.inl h8)) | exact rb_t (Or.inr (Or.inr (Or.inl h14))) | exact rb_t (Or.inr (Or.inr (Or.inr (Or.inl h20)))) | exact rb_t (Or.inr (Or.inr (Or.inr (Or.inr (by first | exact h26 | exact Decidable.of_not_not h26))))) | exact rb_f (fun z => z.elim h3 (fun z => z.elim h8 (fun z => z.elim h14 (fun z => z.elim h20 (fun z => h26 z)))))) (rfl)
          ·
            refine sw_iconst X (nI 1) dX0_canEndOrder_29 (by decide) ?_
            refine sw_goto X 34 dX0_canEndOrder_30 (by decide) ?_
            exact sw_zret X Y dX0_canEndOrder_34 (by first | rfl | exact sv_nzB) (by first | exact rb_t (Or.inl h3) | exact rb_t (Or.inr (Or.inl h8)) | exact rb_t (Or.inr (Or.inr (Or.inl h14))) | exact rb_t (Or.inr (Or.inr (Or.inr (Or.inl h20)))) | exact rb_t (Or.inr (Or.inr (Or.inr (Or.inr (by first | exact h26 | exact Decidable.of_not_not h26))))) | exact rb_f (fun z => z.elim h3 (fun z => z.elim h8 (fun z => z.elim h14 (fun z => z.elim h20 (fun z => h26 z)))))) (rfl)
set_option maxHeartbeats 4000000 in
set_option maxRecDepth 100000 in
theorem c_X0_characterAt {G : sv_G} {M : sv_Mem} {x : Nat → Int32} {n : Nat} (T : TC M x n) {p : Nat} (hp : p < n) : sv_Ct G M_X0_characterAt 0 [.ref (sv_ad G 2 8 0), .int (nI p)] M (some (.int (x p))) (M) := by
  obtain ⟨hx, hl, hn, hch⟩ := id T
  refine sv_Ct_of (lo := [some (.ref (sv_ad G 2 8 0)), some (.int (nI p))]) (pn_X0) rfl (Nat.le_of_ble_eq_true rfl) rfl (fun K X Y => ?_)
  replace X : sv_X G K cX0_characterAt RX0 2 0 := X
  replace Y : sv_Y G K (some .char) _ _ := Y
  show sw_W G K 2 0 _ _ _
  refine sw_iload_1 X dX0_characterAt_0 ?_
  refine sw_if_lt X 21 dX0_characterAt_1 (by decide) (fun h1 => ?_) (fun h1 => ?_)
  ·
    exact absurd h1 (nI_pos (by omega))
  ·
    refine sw_iload_1 X dX0_characterAt_4 ?_
    refine sw_aload_0 X dX0_characterAt_5 ?_
    refine gf_X0_15 X dX0_characterAt_6 ?_
    refine sw_tope hl ?_
    refine sw_icmp_ge X 21 dX0_characterAt_9 (by decide) (fun h9 => ?_) (fun h9 => ?_)
    ·
      exact absurd ((nI_leI (by omega) (by omega)).mp h9) (by omega)
    ·
      refine sw_aload_0 X dX0_characterAt_12 ?_
      refine gf_X0_9 X dX0_characterAt_13 ?_
      refine sw_iload_1 X dX0_characterAt_16 ?_
      refine ia_3 X rfl (by omega) dX0_characterAt_17 ?_
      refine sw_tope (v2 := x p) (by rw [hx]) ?_
      refine sw_goto X 23 dX0_characterAt_18 (by decide) ?_
      exact sw_zret X Y dX0_characterAt_23 (by obtain ⟨c, c1, c2, c3⟩ := hch p hp; rw [c3]; exact (pk_charN (by omega)).1) (rfl) (rfl)
set_option maxHeartbeats 4000000 in
set_option maxRecDepth 100000 in
theorem c_X0_endOfNumber {G : sv_G} {M : sv_Mem} {x : Nat → Int32} {n : Nat} (T : TC M x n) {p : Nat} (hp : p ≤ n) : sv_Ct G M_X0_endOfNumber 1 [.ref (sv_ad G 2 8 0), .int (nI p)] M (some (.int (nI (eoR x n p)))) (M) := by
  obtain ⟨hx, hl, hn, hch⟩ := id T
  refine sv_Ct_of (lo := [some (.ref (sv_ad G 2 8 0)), some (.int (nI p)), none]) (pn_X0) rfl (Nat.le_of_ble_eq_true rfl) rfl (fun K X Y => ?_)
  replace X : sv_X G K cX0_endOfNumber RX0 3 1 := X
  replace Y : sv_Y G K (some .int) _ _ := Y
  show sw_W G K 3 0 _ _ _
  have L : ∀ c p2, p2 + c = n → eoN x c p2 = eoR x n p → sw_W G K 3 2 [some (.ref (sv_ad G 2 8 0)), some (.int (nI p)), some (.int (nI p2))] [] M := by
    intro c
    induction c with
    | zero =>
      intro p2 hpn hv
      refine sw_iload_2 X dX0_endOfNumber_2 ?_
      refine sw_aload_0 X dX0_endOfNumber_3 ?_
      refine gf_X0_15 X dX0_endOfNumber_4 ?_
      refine sw_tope hl ?_
      refine sw_icmp_ge X 31 dX0_endOfNumber_7 (by decide) (fun h7 => ?_) (fun h7 => ?_)
      ·
        refine sw_iload_2 X dX0_endOfNumber_31 ?_
        exact sw_iret X Y dX0_endOfNumber_32 (by rw [← hv]; rfl) (rfl)
      ·
        exact absurd ((nI_leI (by omega) (by omega)).mpr (by omega)) h7
    | succ c ih =>
      intro p2 hpn hv
      refine sw_iload_2 X dX0_endOfNumber_2 ?_
      refine sw_aload_0 X dX0_endOfNumber_3 ?_
      refine gf_X0_15 X dX0_endOfNumber_4 ?_
      refine sw_tope hl ?_
      refine sw_icmp_ge X 31 dX0_endOfNumber_7 (by decide) (fun h7 => ?_) (fun h7 => ?_)
      ·
        exact absurd ((nI_leI (by omega) (by omega)).mp h7) (by omega)
      ·
        refine sw_bipush X (nI 48) dX0_endOfNumber_10 (by decide) ?_
        refine sw_aload_0 X dX0_endOfNumber_12 ?_
        refine sw_iload_2 X dX0_endOfNumber_13 ?_
        refine ca_X0_42 X (by decide) dX0_endOfNumber_14 (Nat.le_of_ble_eq_true rfl) (c_X0_characterAt T (by omega)) ?_
        refine sw_bipush X (nI 57) dX0_endOfNumber_17 (by decide) ?_
        refine ca_X0_27 X (by decide) dX0_endOfNumber_19 (Nat.le_of_ble_eq_true rfl) c_X0_isBetween ?_
        refine sw_ifB_eq X 31 dX0_endOfNumber_22 (by decide) (fun h22 => ?_) (fun h22 => ?_)
        ·
          have hv2 := (if_neg h22).symm.trans hv
          refine sw_iload_2 X dX0_endOfNumber_31 ?_
          exact sw_iret X Y dX0_endOfNumber_32 (by rw [← hv2]) (rfl)
        ·
          have hv2 := (if_pos h22).symm.trans hv
          first | refine sw_inc1_2 X dX0_endOfNumber_25 trivial ?_ | refine sw_iinc_2 X _ dX0_endOfNumber_25 rfl trivial ?_
          refine sw_goto X 2 dX0_endOfNumber_28 (by decide) ?_
          exact ih (p2 + 1) (by omega) hv2
  refine sw_iload_1 X dX0_endOfNumber_0 ?_
  refine sw_istore_2 X dX0_endOfNumber_1 trivial ?_
  exact L (n - p) p (by omega) rfl
set_option maxHeartbeats 4000000 in
set_option maxRecDepth 100000 in
theorem c_X0_numberAt {G : sv_G} {M : sv_Mem} {x : Nat → Int32} {n : Nat} (T : TC M x n) {p : Nat} (hp : p ≤ n) : sv_Ct G M_X0_numberAt 2 [.ref (sv_ad G 2 8 0), .int (nI p)] M (some (.int (nI (nuR x n p)))) (M) := by
  obtain ⟨hx, hl, hn, hch⟩ := id T
  have he := eoR_le (x := x) hp
  refine sv_Ct_of (lo := [some (.ref (sv_ad G 2 8 0)), some (.int (nI p)), none, none, none]) (pn_X0) rfl (Nat.le_of_ble_eq_true rfl) rfl (fun K X Y => ?_)
  replace X : sv_X G K cX0_numberAt RX0 5 2 := X
  replace Y : sv_Y G K (some .int) _ _ := Y
  show sw_W G K 5 0 _ _ _
  have L : ∀ c p2 v, p2 + c = eoR x n p → p ≤ p2 → nuN x c p2 v = nuR x n p → sw_W G K 5 11 [some (.ref (sv_ad G 2 8 0)), some (.int (nI p)), some (.int (nI v)), some (.int (nI (eoR x n p))), some (.int (nI p2))] [] M := by
    intro c
    induction c with
    | zero =>
      intro p2 v hpn hp2 hv
      refine sw_iload_4 X dX0_numberAt_11 ?_
      refine sw_iload_3 X dX0_numberAt_13 ?_
      refine sw_icmp_ge X 38 dX0_numberAt_14 (by decide) (fun h14 => ?_) (fun h14 => ?_)
      ·
        refine sw_iload_2 X dX0_numberAt_38 ?_
        exact sw_iret X Y dX0_numberAt_39 (by rw [← hv]; rfl) (rfl)
      ·
        exact absurd ((nI_leI (by omega) (by omega)).mpr (by omega)) h14
    | succ c ih =>
      intro p2 v hpn hp2 hv
      refine sw_iload_4 X dX0_numberAt_11 ?_
      refine sw_iload_3 X dX0_numberAt_13 ?_
      refine sw_icmp_ge X 38 dX0_numberAt_14 (by decide) (fun h14 => ?_) (fun h14 => ?_)
      ·
        exact absurd ((nI_leI (by omega) (by omega)).mp h14) (by omega)
      ·
        refine sw_bipush X (nI 10) dX0_numberAt_17 (by decide) ?_
        refine sw_iload_2 X dX0_numberAt_19 ?_
        refine sw_imul X dX0_numberAt_20 ?_
        try refine sw_tope (pk_mul _ _) ?_
        refine sw_aload_0 X dX0_numberAt_21 ?_
        refine sw_iload_4 X dX0_numberAt_22 ?_
        refine ca_X0_42 X (by decide) dX0_numberAt_24 (Nat.le_of_ble_eq_true rfl) (c_X0_characterAt T (by omega)) ?_
        refine sw_tope (v2 := nI (48 + dg (x p2))) (dg_of (he.2.2 p2 (by omega) (by omega))).1 ?_
        refine sw_iadd X dX0_numberAt_27 ?_
        try refine sw_tope (nI_add _ _) ?_
        refine sw_bipush X (nI 48) dX0_numberAt_28 (by decide) ?_
        refine sw_isub X dX0_numberAt_30 ?_
        refine sw_tope (v2 := nI (10 * v + dg (x p2))) (by rw [pk_sub (by omega)]; congr 1; omega) ?_
        refine sw_istore_2 X dX0_numberAt_31 trivial ?_
        first | refine sw_inc1_4 X dX0_numberAt_32 trivial ?_ | refine sw_iinc_4 X _ dX0_numberAt_32 rfl trivial ?_
        refine sw_goto X 11 dX0_numberAt_35 (by decide) ?_
        exact ih (p2 + 1) _ (by omega) (by omega) hv
  refine sw_iconst X (nI 0) dX0_numberAt_0 (by decide) ?_
  refine sw_istore_2 X dX0_numberAt_1 trivial ?_
  refine sw_aload_0 X dX0_numberAt_2 ?_
  refine sw_iload_1 X dX0_numberAt_3 ?_
  refine ca_X0_46 X (by decide) dX0_numberAt_4 (Nat.le_of_ble_eq_true rfl) (c_X0_endOfNumber T hp) ?_
  refine sw_istore_3 X dX0_numberAt_7 trivial ?_
  refine sw_iload_1 X dX0_numberAt_8 ?_
  refine sw_istore_4 X dX0_numberAt_9 trivial ?_
  exact L (eoR x n p - p) p 0 (by omega) (Nat.le_refl _) rfl
set_option maxHeartbeats 4000000 in
set_option maxRecDepth 100000 in
theorem c_X0_startsOrder {G : sv_G} {M : sv_Mem} {x : Nat → Int32} {n : Nat} (T : TC M x n) {p : Nat} (hp : p ≤ n) : sv_Ct G M_X0_startsOrder 1 [.ref (sv_ad G 2 8 0), .int (nI p)] M (some (.int (bI (p = 0 ∨ x (p - 1) = nI 59)))) (M) := by
  obtain ⟨hx, hl, hn, hch⟩ := id T
  refine sv_Ct_of (lo := [some (.ref (sv_ad G 2 8 0)), some (.int (nI p))]) (pn_X0) rfl (Nat.le_of_ble_eq_true rfl) rfl (fun K X Y => ?_)
  replace X : sv_X G K cX0_startsOrder RX0 2 1 := X
  replace Y : sv_Y G K (some .boolean) _ _ := Y
  show sw_W G K 2 0 _ _ _
  refine sw_iload_1 X dX0_startsOrder_0 ?_
  refine sw_if_eq X 16 dX0_startsOrder_1 (by decide) (fun h1 => ?_) (fun h1 => ?_)
  ·
    have h0 : p = 0 := (nI_eq (b := 0) (by omega) (by omega)).mp h1
    refine sw_iconst X (nI 1) dX0_startsOrder_16 (by decide) ?_
    refine sw_goto X 21 dX0_startsOrder_17 (by decide) ?_
    exact sw_zret X Y dX0_startsOrder_21 (by first | rfl | exact sv_nzB) (by first | exact rb_t (Or.inl h0) | exact rb_t (Or.inr (by first | exact h13 | exact Decidable.of_not_not h13)) | exact rb_f (fun z => z.elim h0 h13)) (rfl)
  ·
    have h0 : p ≠ 0 := fun z => h1 (by rw [z]; rfl)
    refine sw_aload_0 X dX0_startsOrder_4 ?_
    refine sw_iload_1 X dX0_startsOrder_5 ?_
    refine sw_iconst X (nI 1) dX0_startsOrder_6 (by decide) ?_
    refine sw_isub X dX0_startsOrder_7 ?_
    refine sw_tope (v2 := nI (p - 1)) (pk_sub (by omega)) ?_
    refine ca_X0_42 X (by decide) dX0_startsOrder_8 (Nat.le_of_ble_eq_true rfl) (c_X0_characterAt T (by omega)) ?_
    refine sw_bipush X (nI 59) dX0_startsOrder_11 (by decide) ?_
    refine sw_icmp_ne X 20 dX0_startsOrder_13 (by decide) (fun h13 => ?_) (fun h13 => ?_)
    ·
      refine sw_iconst X (nI 0) dX0_startsOrder_20 (by decide) ?_
      exact sw_zret X Y dX0_startsOrder_21 (by first | rfl | exact sv_nzB) (by first | exact rb_t (Or.inl h0) | exact rb_t (Or.inr (by first | exact h13 | exact Decidable.of_not_not h13)) | exact rb_f (fun z => z.elim h0 h13)) (rfl)
    ·
      refine sw_iconst X (nI 1) dX0_startsOrder_16 (by decide) ?_
      refine sw_goto X 21 dX0_startsOrder_17 (by decide) ?_
      exact sw_zret X Y dX0_startsOrder_21 (by first | rfl | exact sv_nzB) (by first | exact rb_t (Or.inl h0) | exact rb_t (Or.inr (by first | exact h13 | exact Decidable.of_not_not h13)) | exact rb_f (fun z => z.elim h0 h13)) (rfl)
set_option maxHeartbeats 4000000 in
set_option maxRecDepth 100000 in
theorem c_X0_placeAfterKind {G : sv_G} {M : sv_Mem} {v : Int32} : sv_Ct G M_X0_placeAfterKind 0 [.int v] M (some (.int (paKind v))) (M) := by
  refine sv_Ct_of (lo := [some (.int v)]) (pn_X0) rfl (Nat.le_of_ble_eq_true rfl) rfl (fun K X Y => ?_)
  replace X : sv_X G K cX0_placeAfterKind RX0 1 0 := X
  replace Y : sv_Y G K (some .int) _ _ := Y
  show sw_W G K 1 0 _ _ _
  refine sw_iload_0 X dX0_placeAfterKind_0 ?_
  refine sw_case (v := nI 98) (fun h1 => ?_) (fun h1_0 => ?_)
  ·
    refine sw_tabInV X 104 dX0_placeAfterKind_1 (q := 0) h1 (by decide) (by decide) ?_
    refine sw_bipush X (nI 12) dX0_placeAfterKind_104 (by decide) ?_
    exact sw_iret X Y dX0_placeAfterKind_106 (by first | exact ri_of (by rw [h1]; decide +kernel) | exact ri_of (by unfold paKind; rw [if_neg (fun z => z.elim h1_0 (fun z => z.elim h1_1 h1_16)), if_neg (fun z => z.elim h1_17 (fun z => z.elim h1_19 h1_2)), if_neg h1_21, if_neg (fun z => z.elim h1_3 h1_5)])) (rfl)
  refine sw_case (v := nI 99) (fun h1 => ?_) (fun h1_1 => ?_)
  ·
    refine sw_tabInV X 104 dX0_placeAfterKind_1 (q := 1) h1 (by decide) (by decide) ?_
    refine sw_bipush X (nI 12) dX0_placeAfterKind_104 (by decide) ?_
    exact sw_iret X Y dX0_placeAfterKind_106 (by first | exact ri_of (by rw [h1]; decide +kernel) | exact ri_of (by unfold paKind; rw [if_neg (fun z => z.elim h1_0 (fun z => z.elim h1_1 h1_16)), if_neg (fun z => z.elim h1_17 (fun z => z.elim h1_19 h1_2)), if_neg h1_21, if_neg (fun z => z.elim h1_3 h1_5)])) (rfl)
  refine sw_case (v := nI 100) (fun h1 => ?_) (fun h1_2 => ?_)
  ·
    refine sw_tabInV X 107 dX0_placeAfterKind_1 (q := 2) h1 (by decide) (by decide) ?_
    refine sw_iconst X (nI 2) dX0_placeAfterKind_107 (by decide) ?_
    exact sw_iret X Y dX0_placeAfterKind_108 (by first | exact ri_of (by rw [h1]; decide +kernel) | exact ri_of (by unfold paKind; rw [if_neg (fun z => z.elim h1_0 (fun z => z.elim h1_1 h1_16)), if_neg (fun z => z.elim h1_17 (fun z => z.elim h1_19 h1_2)), if_neg h1_21, if_neg (fun z => z.elim h1_3 h1_5)])) (rfl)
  refine sw_case (v := nI 101) (fun h1 => ?_) (fun h1_3 => ?_)
  ·
    refine sw_tabInV X 111 dX0_placeAfterKind_1 (q := 3) h1 (by decide) (by decide) ?_
    refine sw_iconst X (nI 3) dX0_placeAfterKind_111 (by decide) ?_
    exact sw_iret X Y dX0_placeAfterKind_112 (by first | exact ri_of (by rw [h1]; decide +kernel) | exact ri_of (by unfold paKind; rw [if_neg (fun z => z.elim h1_0 (fun z => z.elim h1_1 h1_16)), if_neg (fun z => z.elim h1_17 (fun z => z.elim h1_19 h1_2)), if_neg h1_21, if_neg (fun z => z.elim h1_3 h1_5)])) (rfl)
  refine sw_case (v := nI 102) (fun h1 => ?_) (fun h1_4 => ?_)
  ·
    refine sw_tabInV X 113 dX0_placeAfterKind_1 (q := 4) h1 (by decide) (by decide) ?_
    refine sw_iconst X (-1) dX0_placeAfterKind_113 (by decide) ?_
    exact sw_iret X Y dX0_placeAfterKind_114 (by first | exact ri_of (by rw [h1]; decide +kernel) | exact ri_of (by unfold paKind; rw [if_neg (fun z => z.elim h1_0 (fun z => z.elim h1_1 h1_16)), if_neg (fun z => z.elim h1_17 (fun z => z.elim h1_19 h1_2)), if_neg h1_21, if_neg (fun z => z.elim h1_3 h1_5)])) (rfl)
  refine sw_case (v := nI 103) (fun h1 => ?_) (fun h1_5 => ?_)
  ·
    refine sw_tabInV X 111 dX0_placeAfterKind_1 (q := 5) h1 (by decide) (by decide) ?_
    refine sw_iconst X (nI 3) dX0_placeAfterKind_111 (by decide) ?_
    exact sw_iret X Y dX0_placeAfterKind_112 (by first | exact ri_of (by rw [h1]; decide +kernel) | exact ri_of (by unfold paKind; rw [if_neg (fun z => z.elim h1_0 (fun z => z.elim h1_1 h1_16)), if_neg (fun z => z.elim h1_17 (fun z => z.elim h1_19 h1_2)), if_neg h1_21, if_neg (fun z => z.elim h1_3 h1_5)])) (rfl)
  refine sw_case (v := nI 104) (fun h1 => ?_) (fun h1_6 => ?_)
  ·
    refine sw_tabInV X 113 dX0_placeAfterKind_1 (q := 6) h1 (by decide) (by decide) ?_
    refine sw_iconst X (-1) dX0_placeAfterKind_113 (by decide) ?_
    exact sw_iret X Y dX0_placeAfterKind_114 (by first | exact ri_of (by rw [h1]; decide +kernel) | exact ri_of (by unfold paKind; rw [if_neg (fun z => z.elim h1_0 (fun z => z.elim h1_1 h1_16)), if_neg (fun z => z.elim h1_17 (fun z => z.elim h1_19 h1_2)), if_neg h1_21, if_neg (fun z => z.elim h1_3 h1_5)])) (rfl)
  refine sw_case (v := nI 105) (fun h1 => ?_) (fun h1_7 => ?_)
  ·
    refine sw_tabInV X 113 dX0_placeAfterKind_1 (q := 7) h1 (by decide) (by decide) ?_
    refine sw_iconst X (-1) dX0_placeAfterKind_113 (by decide) ?_
    exact sw_iret X Y dX0_placeAfterKind_114 (by first | exact ri_of (by rw [h1]; decide +kernel) | exact ri_of (by unfold paKind; rw [if_neg (fun z => z.elim h1_0 (fun z => z.elim h1_1 h1_16)), if_neg (fun z => z.elim h1_17 (fun z => z.elim h1_19 h1_2)), if_neg h1_21, if_neg (fun z => z.elim h1_3 h1_5)])) (rfl)
  refine sw_case (v := nI 106) (fun h1 => ?_) (fun h1_8 => ?_)
  ·
    refine sw_tabInV X 113 dX0_placeAfterKind_1 (q := 8) h1 (by decide) (by decide) ?_
    refine sw_iconst X (-1) dX0_placeAfterKind_113 (by decide) ?_
    exact sw_iret X Y dX0_placeAfterKind_114 (by first | exact ri_of (by rw [h1]; decide +kernel) | exact ri_of (by unfold paKind; rw [if_neg (fun z => z.elim h1_0 (fun z => z.elim h1_1 h1_16)), if_neg (fun z => z.elim h1_17 (fun z => z.elim h1_19 h1_2)), if_neg h1_21, if_neg (fun z => z.elim h1_3 h1_5)])) (rfl)
  refine sw_case (v := nI 107) (fun h1 => ?_) (fun h1_9 => ?_)
  ·
    refine sw_tabInV X 113 dX0_placeAfterKind_1 (q := 9) h1 (by decide) (by decide) ?_
    refine sw_iconst X (-1) dX0_placeAfterKind_113 (by decide) ?_
    exact sw_iret X Y dX0_placeAfterKind_114 (by first | exact ri_of (by rw [h1]; decide +kernel) | exact ri_of (by unfold paKind; rw [if_neg (fun z => z.elim h1_0 (fun z => z.elim h1_1 h1_16)), if_neg (fun z => z.elim h1_17 (fun z => z.elim h1_19 h1_2)), if_neg h1_21, if_neg (fun z => z.elim h1_3 h1_5)])) (rfl)
  refine sw_case (v := nI 108) (fun h1 => ?_) (fun h1_10 => ?_)
  ·
    refine sw_tabInV X 113 dX0_placeAfterKind_1 (q := 10) h1 (by decide) (by decide) ?_
    refine sw_iconst X (-1) dX0_placeAfterKind_113 (by decide) ?_
    exact sw_iret X Y dX0_placeAfterKind_114 (by first | exact ri_of (by rw [h1]; decide +kernel) | exact ri_of (by unfold paKind; rw [if_neg (fun z => z.elim h1_0 (fun z => z.elim h1_1 h1_16)), if_neg (fun z => z.elim h1_17 (fun z => z.elim h1_19 h1_2)), if_neg h1_21, if_neg (fun z => z.elim h1_3 h1_5)])) (rfl)
  refine sw_case (v := nI 109) (fun h1 => ?_) (fun h1_11 => ?_)
  ·
    refine sw_tabInV X 113 dX0_placeAfterKind_1 (q := 11) h1 (by decide) (by decide) ?_
    refine sw_iconst X (-1) dX0_placeAfterKind_113 (by decide) ?_
    exact sw_iret X Y dX0_placeAfterKind_114 (by first | exact ri_of (by rw [h1]; decide +kernel) | exact ri_of (by unfold paKind; rw [if_neg (fun z => z.elim h1_0 (fun z => z.elim h1_1 h1_16)), if_neg (fun z => z.elim h1_17 (fun z => z.elim h1_19 h1_2)), if_neg h1_21, if_neg (fun z => z.elim h1_3 h1_5)])) (rfl)
  refine sw_case (v := nI 110) (fun h1 => ?_) (fun h1_12 => ?_)
  ·
    refine sw_tabInV X 113 dX0_placeAfterKind_1 (q := 12) h1 (by decide) (by decide) ?_
    refine sw_iconst X (-1) dX0_placeAfterKind_113 (by decide) ?_
    exact sw_iret X Y dX0_placeAfterKind_114 (by first | exact ri_of (by rw [h1]; decide +kernel) | exact ri_of (by unfold paKind; rw [if_neg (fun z => z.elim h1_0 (fun z => z.elim h1_1 h1_16)), if_neg (fun z => z.elim h1_17 (fun z => z.elim h1_19 h1_2)), if_neg h1_21, if_neg (fun z => z.elim h1_3 h1_5)])) (rfl)
  refine sw_case (v := nI 111) (fun h1 => ?_) (fun h1_13 => ?_)
  ·
    refine sw_tabInV X 113 dX0_placeAfterKind_1 (q := 13) h1 (by decide) (by decide) ?_
    refine sw_iconst X (-1) dX0_placeAfterKind_113 (by decide) ?_
    exact sw_iret X Y dX0_placeAfterKind_114 (by first | exact ri_of (by rw [h1]; decide +kernel) | exact ri_of (by unfold paKind; rw [if_neg (fun z => z.elim h1_0 (fun z => z.elim h1_1 h1_16)), if_neg (fun z => z.elim h1_17 (fun z => z.elim h1_19 h1_2)), if_neg h1_21, if_neg (fun z => z.elim h1_3 h1_5)])) (rfl)
  refine sw_case (v := nI 112) (fun h1 => ?_) (fun h1_14 => ?_)
  ·
    refine sw_tabInV X 113 dX0_placeAfterKind_1 (q := 14) h1 (by decide) (by decide) ?_
    refine sw_iconst X (-1) dX0_placeAfterKind_113 (by decide) ?_
    exact sw_iret X Y dX0_placeAfterKind_114 (by first | exact ri_of (by rw [h1]; decide +kernel) | exact ri_of (by unfold paKind; rw [if_neg (fun z => z.elim h1_0 (fun z => z.elim h1_1 h1_16)), if_neg (fun z => z.elim h1_17 (fun z => z.elim h1_19 h1_2)), if_neg h1_21, if_neg (fun z => z.elim h1_3 h1_5)])) (rfl)
  refine sw_case (v := nI 113) (fun h1 => ?_) (fun h1_15 => ?_)
  ·
    refine sw_tabInV X 113 dX0_placeAfterKind_1 (q := 15) h1 (by decide) (by decide) ?_
    refine sw_iconst X (-1) dX0_placeAfterKind_113 (by decide) ?_
    exact sw_iret X Y dX0_placeAfterKind_114 (by first | exact ri_of (by rw [h1]; decide +kernel) | exact ri_of (by unfold paKind; rw [if_neg (fun z => z.elim h1_0 (fun z => z.elim h1_1 h1_16)), if_neg (fun z => z.elim h1_17 (fun z => z.elim h1_19 h1_2)), if_neg h1_21, if_neg (fun z => z.elim h1_3 h1_5)])) (rfl)
  refine sw_case (v := nI 114) (fun h1 => ?_) (fun h1_16 => ?_)
  ·
    refine sw_tabInV X 104 dX0_placeAfterKind_1 (q := 16) h1 (by decide) (by decide) ?_
    refine sw_bipush X (nI 12) dX0_placeAfterKind_104 (by decide) ?_
    exact sw_iret X Y dX0_placeAfterKind_106 (by first | exact ri_of (by rw [h1]; decide +kernel) | exact ri_of (by unfold paKind; rw [if_neg (fun z => z.elim h1_0 (fun z => z.elim h1_1 h1_16)), if_neg (fun z => z.elim h1_17 (fun z => z.elim h1_19 h1_2)), if_neg h1_21, if_neg (fun z => z.elim h1_3 h1_5)])) (rfl)
  refine sw_case (v := nI 115) (fun h1 => ?_) (fun h1_17 => ?_)
  ·
    refine sw_tabInV X 107 dX0_placeAfterKind_1 (q := 17) h1 (by decide) (by decide) ?_
    refine sw_iconst X (nI 2) dX0_placeAfterKind_107 (by decide) ?_
    exact sw_iret X Y dX0_placeAfterKind_108 (by first | exact ri_of (by rw [h1]; decide +kernel) | exact ri_of (by unfold paKind; rw [if_neg (fun z => z.elim h1_0 (fun z => z.elim h1_1 h1_16)), if_neg (fun z => z.elim h1_17 (fun z => z.elim h1_19 h1_2)), if_neg h1_21, if_neg (fun z => z.elim h1_3 h1_5)])) (rfl)
  refine sw_case (v := nI 116) (fun h1 => ?_) (fun h1_18 => ?_)
  ·
    refine sw_tabInV X 113 dX0_placeAfterKind_1 (q := 18) h1 (by decide) (by decide) ?_
    refine sw_iconst X (-1) dX0_placeAfterKind_113 (by decide) ?_
    exact sw_iret X Y dX0_placeAfterKind_114 (by first | exact ri_of (by rw [h1]; decide +kernel) | exact ri_of (by unfold paKind; rw [if_neg (fun z => z.elim h1_0 (fun z => z.elim h1_1 h1_16)), if_neg (fun z => z.elim h1_17 (fun z => z.elim h1_19 h1_2)), if_neg h1_21, if_neg (fun z => z.elim h1_3 h1_5)])) (rfl)
  refine sw_case (v := nI 117) (fun h1 => ?_) (fun h1_19 => ?_)
  ·
    refine sw_tabInV X 107 dX0_placeAfterKind_1 (q := 19) h1 (by decide) (by decide) ?_
    refine sw_iconst X (nI 2) dX0_placeAfterKind_107 (by decide) ?_
    exact sw_iret X Y dX0_placeAfterKind_108 (by first | exact ri_of (by rw [h1]; decide +kernel) | exact ri_of (by unfold paKind; rw [if_neg (fun z => z.elim h1_0 (fun z => z.elim h1_1 h1_16)), if_neg (fun z => z.elim h1_17 (fun z => z.elim h1_19 h1_2)), if_neg h1_21, if_neg (fun z => z.elim h1_3 h1_5)])) (rfl)
  refine sw_case (v := nI 118) (fun h1 => ?_) (fun h1_20 => ?_)
  ·
    refine sw_tabInV X 113 dX0_placeAfterKind_1 (q := 20) h1 (by decide) (by decide) ?_
    refine sw_iconst X (-1) dX0_placeAfterKind_113 (by decide) ?_
    exact sw_iret X Y dX0_placeAfterKind_114 (by first | exact ri_of (by rw [h1]; decide +kernel) | exact ri_of (by unfold paKind; rw [if_neg (fun z => z.elim h1_0 (fun z => z.elim h1_1 h1_16)), if_neg (fun z => z.elim h1_17 (fun z => z.elim h1_19 h1_2)), if_neg h1_21, if_neg (fun z => z.elim h1_3 h1_5)])) (rfl)
  refine sw_case (v := nI 119) (fun h1 => ?_) (fun h1_21 => ?_)
  ·
    refine sw_tabInV X 109 dX0_placeAfterKind_1 (q := 21) h1 (by decide) (by decide) ?_
    refine sw_iconst X (nI 5) dX0_placeAfterKind_109 (by decide) ?_
    exact sw_iret X Y dX0_placeAfterKind_110 (by first | exact ri_of (by rw [h1]; decide +kernel) | exact ri_of (by unfold paKind; rw [if_neg (fun z => z.elim h1_0 (fun z => z.elim h1_1 h1_16)), if_neg (fun z => z.elim h1_17 (fun z => z.elim h1_19 h1_2)), if_neg h1_21, if_neg (fun z => z.elim h1_3 h1_5)])) (rfl)
  refine sw_tabOut X 113 dX0_placeAfterKind_1 (by have q0 := sv_ti h1_0 (by decide); have q1 := sv_ti h1_1 (by decide); have q2 := sv_ti h1_2 (by decide); have q3 := sv_ti h1_3 (by decide); have q4 := sv_ti h1_4 (by decide); have q5 := sv_ti h1_5 (by decide); have q6 := sv_ti h1_6 (by decide); have q7 := sv_ti h1_7 (by decide); have q8 := sv_ti h1_8 (by decide); have q9 := sv_ti h1_9 (by decide); have q10 := sv_ti h1_10 (by decide); have q11 := sv_ti h1_11 (by decide); have q12 := sv_ti h1_12 (by decide); have q13 := sv_ti h1_13 (by decide); have q14 := sv_ti h1_14 (by decide); have q15 := sv_ti h1_15 (by decide); have q16 := sv_ti h1_16 (by decide); have q17 := sv_ti h1_17 (by decide); have q18 := sv_ti h1_18 (by decide); have q19 := sv_ti h1_19 (by decide); have q20 := sv_ti h1_20 (by decide); have q21 := sv_ti h1_21 (by decide); omega) (by decide) ?_
  refine sw_iconst X (-1) dX0_placeAfterKind_113 (by decide) ?_
  exact sw_iret X Y dX0_placeAfterKind_114 (by first | exact ri_of (by rw [h1]; decide +kernel) | exact ri_of (by unfold paKind; rw [if_neg (fun z => z.elim h1_0 (fun z => z.elim h1_1 h1_16)), if_neg (fun z => z.elim h1_17 (fun z => z.elim h1_19 h1_2)), if_neg h1_21, if_neg (fun z => z.elim h1_3 h1_5)])) (rfl)
set_option maxHeartbeats 4000000 in
set_option maxRecDepth 100000 in
theorem c_X0_placeAfterKeyDigit {G : sv_G} {M : sv_Mem} {v a b : Int32} : sv_Ct G M_X0_placeAfterKeyDigit 1 [.int v, .int a, .int b] M (some (.int (paKD v a b))) (M) := by
  refine sv_Ct_of (lo := [some (.int v), some (.int a), some (.int b)]) (pn_X0) rfl (Nat.le_of_ble_eq_true rfl) rfl (fun K X Y => ?_)
  replace X : sv_X G K cX0_placeAfterKeyDigit RX0 3 1 := X
  replace Y : sv_Y G K (some .int) _ _ := Y
  show sw_W G K 3 0 _ _ _
  refine sw_iload_0 X dX0_placeAfterKeyDigit_0 ?_
  refine sw_bipush X (nI 49) dX0_placeAfterKeyDigit_1 (by decide) ?_
  refine sw_icmp_ne X 8 dX0_placeAfterKeyDigit_3 (by decide) (fun h3 => ?_) (fun h3 => ?_)
  ·
    refine sw_bipush X (nI 48) dX0_placeAfterKeyDigit_8 (by decide) ?_
    refine sw_iload_0 X dX0_placeAfterKeyDigit_10 ?_
    refine sw_bipush X (nI 57) dX0_placeAfterKeyDigit_11 (by decide) ?_
    refine ca_X0_27 X (by decide) dX0_placeAfterKeyDigit_13 (Nat.le_of_ble_eq_true rfl) c_X0_isBetween ?_
    refine sw_ifB_eq X 23 dX0_placeAfterKeyDigit_16 (by decide) (fun h16 => ?_) (fun h16 => ?_)
    ·
      refine sw_iconst X (-1) dX0_placeAfterKeyDigit_23 (by decide) ?_
      exact sw_iret X Y dX0_placeAfterKeyDigit_24 (by unfold paKD; first | (rw [if_pos (by first | exact h3 | exact Decidable.of_not_not h3)]; done) | (rw [if_neg h3, if_pos h16]; done) | (rw [if_neg h3, if_neg h16]; done)) (rfl)
    ·
      refine sw_iload_2 X dX0_placeAfterKeyDigit_19 ?_
      refine sw_goto X 24 dX0_placeAfterKeyDigit_20 (by decide) ?_
      exact sw_iret X Y dX0_placeAfterKeyDigit_24 (by unfold paKD; first | (rw [if_pos (by first | exact h3 | exact Decidable.of_not_not h3)]; done) | (rw [if_neg h3, if_pos h16]; done) | (rw [if_neg h3, if_neg h16]; done)) (rfl)
  ·
    refine sw_iload_1 X dX0_placeAfterKeyDigit_6 ?_
    exact sw_iret X Y dX0_placeAfterKeyDigit_7 (by unfold paKD; first | (rw [if_pos (by first | exact h3 | exact Decidable.of_not_not h3)]; done) | (rw [if_neg h3, if_pos h16]; done) | (rw [if_neg h3, if_neg h16]; done)) (rfl)
set_option maxHeartbeats 4000000 in
set_option maxRecDepth 100000 in
theorem c_X0_placeInValue {G : sv_G} {M : sv_Mem} {q v : Int32} : sv_Ct G M_X0_placeInValue 1 [.int q, .int v] M (some (.int (paVal q v))) (M) := by
  refine sv_Ct_of (lo := [some (.int q), some (.int v)]) (pn_X0) rfl (Nat.le_of_ble_eq_true rfl) rfl (fun K X Y => ?_)
  replace X : sv_X G K cX0_placeInValue RX0 2 1 := X
  replace Y : sv_Y G K (some .int) _ _ := Y
  show sw_W G K 2 0 _ _ _
  refine sw_bipush X (nI 48) dX0_placeInValue_0 (by decide) ?_
  refine sw_iload_1 X dX0_placeInValue_2 ?_
  refine sw_bipush X (nI 57) dX0_placeInValue_3 (by decide) ?_
  refine ca_X0_27 X (by decide) dX0_placeInValue_5 (Nat.le_of_ble_eq_true rfl) c_X0_isBetween ?_
  refine sw_ifB_ne X 13 dX0_placeInValue_8 (by decide) (fun h8 => ?_) (fun h8 => ?_)
  ·
    refine sw_iload_0 X dX0_placeInValue_13 ?_
    refine sw_case (v := nI 8) (fun h14 => ?_) (fun h14_0 => ?_)
    ·
      refine sw_tabInV X 44 dX0_placeInValue_14 (q := 0) h14 (by decide) (by decide) ?_
      refine sw_iload_1 X dX0_placeInValue_44 ?_
      refine sw_bipush X (nI 48) dX0_placeInValue_45 (by decide) ?_
      refine sw_icmp_ne X 55 dX0_placeInValue_47 (by decide) (fun h47 => ?_) (fun h47 => ?_)
      ·
        refine sw_bipush X (nI 9) dX0_placeInValue_55 (by decide) ?_
        exact sw_iret X Y dX0_placeInValue_57 (by unfold paVal; first | (rw [if_neg h8]; done) | (rw [if_pos h8, if_pos h14, if_pos (by first | exact h47 | exact Decidable.of_not_not h47)]; done) | (rw [if_pos h8, if_pos h14, if_neg h47]; done) | (rw [if_pos h8, if_neg h14_0, if_pos h14]; done) | (rw [if_pos h8, if_neg h14_0, if_neg h14_1, if_pos h14]; done) | (rw [if_pos h8, if_neg h14_0, if_neg h14_1, if_neg h14_2, if_pos h14]; done) | (rw [if_pos h8, if_neg h14_0, if_neg h14_1, if_neg h14_2, if_neg h14_3]; done)) (rfl)
      ·
        refine sw_bipush X (nI 12) dX0_placeInValue_50 (by decide) ?_
        refine sw_goto X 57 dX0_placeInValue_52 (by decide) ?_
        exact sw_iret X Y dX0_placeInValue_57 (by unfold paVal; first | (rw [if_neg h8]; done) | (rw [if_pos h8, if_pos h14, if_pos (by first | exact h47 | exact Decidable.of_not_not h47)]; done) | (rw [if_pos h8, if_pos h14, if_neg h47]; done) | (rw [if_pos h8, if_neg h14_0, if_pos h14]; done) | (rw [if_pos h8, if_neg h14_0, if_neg h14_1, if_pos h14]; done) | (rw [if_pos h8, if_neg h14_0, if_neg h14_1, if_neg h14_2, if_pos h14]; done) | (rw [if_pos h8, if_neg h14_0, if_neg h14_1, if_neg h14_2, if_neg h14_3]; done)) (rfl)
    refine sw_case (v := nI 9) (fun h14 => ?_) (fun h14_1 => ?_)
    ·
      refine sw_tabInV X 58 dX0_placeInValue_14 (q := 1) h14 (by decide) (by decide) ?_
      refine sw_bipush X (nI 10) dX0_placeInValue_58 (by decide) ?_
      exact sw_iret X Y dX0_placeInValue_60 (by unfold paVal; first | (rw [if_neg h8]; done) | (rw [if_pos h8, if_pos h14, if_pos (by first | exact h47 | exact Decidable.of_not_not h47)]; done) | (rw [if_pos h8, if_pos h14, if_neg h47]; done) | (rw [if_pos h8, if_neg h14_0, if_pos h14]; done) | (rw [if_pos h8, if_neg h14_0, if_neg h14_1, if_pos h14]; done) | (rw [if_pos h8, if_neg h14_0, if_neg h14_1, if_neg h14_2, if_pos h14]; done) | (rw [if_pos h8, if_neg h14_0, if_neg h14_1, if_neg h14_2, if_neg h14_3]; done)) (rfl)
    refine sw_case (v := nI 10) (fun h14 => ?_) (fun h14_2 => ?_)
    ·
      refine sw_tabInV X 61 dX0_placeInValue_14 (q := 2) h14 (by decide) (by decide) ?_
      refine sw_bipush X (nI 11) dX0_placeInValue_61 (by decide) ?_
      exact sw_iret X Y dX0_placeInValue_63 (by unfold paVal; first | (rw [if_neg h8]; done) | (rw [if_pos h8, if_pos h14, if_pos (by first | exact h47 | exact Decidable.of_not_not h47)]; done) | (rw [if_pos h8, if_pos h14, if_neg h47]; done) | (rw [if_pos h8, if_neg h14_0, if_pos h14]; done) | (rw [if_pos h8, if_neg h14_0, if_neg h14_1, if_pos h14]; done) | (rw [if_pos h8, if_neg h14_0, if_neg h14_1, if_neg h14_2, if_pos h14]; done) | (rw [if_pos h8, if_neg h14_0, if_neg h14_1, if_neg h14_2, if_neg h14_3]; done)) (rfl)
    refine sw_case (v := nI 11) (fun h14 => ?_) (fun h14_3 => ?_)
    ·
      refine sw_tabInV X 64 dX0_placeInValue_14 (q := 3) h14 (by decide) (by decide) ?_
      refine sw_bipush X (nI 12) dX0_placeInValue_64 (by decide) ?_
      exact sw_iret X Y dX0_placeInValue_66 (by unfold paVal; first | (rw [if_neg h8]; done) | (rw [if_pos h8, if_pos h14, if_pos (by first | exact h47 | exact Decidable.of_not_not h47)]; done) | (rw [if_pos h8, if_pos h14, if_neg h47]; done) | (rw [if_pos h8, if_neg h14_0, if_pos h14]; done) | (rw [if_pos h8, if_neg h14_0, if_neg h14_1, if_pos h14]; done) | (rw [if_pos h8, if_neg h14_0, if_neg h14_1, if_neg h14_2, if_pos h14]; done) | (rw [if_pos h8, if_neg h14_0, if_neg h14_1, if_neg h14_2, if_neg h14_3]; done)) (rfl)
    refine sw_tabOut X 67 dX0_placeInValue_14 (by have q0 := sv_ti h14_0 (by decide); have q1 := sv_ti h14_1 (by decide); have q2 := sv_ti h14_2 (by decide); have q3 := sv_ti h14_3 (by decide); omega) (by decide) ?_
    refine sw_iconst X (-1) dX0_placeInValue_67 (by decide) ?_
    exact sw_iret X Y dX0_placeInValue_68 (by unfold paVal; first | (rw [if_neg h8]; done) | (rw [if_pos h8, if_pos h14, if_pos (by first | exact h47 | exact Decidable.of_not_not h47)]; done) | (rw [if_pos h8, if_pos h14, if_neg h47]; done) | (rw [if_pos h8, if_neg h14_0, if_pos h14]; done) | (rw [if_pos h8, if_neg h14_0, if_neg h14_1, if_pos h14]; done) | (rw [if_pos h8, if_neg h14_0, if_neg h14_1, if_neg h14_2, if_pos h14]; done) | (rw [if_pos h8, if_neg h14_0, if_neg h14_1, if_neg h14_2, if_neg h14_3]; done)) (rfl)
  ·
    refine sw_iconst X (-1) dX0_placeInValue_11 (by decide) ?_
    exact sw_iret X Y dX0_placeInValue_12 (by unfold paVal; first | (rw [if_neg h8]; done) | (rw [if_pos h8, if_pos h14, if_pos (by first | exact h47 | exact Decidable.of_not_not h47)]; done) | (rw [if_pos h8, if_pos h14, if_neg h47]; done) | (rw [if_pos h8, if_neg h14_0, if_pos h14]; done) | (rw [if_pos h8, if_neg h14_0, if_neg h14_1, if_pos h14]; done) | (rw [if_pos h8, if_neg h14_0, if_neg h14_1, if_neg h14_2, if_pos h14]; done) | (rw [if_pos h8, if_neg h14_0, if_neg h14_1, if_neg h14_2, if_neg h14_3]; done)) (rfl)
set_option maxHeartbeats 4000000 in
set_option maxRecDepth 100000 in
theorem c_X0_placeAfter {G : sv_G} {M : sv_Mem} {q v : Int32} : sv_Ct G M_X0_placeAfter 2 [.int q, .int v] M (some (.int (paR q v))) (M) := by
  refine sv_Ct_of (lo := [some (.int q), some (.int v)]) (pn_X0) rfl (Nat.le_of_ble_eq_true rfl) rfl (fun K X Y => ?_)
  replace X : sv_X G K cX0_placeAfter RX0 2 2 := X
  replace Y : sv_Y G K (some .int) _ _ := Y
  show sw_W G K 2 0 _ _ _
  refine sw_iload_1 X dX0_placeAfter_0 ?_
  refine sw_bipush X (nI 59) dX0_placeAfter_1 (by decide) ?_
  refine sw_icmp_ne X 19 dX0_placeAfter_3 (by decide) (fun h3 => ?_) (fun h3 => ?_)
  ·
    refine sw_iload_0 X dX0_placeAfter_19 ?_
    refine sw_case (v := nI 0) (fun h20 => ?_) (fun h20_0 => ?_)
    ·
      refine sw_tabInV X 68 dX0_placeAfter_20 (q := 0) h20 (by decide) (by decide) ?_
      refine sw_bipush X (nI 48) dX0_placeAfter_68 (by decide) ?_
      refine sw_iload_1 X dX0_placeAfter_70 ?_
      refine sw_bipush X (nI 50) dX0_placeAfter_71 (by decide) ?_
      refine ca_X0_27 X (by decide) dX0_placeAfter_73 (Nat.le_of_ble_eq_true rfl) c_X0_isBetween ?_
      refine sw_ifB_eq X 83 dX0_placeAfter_76 (by decide) (fun h76 => ?_) (fun h76 => ?_)
      ·
        refine sw_iconst X (-1) dX0_placeAfter_83 (by decide) ?_
        exact sw_iret X Y dX0_placeAfter_84 (ri_of (by subst h20; first | exact (pa_ne h3).trans ((if_pos rfl).trans (if_pos h76)) | exact (pa_ne h3).trans ((if_pos rfl).trans (if_neg h76)))) (rfl)
      ·
        refine sw_iconst X (nI 1) dX0_placeAfter_79 (by decide) ?_
        refine sw_goto X 84 dX0_placeAfter_80 (by decide) ?_
        exact sw_iret X Y dX0_placeAfter_84 (ri_of (by subst h20; first | exact (pa_ne h3).trans ((if_pos rfl).trans (if_pos h76)) | exact (pa_ne h3).trans ((if_pos rfl).trans (if_neg h76)))) (rfl)
    refine sw_case (v := nI 1) (fun h20 => ?_) (fun h20_1 => ?_)
    ·
      refine sw_tabInV X 85 dX0_placeAfter_20 (q := 1) h20 (by decide) (by decide) ?_
      refine sw_iload_1 X dX0_placeAfter_85 ?_
      refine ca_X0_31 X (by decide) dX0_placeAfter_86 (Nat.le_of_ble_eq_true rfl) c_X0_placeAfterKind ?_
      exact sw_iret X Y dX0_placeAfter_89 (ri_of (by subst h20; first | exact (pa_ne h3).trans ((if_neg (by decide)).trans ((if_pos rfl).trans rfl)))) (rfl)
    refine sw_case (v := nI 2) (fun h20 => ?_) (fun h20_2 => ?_)
    ·
      refine sw_tabInV X 90 dX0_placeAfter_20 (q := 2) h20 (by decide) (by decide) ?_
      refine sw_bipush X (nI 97) dX0_placeAfter_90 (by decide) ?_
      refine sw_iload_1 X dX0_placeAfter_92 ?_
      refine sw_bipush X (nI 104) dX0_placeAfter_93 (by decide) ?_
      refine ca_X0_27 X (by decide) dX0_placeAfter_95 (Nat.le_of_ble_eq_true rfl) c_X0_isBetween ?_
      refine sw_ifB_eq X 106 dX0_placeAfter_98 (by decide) (fun h98 => ?_) (fun h98 => ?_)
      ·
        refine sw_iconst X (-1) dX0_placeAfter_106 (by decide) ?_
        exact sw_iret X Y dX0_placeAfter_107 (ri_of (by subst h20; first | exact (pa_ne h3).trans ((if_neg (by decide)).trans ((if_neg (by decide)).trans ((if_pos rfl).trans (if_pos h98)))) | exact (pa_ne h3).trans ((if_neg (by decide)).trans ((if_neg (by decide)).trans ((if_pos rfl).trans (if_neg h98)))))) (rfl)
      ·
        refine sw_bipush X (nI 12) dX0_placeAfter_101 (by decide) ?_
        refine sw_goto X 107 dX0_placeAfter_103 (by decide) ?_
        exact sw_iret X Y dX0_placeAfter_107 (ri_of (by subst h20; first | exact (pa_ne h3).trans ((if_neg (by decide)).trans ((if_neg (by decide)).trans ((if_pos rfl).trans (if_pos h98)))) | exact (pa_ne h3).trans ((if_neg (by decide)).trans ((if_neg (by decide)).trans ((if_pos rfl).trans (if_neg h98)))))) (rfl)
    refine sw_case (v := nI 3) (fun h20 => ?_) (fun h20_3 => ?_)
    ·
      refine sw_tabInV X 108 dX0_placeAfter_20 (q := 3) h20 (by decide) (by decide) ?_
      refine sw_iload_1 X dX0_placeAfter_108 ?_
      refine sw_iconst X (nI 4) dX0_placeAfter_109 (by decide) ?_
      refine sw_bipush X (nI 12) dX0_placeAfter_110 (by decide) ?_
      refine ca_X0_35 X (by decide) dX0_placeAfter_112 (Nat.le_of_ble_eq_true rfl) c_X0_placeAfterKeyDigit ?_
      exact sw_iret X Y dX0_placeAfter_115 (ri_of (by subst h20; first | exact (pa_ne h3).trans ((if_neg (by decide)).trans ((if_neg (by decide)).trans ((if_neg (by decide)).trans ((if_pos rfl).trans rfl)))))) (rfl)
    refine sw_case (v := nI 4) (fun h20 => ?_) (fun h20_4 => ?_)
    ·
      refine sw_tabInV X 116 dX0_placeAfter_20 (q := 4) h20 (by decide) (by decide) ?_
      refine sw_bipush X (nI 48) dX0_placeAfter_116 (by decide) ?_
      refine sw_iload_1 X dX0_placeAfter_118 ?_
      refine sw_bipush X (nI 53) dX0_placeAfter_119 (by decide) ?_
      refine ca_X0_27 X (by decide) dX0_placeAfter_121 (Nat.le_of_ble_eq_true rfl) c_X0_isBetween ?_
      refine sw_ifB_eq X 132 dX0_placeAfter_124 (by decide) (fun h124 => ?_) (fun h124 => ?_)
      ·
        refine sw_iconst X (-1) dX0_placeAfter_132 (by decide) ?_
        exact sw_iret X Y dX0_placeAfter_133 (ri_of (by subst h20; first | exact (pa_ne h3).trans ((if_neg (by decide)).trans ((if_neg (by decide)).trans ((if_neg (by decide)).trans ((if_neg (by decide)).trans ((if_pos rfl).trans (if_pos h124)))))) | exact (pa_ne h3).trans ((if_neg (by decide)).trans ((if_neg (by decide)).trans ((if_neg (by decide)).trans ((if_neg (by decide)).trans ((if_pos rfl).trans (if_neg h124)))))))) (rfl)
      ·
        refine sw_bipush X (nI 12) dX0_placeAfter_127 (by decide) ?_
        refine sw_goto X 133 dX0_placeAfter_129 (by decide) ?_
        exact sw_iret X Y dX0_placeAfter_133 (ri_of (by subst h20; first | exact (pa_ne h3).trans ((if_neg (by decide)).trans ((if_neg (by decide)).trans ((if_neg (by decide)).trans ((if_neg (by decide)).trans ((if_pos rfl).trans (if_pos h124)))))) | exact (pa_ne h3).trans ((if_neg (by decide)).trans ((if_neg (by decide)).trans ((if_neg (by decide)).trans ((if_neg (by decide)).trans ((if_pos rfl).trans (if_neg h124)))))))) (rfl)
    refine sw_case (v := nI 5) (fun h20 => ?_) (fun h20_5 => ?_)
    ·
      refine sw_tabInV X 134 dX0_placeAfter_20 (q := 5) h20 (by decide) (by decide) ?_
      refine sw_iload_1 X dX0_placeAfter_134 ?_
      refine sw_bipush X (nI 6) dX0_placeAfter_135 (by decide) ?_
      refine sw_bipush X (nI 7) dX0_placeAfter_137 (by decide) ?_
      refine ca_X0_35 X (by decide) dX0_placeAfter_139 (Nat.le_of_ble_eq_true rfl) c_X0_placeAfterKeyDigit ?_
      exact sw_iret X Y dX0_placeAfter_142 (ri_of (by subst h20; first | exact (pa_ne h3).trans ((if_neg (by decide)).trans ((if_neg (by decide)).trans ((if_neg (by decide)).trans ((if_neg (by decide)).trans ((if_neg (by decide)).trans ((if_pos rfl).trans rfl)))))))) (rfl)
    refine sw_case (v := nI 6) (fun h20 => ?_) (fun h20_6 => ?_)
    ·
      refine sw_tabInV X 143 dX0_placeAfter_20 (q := 6) h20 (by decide) (by decide) ?_
      refine sw_bipush X (nI 48) dX0_placeAfter_143 (by decide) ?_
      refine sw_iload_1 X dX0_placeAfter_145 ?_
      refine sw_bipush X (nI 53) dX0_placeAfter_146 (by decide) ?_
      refine ca_X0_27 X (by decide) dX0_placeAfter_148 (Nat.le_of_ble_eq_true rfl) c_X0_isBetween ?_
      refine sw_ifB_eq X 157 dX0_placeAfter_151 (by decide) (fun h151 => ?_) (fun h151 => ?_)
      ·
        refine sw_iload_1 X dX0_placeAfter_157 ?_
        refine sw_bipush X (nI 61) dX0_placeAfter_158 (by decide) ?_
        refine sw_icmp_ne X 168 dX0_placeAfter_160 (by decide) (fun h160 => ?_) (fun h160 => ?_)
        ·
          refine sw_iconst X (-1) dX0_placeAfter_168 (by decide) ?_
          exact sw_iret X Y dX0_placeAfter_169 (ri_of (by subst h20; first | exact (pa_ne h3).trans ((if_neg (by decide)).trans ((if_neg (by decide)).trans ((if_neg (by decide)).trans ((if_neg (by decide)).trans ((if_neg (by decide)).trans ((if_neg (by decide)).trans ((if_pos rfl).trans ((if_neg h151).trans (if_pos (by first | exact h160 | exact Decidable.of_not_not h160)))))))))) | exact (pa_ne h3).trans ((if_neg (by decide)).trans ((if_neg (by decide)).trans ((if_neg (by decide)).trans ((if_neg (by decide)).trans ((if_neg (by decide)).trans ((if_neg (by decide)).trans ((if_pos rfl).trans ((if_neg h151).trans (if_neg h160))))))))))) (rfl)
        ·
          refine sw_bipush X (nI 8) dX0_placeAfter_163 (by decide) ?_
          refine sw_goto X 169 dX0_placeAfter_165 (by decide) ?_
          exact sw_iret X Y dX0_placeAfter_169 (ri_of (by subst h20; first | exact (pa_ne h3).trans ((if_neg (by decide)).trans ((if_neg (by decide)).trans ((if_neg (by decide)).trans ((if_neg (by decide)).trans ((if_neg (by decide)).trans ((if_neg (by decide)).trans ((if_pos rfl).trans ((if_neg h151).trans (if_pos (by first | exact h160 | exact Decidable.of_not_not h160)))))))))) | exact (pa_ne h3).trans ((if_neg (by decide)).trans ((if_neg (by decide)).trans ((if_neg (by decide)).trans ((if_neg (by decide)).trans ((if_neg (by decide)).trans ((if_neg (by decide)).trans ((if_pos rfl).trans ((if_neg h151).trans (if_neg h160))))))))))) (rfl)
      ·
        refine sw_bipush X (nI 7) dX0_placeAfter_154 (by decide) ?_
        exact sw_iret X Y dX0_placeAfter_156 (ri_of (by subst h20; first | exact (pa_ne h3).trans ((if_neg (by decide)).trans ((if_neg (by decide)).trans ((if_neg (by decide)).trans ((if_neg (by decide)).trans ((if_neg (by decide)).trans ((if_neg (by decide)).trans ((if_pos rfl).trans (if_pos h151)))))))))) (rfl)
    refine sw_case (v := nI 7) (fun h20 => ?_) (fun h20_7 => ?_)
    ·
      refine sw_tabInV X 170 dX0_placeAfter_20 (q := 7) h20 (by decide) (by decide) ?_
      refine sw_iload_1 X dX0_placeAfter_170 ?_
      refine sw_bipush X (nI 61) dX0_placeAfter_171 (by decide) ?_
      refine sw_icmp_ne X 181 dX0_placeAfter_173 (by decide) (fun h173 => ?_) (fun h173 => ?_)
      ·
        refine sw_iconst X (-1) dX0_placeAfter_181 (by decide) ?_
        exact sw_iret X Y dX0_placeAfter_182 (ri_of (by subst h20; first | exact (pa_ne h3).trans ((if_neg (by decide)).trans ((if_neg (by decide)).trans ((if_neg (by decide)).trans ((if_neg (by decide)).trans ((if_neg (by decide)).trans ((if_neg (by decide)).trans ((if_neg (by decide)).trans ((if_pos rfl).trans (if_pos (by first | exact h173 | exact Decidable.of_not_not h173)))))))))) | exact (pa_ne h3).trans ((if_neg (by decide)).trans ((if_neg (by decide)).trans ((if_neg (by decide)).trans ((if_neg (by decide)).trans ((if_neg (by decide)).trans ((if_neg (by decide)).trans ((if_neg (by decide)).trans ((if_pos rfl).trans (if_neg h173))))))))))) (rfl)
      ·
        refine sw_bipush X (nI 8) dX0_placeAfter_176 (by decide) ?_
        refine sw_goto X 182 dX0_placeAfter_178 (by decide) ?_
        exact sw_iret X Y dX0_placeAfter_182 (ri_of (by subst h20; first | exact (pa_ne h3).trans ((if_neg (by decide)).trans ((if_neg (by decide)).trans ((if_neg (by decide)).trans ((if_neg (by decide)).trans ((if_neg (by decide)).trans ((if_neg (by decide)).trans ((if_neg (by decide)).trans ((if_pos rfl).trans (if_pos (by first | exact h173 | exact Decidable.of_not_not h173)))))))))) | exact (pa_ne h3).trans ((if_neg (by decide)).trans ((if_neg (by decide)).trans ((if_neg (by decide)).trans ((if_neg (by decide)).trans ((if_neg (by decide)).trans ((if_neg (by decide)).trans ((if_neg (by decide)).trans ((if_pos rfl).trans (if_neg h173))))))))))) (rfl)
    refine sw_tabOut X 183 dX0_placeAfter_20 (by have q0 := sv_ti h20_0 (by decide); have q1 := sv_ti h20_1 (by decide); have q2 := sv_ti h20_2 (by decide); have q3 := sv_ti h20_3 (by decide); have q4 := sv_ti h20_4 (by decide); have q5 := sv_ti h20_5 (by decide); have q6 := sv_ti h20_6 (by decide); have q7 := sv_ti h20_7 (by decide); omega) (by decide) ?_
    refine sw_iload_0 X dX0_placeAfter_183 ?_
    refine sw_iload_1 X dX0_placeAfter_184 ?_
    refine ca_X0_39 X (by decide) dX0_placeAfter_185 (Nat.le_of_ble_eq_true rfl) c_X0_placeInValue ?_
    exact sw_iret X Y dX0_placeAfter_188 (ri_of (by rw [pa_ne h3, if_neg h20_0, if_neg h20_1, if_neg h20_2, if_neg h20_3, if_neg h20_4, if_neg h20_5, if_neg h20_6, if_neg h20_7])) (rfl)
  ·
    refine sw_iload_0 X dX0_placeAfter_6 ?_
    refine ca_X0_23 X (by decide) dX0_placeAfter_7 (Nat.le_of_ble_eq_true rfl) c_X0_canEndOrder ?_
    refine sw_ifB_eq X 17 dX0_placeAfter_10 (by decide) (fun h10 => ?_) (fun h10 => ?_)
    ·
      refine sw_iconst X (-1) dX0_placeAfter_17 (by decide) ?_
      exact sw_iret X Y dX0_placeAfter_18 (ri_of (by rw [show v = nI 59 from by first | exact h3 | exact Decidable.of_not_not h3]; first | exact (pa_59 h10) | exact (pa_59n h10))) (rfl)
    ·
      refine sw_iconst X (nI 0) dX0_placeAfter_13 (by decide) ?_
      refine sw_goto X 18 dX0_placeAfter_14 (by decide) ?_
      exact sw_iret X Y dX0_placeAfter_18 (ri_of (by rw [show v = nI 59 from by first | exact h3 | exact Decidable.of_not_not h3]; first | exact (pa_59 h10) | exact (pa_59n h10))) (rfl)
set_option maxHeartbeats 4000000 in
set_option maxRecDepth 100000 in
theorem c_X0_firstFault {G : sv_G} {M : sv_Mem} {x : Nat → Int32} {n : Nat} (T : TC M x n) : sv_Ct G M_X0_firstFault 3 [.ref (sv_ad G 2 8 0)] M (some (.int (ffT x n))) (M) := by
  obtain ⟨hx, hl, hn, hch⟩ := id T
  refine sv_Ct_of (lo := [some (.ref (sv_ad G 2 8 0)), none, none]) (pn_X0) rfl (Nat.le_of_ble_eq_true rfl) rfl (fun K X Y => ?_)
  replace X : sv_X G K cX0_firstFault RX0 3 3 := X
  replace Y : sv_Y G K (some .int) _ _ := Y
  show sw_W G K 3 0 _ _ _
  have L : ∀ c p q, p + c = n → ffR x c p q = ffT x n → sw_W G K 3 4 [some (.ref (sv_ad G 2 8 0)), some (.int q), some (.int (nI p))] [] M := by
    intro c
    induction c with
    | zero =>
      intro p q hpn hv
      refine sw_iload_2 X dX0_firstFault_4 ?_
      refine sw_aload_0 X dX0_firstFault_5 ?_
      refine gf_X0_15 X dX0_firstFault_6 ?_
      refine sw_tope hl ?_
      refine sw_icmp_ge X 36 dX0_firstFault_9 (by decide) (fun h9 => ?_) (fun h9 => ?_)
      ·
        refine sw_iload_1 X dX0_firstFault_36 ?_
        refine ca_X0_23 X (by decide) dX0_firstFault_37 (Nat.le_of_ble_eq_true rfl) c_X0_canEndOrder ?_
        refine sw_ifB_eq X 48 dX0_firstFault_40 (by decide) (fun h40 => ?_) (fun h40 => ?_)
        ·
          refine sw_aload_0 X dX0_firstFault_48 ?_
          refine gf_X0_15 X dX0_firstFault_49 ?_
          exact sw_iret X Y dX0_firstFault_52 (ri_of (hv.symm.trans (by first | exact if_pos h40 | exact (if_neg h40).trans ((congrArg nI (show p = n by omega)).trans hl.symm)))) (rfl)
        ·
          refine sw_bipush X (-5) dX0_firstFault_43 (by decide) ?_
          refine sw_goto X 52 dX0_firstFault_45 (by decide) ?_
          exact sw_iret X Y dX0_firstFault_52 (ri_of (hv.symm.trans (by first | exact if_pos h40 | exact (if_neg h40).trans ((congrArg nI (show p = n by omega)).trans hl.symm)))) (rfl)
      ·
        exact absurd ((nI_leI (by omega) (by omega)).mpr (by omega)) h9
    | succ c ih =>
      intro p q hpn hv
      refine sw_iload_2 X dX0_firstFault_4 ?_
      refine sw_aload_0 X dX0_firstFault_5 ?_
      refine gf_X0_15 X dX0_firstFault_6 ?_
      refine sw_tope hl ?_
      refine sw_icmp_ge X 36 dX0_firstFault_9 (by decide) (fun h9 => ?_) (fun h9 => ?_)
      ·
        exact absurd ((nI_leI (by omega) (by omega)).mp h9) (by omega)
      ·
        refine sw_iload_1 X dX0_firstFault_12 ?_
        refine sw_aload_0 X dX0_firstFault_13 ?_
        refine gf_X0_9 X dX0_firstFault_14 ?_
        refine sw_iload_2 X dX0_firstFault_17 ?_
        refine ia_3 X rfl (by omega) dX0_firstFault_18 ?_
        refine sw_tope (v2 := x p) (by rw [hx]) ?_
        refine ca_X0_19 X (by decide) dX0_firstFault_19 (Nat.le_of_ble_eq_true rfl) c_X0_placeAfter ?_
        refine sw_istore_1 X dX0_firstFault_22 trivial ?_
        refine sw_iload_1 X dX0_firstFault_23 ?_
        refine sw_iconst X (-1) dX0_firstFault_24 (by decide) ?_
        refine sw_icmp_ne X 30 dX0_firstFault_25 (by decide) (fun h25 => ?_) (fun h25 => ?_)
        ·
          have hv2 := (if_neg h25).symm.trans hv
          first | refine sw_inc1_2 X dX0_firstFault_30 trivial ?_ | refine sw_iinc_2 X _ dX0_firstFault_30 rfl trivial ?_
          refine sw_goto X 4 dX0_firstFault_33 (by decide) ?_
          exact ih (p + 1) _ (by omega) hv2
        ·
          have hv2 := (if_pos (by first | exact h25 | exact Decidable.of_not_not h25)).symm.trans hv
          refine sw_iload_2 X dX0_firstFault_28 ?_
          exact sw_iret X Y dX0_firstFault_29 (ri_of hv2.symm) (rfl)
  refine sw_iconst X (nI 0) dX0_firstFault_0 (by decide) ?_
  refine sw_istore_1 X dX0_firstFault_1 trivial ?_
  refine sw_iconst X (nI 0) dX0_firstFault_2 (by decide) ?_
  refine sw_istore_2 X dX0_firstFault_3 trivial ?_
  exact L n 0 _ (by omega) rfl
def mC (M : sv_Mem) (x : Nat → Int32) : sv_Mem := sv_upA M 8 3 0 x
def mL (M : sv_Mem) (v : Int32) : sv_Mem := sv_upA M 8 2 0 (va_up (M 8 2 0) 1 v)
theorem up3 (M : sv_Mem) (n : Nat) (v : Int32) : sv_up M 8 3 0 n v = mC M (va_up (M 8 3 0) n v) := rfl
theorem up2 (M : sv_Mem) (v : Int32) : sv_up M 8 2 0 1 v = mL M v := rfl
theorem mC_l (M : sv_Mem) (x : Nat → Int32) : mC M x 8 2 0 = M 8 2 0 := sv_upA_get M x (by omega)
theorem mL_l (M : sv_Mem) (v : Int32) : mL M v 8 2 0 1 = v := by unfold mL; rw [sv_upA_at, va_up_self]

set_option maxHeartbeats 4000000 in
set_option maxRecDepth 100000 in
theorem c_X0_addCharacter_y {G : sv_G} {M : sv_Mem} {c n : Nat} (hl : M 8 2 0 1 = nI n) (hn : n < 80) (hc : c < 65536) : sv_Ct G M_X0_addCharacter 0 [.ref (sv_ad G 2 8 0), .int (nI c)] M (some (.int (nI (n + 1)))) (mL (mC M (va_up (M 8 3 0) n (nI c))) (nI (n + 1))) := by
  refine sv_Ct_of (lo := [some (.ref (sv_ad G 2 8 0)), some (.int (nI c))]) (pn_X0) rfl (Nat.le_of_ble_eq_true rfl) rfl (fun K X Y => ?_)
  replace X : sv_X G K cX0_addCharacter RX0 2 0 := X
  replace Y : sv_Y G K (some .int) _ _ := Y
  show sw_W G K 2 0 _ _ _
  refine sw_aload_0 X dX0_addCharacter_0 ?_
  refine gf_X0_15 X dX0_addCharacter_1 ?_
  refine sw_tope hl ?_
  refine sw_bipush X (nI 80) dX0_addCharacter_4 (by decide) ?_
  refine sw_icmp_lt X 12 dX0_addCharacter_6 (by decide) (fun h6 => ?_) (fun h6 => ?_)
  ·
    refine sw_aload_0 X dX0_addCharacter_12 ?_
    refine gf_X0_9 X dX0_addCharacter_13 ?_
    refine sw_aload_0 X dX0_addCharacter_16 ?_
    refine gf_X0_15 X dX0_addCharacter_17 ?_
    refine sw_tope hl ?_
    refine sw_iload_1 X dX0_addCharacter_20 ?_
    refine is_3 X rfl (by omega) (nc_ok hc) dX0_addCharacter_21 ?_
    refine sw_aload_0 X dX0_addCharacter_22 ?_
    refine sw_dup X dX0_addCharacter_23 rfl ?_
    refine gf_X0_15 X dX0_addCharacter_24 ?_
    refine sw_tope (v2 := nI n) (by rw [up3, mC_l]; exact hl) ?_
    refine sw_iconst X (nI 1) dX0_addCharacter_27 (by decide) ?_
    refine sw_iadd X dX0_addCharacter_28 ?_
    try refine sw_tope (nI_add _ _) ?_
    refine pf_X0_15 X dX0_addCharacter_29 ?_
    refine sw_aload_0 X dX0_addCharacter_32 ?_
    refine gf_X0_15 X dX0_addCharacter_33 ?_
    refine sw_tope (v2 := nI (n + 1)) (by rw [up2, mL_l]) ?_
    exact sw_iret X Y dX0_addCharacter_36 (rfl) (by rw [up2, up3])
  ·
    exact absurd ((nI_ltI (a := n) (b := 80) (by omega) (by omega)).mpr hn) (Int32.not_lt.mpr (by first | exact Int32.not_lt.mp h6 | exact h6))
set_option maxHeartbeats 4000000 in
set_option maxRecDepth 100000 in
theorem c_X0_addCharacter_n {G : sv_G} {M : sv_Mem} {c : Int32} (hl : M 8 2 0 1 = nI 80) : sv_Ct G M_X0_addCharacter 0 [.ref (sv_ad G 2 8 0), .int c] M (some (.int (-3))) (M) := by
  refine sv_Ct_of (lo := [some (.ref (sv_ad G 2 8 0)), some (.int c)]) (pn_X0) rfl (Nat.le_of_ble_eq_true rfl) rfl (fun K X Y => ?_)
  replace X : sv_X G K cX0_addCharacter RX0 2 0 := X
  replace Y : sv_Y G K (some .int) _ _ := Y
  show sw_W G K 2 0 _ _ _
  refine sw_aload_0 X dX0_addCharacter_0 ?_
  refine gf_X0_15 X dX0_addCharacter_1 ?_
  refine sw_tope hl ?_
  refine sw_bipush X (nI 80) dX0_addCharacter_4 (by decide) ?_
  refine sw_icmp_lt X 12 dX0_addCharacter_6 (by decide) (fun h6 => ?_) (fun h6 => ?_)
  ·
    exact absurd h6 (by decide)
  ·
    refine sw_bipush X (-3) dX0_addCharacter_9 (by decide) ?_
    exact sw_iret X Y dX0_addCharacter_11 (rfl) (rfl)
