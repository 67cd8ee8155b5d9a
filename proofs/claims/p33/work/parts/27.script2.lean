/-! the class: Script, and what numbers mean -/
abbrev isEr (v : Int32) : Prop := v < 0 ∧ v ≠ -5 ∧ v ≠ -6 ∧ v ≠ -7
theorem le_lt {a : Nat} (v : Int32) (ha : a + 1 < 2 ^ 31) : nI (a + 1) ≤ v ↔ nI a < v := by
  rw [Int32.le_iff_toInt_le, Int32.lt_iff_toInt_lt, nI_toInt ha, nI_toInt (by omega)]
  omega
/-- the class's text, its length -/
def TC (M : sv_Mem) (x : Nat → Int32) (n : Nat) : Prop := M 8 3 0 = x ∧ M 8 2 0 1 = nI n ∧ n ≤ 80 ∧ ∀ i, i < n → ∃ c, 32 ≤ c ∧ c ≤ 126 ∧ x i = nI c
/-- where the digits from p on end -/
def eoN (x : Nat → Int32) : Nat → Nat → Nat
  | 0, p => p
  | c + 1, p => if inR (x p) (nI 48) (nI 57) then eoN x c (p + 1) else p
def nuN (x : Nat → Int32) : Nat → Nat → Nat → Nat
  | 0, _, v => v
  | c + 1, p, v => nuN x c (p + 1) (10 * v + dg (x p))
abbrev eoR (x : Nat → Int32) (n p : Nat) : Nat := eoN x (n - p) p
abbrev nuR (x : Nat → Int32) (n p : Nat) : Nat := nuN x (eoR x n p - p) p 0
theorem eoN_le {x : Nat → Int32} : ∀ {c p : Nat}, p ≤ eoN x c p ∧ eoN x c p ≤ p + c ∧ ∀ i, p ≤ i → i < eoN x c p → inR (x i) (nI 48) (nI 57)
  | 0, p => ⟨Nat.le_refl _, Nat.le_refl _, fun i h1 h2 => by unfold eoN at h2; omega⟩
  | c + 1, p => by
    unfold eoN
    split <;> rename_i h
    · obtain ⟨a, b, d⟩ := eoN_le (x := x) (c := c) (p := p + 1)
      refine ⟨by omega, by omega, fun i h1 h2 => ?_⟩
      by_cases e : i = p
      · rw [e]; exact h
      · exact d i (by omega) h2
    · exact ⟨Nat.le_refl _, by omega, fun i h1 h2 => by omega⟩
theorem eoR_le {x : Nat → Int32} {n p : Nat} (h : p ≤ n) : p ≤ eoR x n p ∧ eoR x n p ≤ n ∧ ∀ i, p ≤ i → i < eoR x n p → inR (x i) (nI 48) (nI 57) := by
  obtain ⟨a, b, d⟩ := eoN_le (x := x) (c := n - p) (p := p)
  exact ⟨a, by show eoN x (n - p) p ≤ n; omega, d⟩
theorem nc_ok {c : Nat} (h : c < 65536) : vp_nar .char (nI c) = nI c := by
  rw [vp_nar_char]
  have := (pk_charN h).1
  simp only [narrow, Value.int.injEq] at this
  exact this

set_option maxHeartbeats 4000000 in
set_option maxRecDepth 100000 in
theorem c_X3_isSession {G : sv_G} {M : sv_Mem} {v : Int32} : sv_Ct G M_X3_isSession 0 [.int v] M (some (.int (bI (inR v (nI 0) (nI 2))))) (M) := by
  refine sv_Ct_of (lo := [some (.int v)]) (pn_X3) rfl (Nat.le_of_ble_eq_true rfl) rfl (fun K X Y => ?_)
  replace X : sv_X G K cX3_isSession RX3 1 0 := X
  replace Y : sv_Y G K (some .boolean) _ _ := Y
  show sw_W G K 1 0 _ _ _
  refine sw_iload_0 X dX3_isSession_0 ?_
  refine sw_if_lt X 13 dX3_isSession_1 (by decide) (fun h1 => ?_) (fun h1 => ?_)
  ·
    refine sw_iconst X (nI 0) dX3_isSession_13 (by decide) ?_
    exact sw_zret X Y dX3_isSession_14 (by first | rfl | exact sv_nzB) (by first | exact rb_t ⟨h1, fun z => h6 ((le_lt (a := 2) v (by omega)).mpr z)⟩ | exact rb_f (fun z => z.1 h1) | exact rb_f (fun z => z.2 ((le_lt (a := 2) v (by omega)).mp h6))) (rfl)
  ·
    refine sw_iload_0 X dX3_isSession_4 ?_
    refine sw_iconst X (nI 3) dX3_isSession_5 (by decide) ?_
    refine sw_icmp_ge X 13 dX3_isSession_6 (by decide) (fun h6 => ?_) (fun h6 => ?_)
    ·
      refine sw_iconst X (nI 0) dX3_isSession_13 (by decide) ?_
      exact sw_zret X Y dX3_isSession_14 (by first | rfl | exact sv_nzB) (by first | exact rb_t ⟨h1, fun z => h6 ((le_lt (a := 2) v (by omega)).mpr z)⟩ | exact rb_f (fun z => z.1 h1) | exact rb_f (fun z => z.2 ((le_lt (a := 2) v (by omega)).mp h6))) (rfl)
    ·
      refine sw_iconst X (nI 1) dX3_isSession_9 (by decide) ?_
      refine sw_goto X 14 dX3_isSession_10 (by decide) ?_
      exact sw_zret X Y dX3_isSession_14 (by first | rfl | exact sv_nzB) (by first | exact rb_t ⟨h1, fun z => h6 ((le_lt (a := 2) v (by omega)).mpr z)⟩ | exact rb_f (fun z => z.1 h1) | exact rb_f (fun z => z.2 ((le_lt (a := 2) v (by omega)).mp h6))) (rfl)
set_option maxHeartbeats 4000000 in
set_option maxRecDepth 100000 in
theorem c_X3_isKey {G : sv_G} {M : sv_Mem} {v : Int32} : sv_Ct G M_X3_isKey 0 [.int v] M (some (.int (bI (inR v (nI 0) (nI 15))))) (M) := by
  refine sv_Ct_of (lo := [some (.int v)]) (pn_X3) rfl (Nat.le_of_ble_eq_true rfl) rfl (fun K X Y => ?_)
  replace X : sv_X G K cX3_isKey RX3 1 0 := X
  replace Y : sv_Y G K (some .boolean) _ _ := Y
  show sw_W G K 1 0 _ _ _
  refine sw_iload_0 X dX3_isKey_0 ?_
  refine sw_if_lt X 14 dX3_isKey_1 (by decide) (fun h1 => ?_) (fun h1 => ?_)
  ·
    refine sw_iconst X (nI 0) dX3_isKey_14 (by decide) ?_
    exact sw_zret X Y dX3_isKey_15 (by first | rfl | exact sv_nzB) (by first | exact rb_t ⟨h1, fun z => h7 ((le_lt (a := 15) v (by omega)).mpr z)⟩ | exact rb_f (fun z => z.1 h1) | exact rb_f (fun z => z.2 ((le_lt (a := 15) v (by omega)).mp h7))) (rfl)
  ·
    refine sw_iload_0 X dX3_isKey_4 ?_
    refine sw_bipush X (nI 16) dX3_isKey_5 (by decide) ?_
    refine sw_icmp_ge X 14 dX3_isKey_7 (by decide) (fun h7 => ?_) (fun h7 => ?_)
    ·
      refine sw_iconst X (nI 0) dX3_isKey_14 (by decide) ?_
      exact sw_zret X Y dX3_isKey_15 (by first | rfl | exact sv_nzB) (by first | exact rb_t ⟨h1, fun z => h7 ((le_lt (a := 15) v (by omega)).mpr z)⟩ | exact rb_f (fun z => z.1 h1) | exact rb_f (fun z => z.2 ((le_lt (a := 15) v (by omega)).mp h7))) (rfl)
    ·
      refine sw_iconst X (nI 1) dX3_isKey_10 (by decide) ?_
      refine sw_goto X 15 dX3_isKey_11 (by decide) ?_
      exact sw_zret X Y dX3_isKey_15 (by first | rfl | exact sv_nzB) (by first | exact rb_t ⟨h1, fun z => h7 ((le_lt (a := 15) v (by omega)).mpr z)⟩ | exact rb_f (fun z => z.1 h1) | exact rb_f (fun z => z.2 ((le_lt (a := 15) v (by omega)).mp h7))) (rfl)
set_option maxHeartbeats 4000000 in
set_option maxRecDepth 100000 in
theorem c_X3_isName {G : sv_G} {M : sv_Mem} {v : Int32} : sv_Ct G M_X3_isName 0 [.int v] M (some (.int (bI (inR v (nI 0) (nI 7))))) (M) := by
  refine sv_Ct_of (lo := [some (.int v)]) (pn_X3) rfl (Nat.le_of_ble_eq_true rfl) rfl (fun K X Y => ?_)
  replace X : sv_X G K cX3_isName RX3 1 0 := X
  replace Y : sv_Y G K (some .boolean) _ _ := Y
  show sw_W G K 1 0 _ _ _
  refine sw_iload_0 X dX3_isName_0 ?_
  refine sw_if_lt X 14 dX3_isName_1 (by decide) (fun h1 => ?_) (fun h1 => ?_)
  ·
    refine sw_iconst X (nI 0) dX3_isName_14 (by decide) ?_
    exact sw_zret X Y dX3_isName_15 (by first | rfl | exact sv_nzB) (by first | exact rb_t ⟨h1, fun z => h7 ((le_lt (a := 7) v (by omega)).mpr z)⟩ | exact rb_f (fun z => z.1 h1) | exact rb_f (fun z => z.2 ((le_lt (a := 7) v (by omega)).mp h7))) (rfl)
  ·
    refine sw_iload_0 X dX3_isName_4 ?_
    refine sw_bipush X (nI 8) dX3_isName_5 (by decide) ?_
    refine sw_icmp_ge X 14 dX3_isName_7 (by decide) (fun h7 => ?_) (fun h7 => ?_)
    ·
      refine sw_iconst X (nI 0) dX3_isName_14 (by decide) ?_
      exact sw_zret X Y dX3_isName_15 (by first | rfl | exact sv_nzB) (by first | exact rb_t ⟨h1, fun z => h7 ((le_lt (a := 7) v (by omega)).mpr z)⟩ | exact rb_f (fun z => z.1 h1) | exact rb_f (fun z => z.2 ((le_lt (a := 7) v (by omega)).mp h7))) (rfl)
    ·
      refine sw_iconst X (nI 1) dX3_isName_10 (by decide) ?_
      refine sw_goto X 15 dX3_isName_11 (by decide) ?_
      exact sw_zret X Y dX3_isName_15 (by first | rfl | exact sv_nzB) (by first | exact rb_t ⟨h1, fun z => h7 ((le_lt (a := 7) v (by omega)).mpr z)⟩ | exact rb_f (fun z => z.1 h1) | exact rb_f (fun z => z.2 ((le_lt (a := 7) v (by omega)).mp h7))) (rfl)
set_option maxHeartbeats 4000000 in
set_option maxRecDepth 100000 in
theorem c_X3_isValue {G : sv_G} {M : sv_Mem} {v : Int32} : sv_Ct G M_X3_isValue 0 [.int v] M (some (.int (bI (inR v (nI 0) (nI 9999))))) (M) := by
  refine sv_Ct_of (lo := [some (.int v)]) (pn_X3) rfl (Nat.le_of_ble_eq_true rfl) rfl (fun K X Y => ?_)
  replace X : sv_X G K cX3_isValue RX3 1 0 := X
  replace Y : sv_Y G K (some .boolean) _ _ := Y
  show sw_W G K 1 0 _ _ _
  refine sw_iload_0 X dX3_isValue_0 ?_
  refine sw_if_lt X 15 dX3_isValue_1 (by decide) (fun h1 => ?_) (fun h1 => ?_)
  ·
    refine sw_iconst X (nI 0) dX3_isValue_15 (by decide) ?_
    exact sw_zret X Y dX3_isValue_16 (by first | rfl | exact sv_nzB) (by first | exact rb_t ⟨h1, h8⟩ | exact rb_f (fun z => z.1 h1) | exact rb_f (fun z => z.2 h8)) (rfl)
  ·
    refine sw_iload_0 X dX3_isValue_4 ?_
    refine sw_sipush X (nI 9999) dX3_isValue_5 (by decide) ?_
    refine sw_icmp_gt X 15 dX3_isValue_8 (by decide) (fun h8 => ?_) (fun h8 => ?_)
    ·
      refine sw_iconst X (nI 0) dX3_isValue_15 (by decide) ?_
      exact sw_zret X Y dX3_isValue_16 (by first | rfl | exact sv_nzB) (by first | exact rb_t ⟨h1, h8⟩ | exact rb_f (fun z => z.1 h1) | exact rb_f (fun z => z.2 h8)) (rfl)
    ·
      refine sw_iconst X (nI 1) dX3_isValue_11 (by decide) ?_
      refine sw_goto X 16 dX3_isValue_12 (by decide) ?_
      exact sw_zret X Y dX3_isValue_16 (by first | rfl | exact sv_nzB) (by first | exact rb_t ⟨h1, h8⟩ | exact rb_f (fun z => z.1 h1) | exact rb_f (fun z => z.2 h8)) (rfl)
set_option maxHeartbeats 4000000 in
set_option maxRecDepth 100000 in
theorem c_X3_isError {G : sv_G} {M : sv_Mem} {v : Int32} : sv_Ct G M_X3_isError 0 [.int v] M (some (.int (bI (isEr v)))) (M) := by
  refine sv_Ct_of (lo := [some (.int v)]) (pn_X3) rfl (Nat.le_of_ble_eq_true rfl) rfl (fun K X Y => ?_)
  replace X : sv_X G K cX3_isError RX3 1 0 := X
  replace Y : sv_Y G K (some .boolean) _ _ := Y
  show sw_W G K 1 0 _ _ _
  refine sw_iload_0 X dX3_isError_0 ?_
  refine sw_if_ge X 26 dX3_isError_1 (by decide) (fun h1 => ?_) (fun h1 => ?_)
  ·
    refine sw_iconst X (nI 0) dX3_isError_26 (by decide) ?_
    exact sw_zret X Y dX3_isError_27 (by first | rfl | exact sv_nzB) (by first | exact rb_f (fun z => absurd z.1 (Int32.not_lt.mpr h1)) | exact rb_f (fun z => z.2.1 h7) | exact rb_f (fun z => z.2.2.1 h13) | exact rb_f (fun z => z.2.2.2 h19) | exact rb_t ⟨Int32.not_le.mp h1, h7, h13, h19⟩) (rfl)
  ·
    refine sw_iload_0 X dX3_isError_4 ?_
    refine sw_bipush X (-5) dX3_isError_5 (by decide) ?_
    refine sw_icmp_eq X 26 dX3_isError_7 (by decide) (fun h7 => ?_) (fun h7 => ?_)
    ·
      refine sw_iconst X (nI 0) dX3_isError_26 (by decide) ?_
      exact sw_zret X Y dX3_isError_27 (by first | rfl | exact sv_nzB) (by first | exact rb_f (fun z => absurd z.1 (Int32.not_lt.mpr h1)) | exact rb_f (fun z => z.2.1 h7) | exact rb_f (fun z => z.2.2.1 h13) | exact rb_f (fun z => z.2.2.2 h19) | exact rb_t ⟨Int32.not_le.mp h1, h7, h13, h19⟩) (rfl)
    ·
      refine sw_iload_0 X dX3_isError_10 ?_
      refine sw_bipush X (-6) dX3_isError_11 (by decide) ?_
      refine sw_icmp_eq X 26 dX3_isError_13 (by decide) (fun h13 => ?_) (fun h13 => ?_)
      ·
        refine sw_iconst X (nI 0) dX3_isError_26 (by decide) ?_
        exact sw_zret X Y dX3_isError_27 (by first | rfl | exact sv_nzB) (by first | exact rb_f (fun z => absurd z.1 (Int32.not_lt.mpr h1)) | exact rb_f (fun z => z.2.1 h7) | exact rb_f (fun z => z.2.2.1 h13) | exact rb_f (fun z => z.2.2.2 h19) | exact rb_t ⟨Int32.not_le.mp h1, h7, h13, h19⟩) (rfl)
      ·
        refine sw_iload_0 X dX3_isError_16 ?_
        refine sw_bipush X (-7) dX3_isError_17 (by decide) ?_
        refine sw_icmp_eq X 26 dX3_isError_19 (by decide) (fun h19 => ?_) (fun h19 => ?_)
        ·
          refine sw_iconst X (nI 0) dX3_isError_26 (by decide) ?_
          exact sw_zret X Y dX3_isError_27 (by first | rfl | exact sv_nzB) (by first | exact rb_f (fun z => absurd z.1 (Int32.not_lt.mpr h1)) | exact rb_f (fun z => z.2.1 h7) | exact rb_f (fun z => z.2.2.1 h13) | exact rb_f (fun z => z.2.2.2 h19) | exact rb_t ⟨Int32.not_le.mp h1, h7, h13, h19⟩) (rfl)
        ·
          refine sw_iconst X (nI 1) dX3_isError_22 (by decide) ?_
          refine sw_goto X 27 dX3_isError_23 (by decide) ?_
          exact sw_zret X Y dX3_isError_27 (by first | rfl | exact sv_nzB) (by first | exact rb_f (fun z => absurd z.1 (Int32.not_lt.mpr h1)) | exact rb_f (fun z => z.2.1 h7) | exact rb_f (fun z => z.2.2.1 h13) | exact rb_f (fun z => z.2.2.2 h19) | exact rb_t ⟨Int32.not_le.mp h1, h7, h13, h19⟩) (rfl)
set_option maxHeartbeats 4000000 in
set_option maxRecDepth 100000 in
theorem c_X3_momentOf {G : sv_G} {M : sv_Mem} {p : Nat} : sv_Ct G M_X3_momentOf 0 [.int (nI p)] M (some (.int (nI (p + 1)))) (M) := by
  refine sv_Ct_of (lo := [some (.int (nI p))]) (pn_X3) rfl (Nat.le_of_ble_eq_true rfl) rfl (fun K X Y => ?_)
  replace X : sv_X G K cX3_momentOf RX3 1 0 := X
  replace Y : sv_Y G K (some .int) _ _ := Y
  show sw_W G K 1 0 _ _ _
  refine sw_iload_0 X dX3_momentOf_0 ?_
  refine sw_iconst X (nI 1) dX3_momentOf_1 (by decide) ?_
  refine sw_iadd X dX3_momentOf_2 ?_
  try refine sw_tope (nI_add _ _) ?_
  exact sw_iret X Y dX3_momentOf_3 (rfl) (rfl)
def mC (M : sv_Mem) (x : Nat → Int32) : sv_Mem := sv_upA M 8 3 0 x
def mL (M : sv_Mem) (v : Int32) : sv_Mem := sv_upA M 8 2 0 (va_up (M 8 2 0) 1 v)
theorem up3 (M : sv_Mem) (n : Nat) (v : Int32) : sv_up M 8 3 0 n v = mC M (va_up (M 8 3 0) n v) := rfl
theorem up2 (M : sv_Mem) (v : Int32) : sv_up M 8 2 0 1 v = mL M v := rfl
theorem mC_l (M : sv_Mem) (x : Nat → Int32) : mC M x 8 2 0 = M 8 2 0 := sv_upA_get M x (by omega)
theorem mL_l (M : sv_Mem) (v : Int32) : mL M v 8 2 0 1 = v := by unfold mL; rw [sv_upA_at, va_up_self]
