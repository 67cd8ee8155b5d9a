theorem mT_s (M : sv_Mem) (h : Nat → Int32) : mT M h 9 5 0 = M 9 5 0 := sv_upA_get M h (by omega)
theorem mT_t (M : sv_Mem) (h : Nat → Int32) : mT M h 9 8 0 = h := sv_upA_at ..
/-- committed: the value without open changes -/
def cmR (s : Nat → Int32) (mqs : Nat → Nat) (k : Nat) : Nat → Int32
  | 0 => s (8 + k)
  | q + 1 => if bt (sncR (fun r => s (rAt q r + 0)) (mqs q + 1) 0 (nI 0)) k = true then bfR s q k (mqs q + 1) 0 else cmR s mqs k q
def bsR (s : Nat → Int32) (k : Nat) (mode : Int32) : Nat → Int32
  | 0 => nI 0
  | q + 1 => if busyR s q k mode then sb (bsR s k mode q) q else bsR s k mode q
def smR (s : Nat → Int32) : Nat → Int32
  | 0 => nI 0
  | k + 1 => smR s k + (if s (8 + k) = -1 then nI 0 else s (8 + k))
theorem or_0 (x : Int32) : x ||| nI 0 = x := bt_ext (fun i hi => by rw [bt_or, bt_0, Bool.or_false])
abbrev kwP (s : Nat → Int32) (q : Nat) (mode : Int32) : Nat → Prop := fun k => md (s (30 + q)) k = mode

set_option maxHeartbeats 4000000 in
set_option maxRecDepth 100000 in
theorem c_X4_append_y {G : sv_G} {M : sv_Mem} {c : Int32} {len : Nat} (hc : inR c (nI 32) (nI 126)) (hl : M 9 4 0 6 = nI len) (h80 : len < 80) : sv_Ct G M_X4_append 1 [.ref (sv_ad G 4 9 0), .int c] M (some (.int (nI (len + 1)))) (mF (mT M (va_up (M 9 8 0) len c)) 6 (nI (len + 1))) := by
  refine sv_Ct_of (lo := [some (.ref (sv_ad G 4 9 0)), some (.int c)]) (pn_X4) rfl (Nat.le_of_ble_eq_true rfl) rfl (fun K X Y => ?_)
  replace X : sv_X G K cX4_append RX4 2 1 := X
  replace Y : sv_Y G K (some .int) _ _ := Y
  show sw_W G K 2 0 _ _ _
  refine sw_iload_1 X dX4_append_0 ?_
  refine sw_bipush X (nI 32) dX4_append_1 (by decide) ?_
  refine sw_bipush X (nI 126) dX4_append_3 (by decide) ?_
  refine ca_X4_25 X (by decide) dX4_append_5 (Nat.le_of_ble_eq_true rfl) c_X4_in ?_
  refine sw_ifB_ne X 14 dX4_append_8 (by decide) (fun h8 => ?_) (fun h8 => ?_)
  ·
    refine sw_aload_0 X dX4_append_14 ?_
    refine gf_X4_164 X dX4_append_15 ?_
    refine sw_tope (v2 := nI len) hl ?_
    refine sw_bipush X (nI 80) dX4_append_18 (by decide) ?_
    refine sw_icmp_ne X 26 dX4_append_20 (by decide) (fun h20 => ?_) (fun h20 => ?_)
    ·
      refine sw_aload_0 X dX4_append_26 ?_
      refine gf_X4_19 X dX4_append_27 ?_
      refine sw_aload_0 X dX4_append_30 ?_
      refine gf_X4_164 X dX4_append_31 ?_
      refine sw_tope (v2 := nI len) hl ?_
      refine sw_iload_1 X dX4_append_34 ?_
      refine is_8 X rfl (by omega) dX4_append_35 ?_
      refine sw_aload_0 X dX4_append_36 ?_
      refine sw_dup X dX4_append_37 rfl ?_
      refine gf_X4_164 X dX4_append_38 ?_
      refine sw_tope (v2 := nI len) (by rw [up8, mT_f]; exact hl) ?_
      refine sw_iconst X (nI 1) dX4_append_41 (by decide) ?_
      refine sw_iadd X dX4_append_42 ?_
      try refine sw_tope (nI_add _ _) ?_
      refine pf_X4_164 X dX4_append_43 ?_
      refine sw_aload_0 X dX4_append_46 ?_
      refine gf_X4_164 X dX4_append_47 ?_
      refine sw_tope (v2 := nI (len + 1)) (by rw [up4, mF_f, va_up_self]) ?_
      exact sw_iret X Y dX4_append_50 (rfl) (by rw [up4, up8])
    ·
      exact absurd ((nI_eq (a := len) (b := 80) (by omega) (by omega)).mp (by first | exact h20 | exact Decidable.of_not_not h20)) (by omega)
  ·
    exact absurd hc h8
set_option maxHeartbeats 4000000 in
set_option maxRecDepth 100000 in
theorem c_X4_append_n {G : sv_G} {M : sv_Mem} {c : Int32} (hc : inR c (nI 32) (nI 126)) (hl : M 9 4 0 6 = nI 80) : sv_Ct G M_X4_append 1 [.ref (sv_ad G 4 9 0), .int c] M (some (.int (-3))) (M) := by
  refine sv_Ct_of (lo := [some (.ref (sv_ad G 4 9 0)), some (.int c)]) (pn_X4) rfl (Nat.le_of_ble_eq_true rfl) rfl (fun K X Y => ?_)
  replace X : sv_X G K cX4_append RX4 2 1 := X
  replace Y : sv_Y G K (some .int) _ _ := Y
  show sw_W G K 2 0 _ _ _
  refine sw_iload_1 X dX4_append_0 ?_
  refine sw_bipush X (nI 32) dX4_append_1 (by decide) ?_
  refine sw_bipush X (nI 126) dX4_append_3 (by decide) ?_
  refine ca_X4_25 X (by decide) dX4_append_5 (Nat.le_of_ble_eq_true rfl) c_X4_in ?_
  refine sw_ifB_ne X 14 dX4_append_8 (by decide) (fun h8 => ?_) (fun h8 => ?_)
  ·
    refine sw_aload_0 X dX4_append_14 ?_
    refine gf_X4_164 X dX4_append_15 ?_
    refine sw_tope (v2 := nI 80) hl ?_
    refine sw_bipush X (nI 80) dX4_append_18 (by decide) ?_
    refine sw_icmp_ne X 26 dX4_append_20 (by decide) (fun h20 => ?_) (fun h20 => ?_)
    ·
      exact absurd rfl h20
    ·
      refine sw_bipush X (-3) dX4_append_23 (by decide) ?_
      exact sw_iret X Y dX4_append_25 (rfl) (rfl)
  ·
    exact absurd hc h8
set_option maxHeartbeats 4000000 in
set_option maxRecDepth 100000 in
theorem c_X4_append_b {G : sv_G} {M : sv_Mem} {c : Int32} (hc : ¬ inR c (nI 32) (nI 126)) : sv_Ct G M_X4_append 1 [.ref (sv_ad G 4 9 0), .int c] M (some (.int (-2))) (M) := by
  refine sv_Ct_of (lo := [some (.ref (sv_ad G 4 9 0)), some (.int c)]) (pn_X4) rfl (Nat.le_of_ble_eq_true rfl) rfl (fun K X Y => ?_)
  replace X : sv_X G K cX4_append RX4 2 1 := X
  replace Y : sv_Y G K (some .int) _ _ := Y
  show sw_W G K 2 0 _ _ _
  refine sw_iload_1 X dX4_append_0 ?_
  refine sw_bipush X (nI 32) dX4_append_1 (by decide) ?_
  refine sw_bipush X (nI 126) dX4_append_3 (by decide) ?_
  refine ca_X4_25 X (by decide) dX4_append_5 (Nat.le_of_ble_eq_true rfl) c_X4_in ?_
  refine sw_ifB_ne X 14 dX4_append_8 (by decide) (fun h8 => ?_) (fun h8 => ?_)
  ·
    exact absurd h8 hc
  ·
    refine sw_bipush X (-2) dX4_append_11 (by decide) ?_
    exact sw_iret X Y dX4_append_13 (rfl) (rfl)
set_option maxHeartbeats 4000000 in
set_option maxRecDepth 100000 in
theorem c_X4_clearText {G : sv_G} {M : sv_Mem}  : sv_Ct G M_X4_clearText 0 [.ref (sv_ad G 4 9 0)] M (some (.int (M 9 4 0 6))) (mF M 6 (nI 0)) := by
  refine sv_Ct_of (lo := [some (.ref (sv_ad G 4 9 0)), none]) (pn_X4) rfl (Nat.le_of_ble_eq_true rfl) rfl (fun K X Y => ?_)
  replace X : sv_X G K cX4_clearText RX4 2 0 := X
  replace Y : sv_Y G K (some .int) _ _ := Y
  show sw_W G K 2 0 _ _ _
  refine sw_aload_0 X dX4_clearText_0 ?_
  refine gf_X4_164 X dX4_clearText_1 ?_
  refine sw_istore_1 X dX4_clearText_4 trivial ?_
  refine sw_aload_0 X dX4_clearText_5 ?_
  refine sw_iconst X (nI 0) dX4_clearText_6 (by decide) ?_
  refine pf_X4_164 X dX4_clearText_7 ?_
  refine sw_iload_1 X dX4_clearText_10 ?_
  exact sw_iret X Y dX4_clearText_11 (rfl) (rfl)
set_option maxHeartbeats 4000000 in
set_option maxRecDepth 100000 in
theorem c_X4_value_y {G : sv_G} {M : sv_Mem} {k : Nat} (hk : k < 16) : sv_Ct G M_X4_value 2 [.ref (sv_ad G 4 9 0), .int (nI k)] M (some (.int (outs ((M 9 5 0) (8 + k))))) (M) := by
  refine sv_Ct_of (lo := [some (.ref (sv_ad G 4 9 0)), some (.int (nI k))]) (pn_X4) rfl (Nat.le_of_ble_eq_true rfl) rfl (fun K X Y => ?_)
  replace X : sv_X G K cX4_value RX4 2 2 := X
  replace Y : sv_Y G K (some .int) _ _ := Y
  show sw_W G K 2 0 _ _ _
  refine sw_iload_1 X dX4_value_0 ?_
  refine ca_X4_129 X (by decide) dX4_value_1 (Nat.le_of_ble_eq_true rfl) c_X4_isKey ?_
  refine sw_ifB_eq X 22 dX4_value_4 (by decide) (fun h4 => ?_) (fun h4 => ?_)
  ·
    exact absurd (inR_lt (by omega) (by omega)) h4
  ·
    refine sw_aload_0 X dX4_value_7 ?_
    refine gf_X4_7 X dX4_value_8 ?_
    refine sw_bipush X (nI 8) dX4_value_11 (by decide) ?_
    refine sw_iload_1 X dX4_value_13 ?_
    refine sw_iadd X dX4_value_14 ?_
    try refine sw_tope (nI_add _ _) ?_
    refine ia_5 X rfl (by omega) dX4_value_15 ?_
    refine ca_X4_135 X (by decide) dX4_value_16 (Nat.le_of_ble_eq_true rfl) c_X4_outside ?_
    refine sw_goto X 23 dX4_value_19 (by decide) ?_
    exact sw_iret X Y dX4_value_23 (rfl) (rfl)
set_option maxHeartbeats 4000000 in
set_option maxRecDepth 100000 in
theorem c_X4_value_x {G : sv_G} {M : sv_Mem} {v : Int32} (hv : ¬ inR v (nI 0) (nI 15)) : sv_Ct G M_X4_value 2 [.ref (sv_ad G 4 9 0), .int v] M (some (.int (-1))) (M) := by
  refine sv_Ct_of (lo := [some (.ref (sv_ad G 4 9 0)), some (.int v)]) (pn_X4) rfl (Nat.le_of_ble_eq_true rfl) rfl (fun K X Y => ?_)
  replace X : sv_X G K cX4_value RX4 2 2 := X
  replace Y : sv_Y G K (some .int) _ _ := Y
  show sw_W G K 2 0 _ _ _
  refine sw_iload_1 X dX4_value_0 ?_
  refine ca_X4_129 X (by decide) dX4_value_1 (Nat.le_of_ble_eq_true rfl) c_X4_isKey ?_
  refine sw_ifB_eq X 22 dX4_value_4 (by decide) (fun h4 => ?_) (fun h4 => ?_)
  ·
    refine sw_iconst X (-1) dX4_value_22 (by decide) ?_
    exact sw_iret X Y dX4_value_23 (rfl) (rfl)
  ·
    exact absurd h4 hv
set_option maxHeartbeats 4000000 in
set_option maxRecDepth 100000 in
theorem c_X4_committed_y {G : sv_G} {M : sv_Mem} {k : Nat} {mqs : Nat → Nat} (hk : k < 16) (hmq : ∀ q, q < 3 → M 9 5 0 (27 + q) = nI (mqs q) ∧ mqs q ≤ 12) : sv_Ct G M_X4_committed 2 [.ref (sv_ad G 4 9 0), .int (nI k)] M (some (.int (outs (cmR (M 9 5 0) mqs k 3)))) (M) := by
  refine sv_Ct_of (lo := [some (.ref (sv_ad G 4 9 0)), some (.int (nI k)), none, none]) (pn_X4) rfl (Nat.le_of_ble_eq_true rfl) rfl (fun K X Y => ?_)
  replace X : sv_X G K cX4_committed RX4 4 2 := X
  replace Y : sv_Y G K (some .int) _ _ := Y
  show sw_W G K 4 0 _ _ _
  have L : ∀ r, r ≤ 3 → (fun r => ∀ x, x = cmR (M 9 5 0) mqs k r → sw_W G K 4 21 [some (.ref (sv_ad G 4 9 0)), some (.int (nI k)), some (.int x), some (.int (nI r))] [] M) r := by
    refine up_ind (N := 3) (P := fun r => ∀ x, x = cmR (M 9 5 0) mqs k r → sw_W G K 4 21 [some (.ref (sv_ad G 4 9 0)), some (.int (nI k)), some (.int x), some (.int (nI r))] [] M) ?_
    intro r hr ih x hx
    refine sw_iload_3 X dX4_committed_21 ?_
    refine sw_iconst X (nI 3) dX4_committed_22 (by decide) ?_
    refine sw_icmp_ge X 58 dX4_committed_23 (by decide) (fun h23 => ?_) (fun h23 => ?_)
    ·
      have e : r = 3 := by have := (nI_leI (by omega) (by omega)).mp h23; omega
      subst e
      refine sw_iload_2 X dX4_committed_58 ?_
      refine ca_X4_135 X (by decide) dX4_committed_59 (Nat.le_of_ble_eq_true rfl) c_X4_outside ?_
      exact sw_iret X Y dX4_committed_62 (by rw [hx]) (rfl)
    ·
      have hr3 : r < 3 := by have := mt (nI_leI (by omega) (by omega)).mpr h23; omega
      refine sw_aload_0 X dX4_committed_26 ?_
      refine sw_iload_3 X dX4_committed_27 ?_
      refine sw_iconst X (nI 0) dX4_committed_28 (by decide) ?_
      refine sw_iconst X (nI 0) dX4_committed_29 (by decide) ?_
      refine ca_X4_222 X (by decide) dX4_committed_30 (Nat.le_of_ble_eq_true rfl) (c_X4_since hr3 (Nat.zero_le _) (by omega) (hmq r hr3).1 (hmq r hr3).2) ?_
      refine sw_iload_1 X dX4_committed_33 ?_
      refine ca_X4_40 X (by decide) dX4_committed_34 (Nat.le_of_ble_eq_true rfl) (c_X4_has (by omega)) ?_
      refine sw_ifB_eq X 50 dX4_committed_37 (by decide) (fun h37 => ?_) (fun h37 => ?_)
      ·
        have hx2 : x = cmR (M 9 5 0) mqs k (r + 1) := hx.trans (if_neg h37).symm
        refine sw_iload_2 X dX4_committed_50 ?_
        refine sw_istore_2 X dX4_committed_51 trivial ?_
        first | refine sw_inc1_3 X dX4_committed_52 trivial ?_ | refine sw_iinc_3 X _ dX4_committed_52 rfl trivial ?_
        refine sw_goto X 21 dX4_committed_55 (by decide) ?_
        exact ih (r + 1) (by omega) (by omega) _ hx2
      ·
        have hx2 : bfR (M 9 5 0) r k (mqs r + 1 - 0) 0 = cmR (M 9 5 0) mqs k (r + 1) := (if_pos h37).symm
        refine sw_aload_0 X dX4_committed_40 ?_
        refine sw_iload_3 X dX4_committed_41 ?_
        refine sw_iconst X (nI 0) dX4_committed_42 (by decide) ?_
        refine sw_iload_1 X dX4_committed_43 ?_
        refine ca_X4_51 X (by decide) dX4_committed_44 (Nat.le_of_ble_eq_true rfl) (c_X4_before hr3 hk (Nat.zero_le _) (hmq r hr3).1 (hmq r hr3).2) ?_
        refine sw_goto X 51 dX4_committed_47 (by decide) ?_
        refine sw_istore_2 X dX4_committed_51 trivial ?_
        first | refine sw_inc1_3 X dX4_committed_52 trivial ?_ | refine sw_iinc_3 X _ dX4_committed_52 rfl trivial ?_
        refine sw_goto X 21 dX4_committed_55 (by decide) ?_
        exact ih (r + 1) (by omega) (by omega) _ hx2
  refine sw_iload_1 X dX4_committed_0 ?_
  refine ca_X4_129 X (by decide) dX4_committed_1 (Nat.le_of_ble_eq_true rfl) c_X4_isKey ?_
  refine sw_ifB_ne X 9 dX4_committed_4 (by decide) (fun h4 => ?_) (fun h4 => ?_)
  ·
    refine sw_aload_0 X dX4_committed_9 ?_
    refine gf_X4_7 X dX4_committed_10 ?_
    refine sw_bipush X (nI 8) dX4_committed_13 (by decide) ?_
    refine sw_iload_1 X dX4_committed_15 ?_
    refine sw_iadd X dX4_committed_16 ?_
    try refine sw_tope (nI_add _ _) ?_
    refine ia_5 X rfl (by omega) dX4_committed_17 ?_
    refine sw_istore_2 X dX4_committed_18 trivial ?_
    refine sw_iconst X (nI 0) dX4_committed_19 (by decide) ?_
    refine sw_istore_3 X dX4_committed_20 trivial ?_
    exact L 0 (by omega) _ rfl
  ·
    exact absurd (inR_lt (by omega) (by omega)) h4
set_option maxHeartbeats 4000000 in
set_option maxRecDepth 100000 in
theorem c_X4_committed_x {G : sv_G} {M : sv_Mem} {v : Int32} (hv : ¬ inR v (nI 0) (nI 15)) : sv_Ct G M_X4_committed 2 [.ref (sv_ad G 4 9 0), .int v] M (some (.int (-1))) (M) := by
  refine sv_Ct_of (lo := [some (.ref (sv_ad G 4 9 0)), some (.int v), none, none]) (pn_X4) rfl (Nat.le_of_ble_eq_true rfl) rfl (fun K X Y => ?_)
  replace X : sv_X G K cX4_committed RX4 4 2 := X
  replace Y : sv_Y G K (some .int) _ _ := Y
  show sw_W G K 4 0 _ _ _
  refine sw_iload_1 X dX4_committed_0 ?_
  refine ca_X4_129 X (by decide) dX4_committed_1 (Nat.le_of_ble_eq_true rfl) c_X4_isKey ?_
  refine sw_ifB_ne X 9 dX4_committed_4 (by decide) (fun h4 => ?_) (fun h4 => ?_)
  ·
    exact absurd h4 hv
  ·
    refine sw_iconst X (-1) dX4_committed_7 (by decide) ?_
    exact sw_iret X Y dX4_committed_8 (rfl) (rfl)
set_option maxHeartbeats 4000000 in
set_option maxRecDepth 100000 in
theorem c_X4_mode_y {G : sv_G} {M : sv_Mem} {q k : Nat} (hq : q < 3) (hk : k < 16) : sv_Ct G M_X4_mode 2 [.ref (sv_ad G 4 9 0), .int (nI q), .int (nI k)] M (some (.int (md ((M 9 5 0) (30 + q)) k))) (M) := by
  refine sv_Ct_of (lo := [some (.ref (sv_ad G 4 9 0)), some (.int (nI q)), some (.int (nI k))]) (pn_X4) rfl (Nat.le_of_ble_eq_true rfl) rfl (fun K X Y => ?_)
  replace X : sv_X G K cX4_mode RX4 3 2 := X
  replace Y : sv_Y G K (some .int) _ _ := Y
  show sw_W G K 3 0 _ _ _
  refine sw_iload_1 X dX4_mode_0 ?_
  refine ca_X4_68 X (by decide) dX4_mode_1 (Nat.le_of_ble_eq_true rfl) c_X4_isSession ?_
  refine sw_ifB_eq X 23 dX4_mode_4 (by decide) (fun h4 => ?_) (fun h4 => ?_)
  ·
    exact absurd (inR_lt (by omega) (by omega)) h4
  ·
    refine sw_iload_2 X dX4_mode_7 ?_
    refine ca_X4_129 X (by decide) dX4_mode_8 (Nat.le_of_ble_eq_true rfl) c_X4_isKey ?_
    refine sw_ifB_eq X 23 dX4_mode_11 (by decide) (fun h11 => ?_) (fun h11 => ?_)
    ·
      exact absurd (inR_lt (by omega) (by omega)) h11
    ·
      refine sw_aload_0 X dX4_mode_14 ?_
      refine sw_iload_1 X dX4_mode_15 ?_
      refine sw_iload_2 X dX4_mode_16 ?_
      refine ca_X4_33 X (by decide) dX4_mode_17 (Nat.le_of_ble_eq_true rfl) (c_X4_modeOf hq hk) ?_
      refine sw_goto X 24 dX4_mode_20 (by decide) ?_
      exact sw_iret X Y dX4_mode_24 (rfl) (rfl)
set_option maxHeartbeats 4000000 in
set_option maxRecDepth 100000 in
theorem c_X4_mode_x {G : sv_G} {M : sv_Mem} {v w : Int32} (h : ¬ inR v (nI 0) (nI 2) ∨ ¬ inR w (nI 0) (nI 15)) : sv_Ct G M_X4_mode 2 [.ref (sv_ad G 4 9 0), .int v, .int w] M (some (.int (-1))) (M) := by
  refine sv_Ct_of (lo := [some (.ref (sv_ad G 4 9 0)), some (.int v), some (.int w)]) (pn_X4) rfl (Nat.le_of_ble_eq_true rfl) rfl (fun K X Y => ?_)
  replace X : sv_X G K cX4_mode RX4 3 2 := X
  replace Y : sv_Y G K (some .int) _ _ := Y
  show sw_W G K 3 0 _ _ _
  refine sw_iload_1 X dX4_mode_0 ?_
  refine ca_X4_68 X (by decide) dX4_mode_1 (Nat.le_of_ble_eq_true rfl) c_X4_isSession ?_
  refine sw_ifB_eq X 23 dX4_mode_4 (by decide) (fun h4 => ?_) (fun h4 => ?_)
  ·
    refine sw_iconst X (-1) dX4_mode_23 (by decide) ?_
    exact sw_iret X Y dX4_mode_24 (rfl) (rfl)
  ·
    refine sw_iload_2 X dX4_mode_7 ?_
    refine ca_X4_129 X (by decide) dX4_mode_8 (Nat.le_of_ble_eq_true rfl) c_X4_isKey ?_
    refine sw_ifB_eq X 23 dX4_mode_11 (by decide) (fun h11 => ?_) (fun h11 => ?_)
    ·
      refine sw_iconst X (-1) dX4_mode_23 (by decide) ?_
      exact sw_iret X Y dX4_mode_24 (rfl) (rfl)
    ·
      exact absurd h (fun z => z.elim (fun w => w h4) (fun w => w h11))
set_option maxHeartbeats 4000000 in
set_option maxRecDepth 100000 in
theorem c_X4_busyFor_y {G : sv_G} {M : sv_Mem} {k : Nat} {mode : Int32} (hk : k < 16) (hm : inR mode (nI 1) (nI 2)) : sv_Ct G M_X4_busyFor 2 [.ref (sv_ad G 4 9 0), .int (nI k), .int mode] M (some (.int (bsR (M 9 5 0) k mode 3))) (M) := by
  refine sv_Ct_of (lo := [some (.ref (sv_ad G 4 9 0)), some (.int (nI k)), some (.int mode), none, none]) (pn_X4) rfl (Nat.le_of_ble_eq_true rfl) rfl (fun K X Y => ?_)
  replace X : sv_X G K cX4_busyFor RX4 5 2 := X
  replace Y : sv_Y G K (some .int) _ _ := Y
  show sw_W G K 5 0 _ _ _
  have L : ∀ r, r ≤ 3 → (fun r => ∀ x, x = bsR (M 9 5 0) k mode r → sw_W G K 5 26 [some (.ref (sv_ad G 4 9 0)), some (.int (nI k)), some (.int mode), some (.int x), some (.int (nI r))] [] M) r := by
    refine up_ind (N := 3) (P := fun r => ∀ x, x = bsR (M 9 5 0) k mode r → sw_W G K 5 26 [some (.ref (sv_ad G 4 9 0)), some (.int (nI k)), some (.int mode), some (.int x), some (.int (nI r))] [] M) ?_
    intro r hr ih x hx
    refine sw_iload_4 X dX4_busyFor_26 ?_
    refine sw_iconst X (nI 3) dX4_busyFor_28 (by decide) ?_
    refine sw_icmp_ge X 60 dX4_busyFor_29 (by decide) (fun h29 => ?_) (fun h29 => ?_)
    ·
      have e : r = 3 := by have := (nI_leI (by omega) (by omega)).mp h29; omega
      subst e
      refine sw_iload_3 X dX4_busyFor_60 ?_
      exact sw_iret X Y dX4_busyFor_61 (by rw [hx]) (rfl)
    ·
      have hr3 : r < 3 := by have := mt (nI_leI (by omega) (by omega)).mpr h29; omega
      refine sw_iload_3 X dX4_busyFor_32 ?_
      refine sw_aload_0 X dX4_busyFor_33 ?_
      refine sw_iload_4 X dX4_busyFor_34 ?_
      refine sw_iload_1 X dX4_busyFor_36 ?_
      refine sw_iload_2 X dX4_busyFor_37 ?_
      refine ca_X4_37 X (by decide) dX4_busyFor_38 (Nat.le_of_ble_eq_true rfl) (c_X4_isBusy hr3 hk) ?_
      refine sw_ifB_eq X 51 dX4_busyFor_41 (by decide) (fun h41 => ?_) (fun h41 => ?_)
      ·
        have hx2 : x ||| nI 0 = bsR (M 9 5 0) k mode (r + 1) := ((or_0 x).trans hx).trans (if_neg h41).symm
        refine sw_iconst X (nI 0) dX4_busyFor_51 (by decide) ?_
        refine sw_ior X dX4_busyFor_52 ?_
        refine sw_istore_3 X dX4_busyFor_53 trivial ?_
        first | refine sw_inc1_4 X dX4_busyFor_54 trivial ?_ | refine sw_iinc_4 X _ dX4_busyFor_54 rfl trivial ?_
        refine sw_goto X 26 dX4_busyFor_57 (by decide) ?_
        exact ih (r + 1) (by omega) (by omega) _ hx2
      ·
        have hx2 : sb x r = bsR (M 9 5 0) k mode (r + 1) := (congrArg (fun z => sb z r) hx).trans (if_pos h41).symm
        refine sw_iconst X (nI 1) dX4_busyFor_44 (by decide) ?_
        refine sw_iload_4 X dX4_busyFor_45 ?_
        refine sw_ishl X dX4_busyFor_47 ?_
        refine sw_goto X 52 dX4_busyFor_48 (by decide) ?_
        refine sw_ior X dX4_busyFor_52 ?_
        refine sw_istore_3 X dX4_busyFor_53 trivial ?_
        first | refine sw_inc1_4 X dX4_busyFor_54 trivial ?_ | refine sw_iinc_4 X _ dX4_busyFor_54 rfl trivial ?_
        refine sw_goto X 26 dX4_busyFor_57 (by decide) ?_
        exact ih (r + 1) (by omega) (by omega) _ hx2
  refine sw_iload_1 X dX4_busyFor_0 ?_
  refine ca_X4_129 X (by decide) dX4_busyFor_1 (Nat.le_of_ble_eq_true rfl) c_X4_isKey ?_
  refine sw_ifB_ne X 9 dX4_busyFor_4 (by decide) (fun h4 => ?_) (fun h4 => ?_)
  ·
    refine sw_iload_2 X dX4_busyFor_9 ?_
    refine sw_iconst X (nI 1) dX4_busyFor_10 (by decide) ?_
    refine sw_iconst X (nI 2) dX4_busyFor_11 (by decide) ?_
    refine ca_X4_25 X (by decide) dX4_busyFor_12 (Nat.le_of_ble_eq_true rfl) c_X4_in ?_
    refine sw_ifB_ne X 21 dX4_busyFor_15 (by decide) (fun h15 => ?_) (fun h15 => ?_)
    ·
      refine sw_iconst X (nI 0) dX4_busyFor_21 (by decide) ?_
      refine sw_istore_3 X dX4_busyFor_22 trivial ?_
      refine sw_iconst X (nI 0) dX4_busyFor_23 (by decide) ?_
      refine sw_istore_4 X dX4_busyFor_24 trivial ?_
      exact L 0 (by omega) _ rfl
    ·
      exact absurd hm h15
  ·
    exact absurd (inR_lt (by omega) (by omega)) h4
set_option maxHeartbeats 4000000 in
set_option maxRecDepth 100000 in
theorem c_X4_busyFor_b {G : sv_G} {M : sv_Mem} {k : Nat} {mode : Int32} (hk : k < 16) (hm : ¬ inR mode (nI 1) (nI 2)) : sv_Ct G M_X4_busyFor 2 [.ref (sv_ad G 4 9 0), .int (nI k), .int mode] M (some (.int (-2))) (M) := by
  refine sv_Ct_of (lo := [some (.ref (sv_ad G 4 9 0)), some (.int (nI k)), some (.int mode), none, none]) (pn_X4) rfl (Nat.le_of_ble_eq_true rfl) rfl (fun K X Y => ?_)
  replace X : sv_X G K cX4_busyFor RX4 5 2 := X
  replace Y : sv_Y G K (some .int) _ _ := Y
  show sw_W G K 5 0 _ _ _
  refine sw_iload_1 X dX4_busyFor_0 ?_
  refine ca_X4_129 X (by decide) dX4_busyFor_1 (Nat.le_of_ble_eq_true rfl) c_X4_isKey ?_
  refine sw_ifB_ne X 9 dX4_busyFor_4 (by decide) (fun h4 => ?_) (fun h4 => ?_)
  ·
    refine sw_iload_2 X dX4_busyFor_9 ?_
    refine sw_iconst X (nI 1) dX4_busyFor_10 (by decide) ?_
    refine sw_iconst X (nI 2) dX4_busyFor_11 (by decide) ?_
    refine ca_X4_25 X (by decide) dX4_busyFor_12 (Nat.le_of_ble_eq_true rfl) c_X4_in ?_
    refine sw_ifB_ne X 21 dX4_busyFor_15 (by decide) (fun h15 => ?_) (fun h15 => ?_)
    ·
      exact absurd h15 hm
    ·
      refine sw_bipush X (-2) dX4_busyFor_18 (by decide) ?_
      exact sw_iret X Y dX4_busyFor_20 (rfl) (rfl)
  ·
    exact absurd (inR_lt (by omega) (by omega)) h4
set_option maxHeartbeats 4000000 in
set_option maxRecDepth 100000 in
theorem c_X4_busyFor_x {G : sv_G} {M : sv_Mem} {v mode : Int32} (hv : ¬ inR v (nI 0) (nI 15)) : sv_Ct G M_X4_busyFor 2 [.ref (sv_ad G 4 9 0), .int v, .int mode] M (some (.int (-1))) (M) := by
  refine sv_Ct_of (lo := [some (.ref (sv_ad G 4 9 0)), some (.int v), some (.int mode), none, none]) (pn_X4) rfl (Nat.le_of_ble_eq_true rfl) rfl (fun K X Y => ?_)
  replace X : sv_X G K cX4_busyFor RX4 5 2 := X
  replace Y : sv_Y G K (some .int) _ _ := Y
  show sw_W G K 5 0 _ _ _
  refine sw_iload_1 X dX4_busyFor_0 ?_
  refine ca_X4_129 X (by decide) dX4_busyFor_1 (Nat.le_of_ble_eq_true rfl) c_X4_isKey ?_
  refine sw_ifB_ne X 9 dX4_busyFor_4 (by decide) (fun h4 => ?_) (fun h4 => ?_)
  ·
    exact absurd h4 hv
  ·
    refine sw_iconst X (-1) dX4_busyFor_7 (by decide) ?_
    exact sw_iret X Y dX4_busyFor_8 (rfl) (rfl)
set_option maxHeartbeats 4000000 in
set_option maxRecDepth 100000 in
theorem c_X4_keysWith {G : sv_G} {M : sv_Mem} {q : Nat} {mode : Int32} (hq : q < 3) : sv_Ct G M_X4_keysWith 1 [.ref (sv_ad G 4 9 0), .int (nI q), .int mode] M (some (.int (nI (cnt (kwP (M 9 5 0) q mode) 16)))) (M) := by
  refine sv_Ct_of (lo := [some (.ref (sv_ad G 4 9 0)), some (.int (nI q)), some (.int mode), none, none]) (pn_X4) rfl (Nat.le_of_ble_eq_true rfl) rfl (fun K X Y => ?_)
  replace X : sv_X G K cX4_keysWith RX4 5 1 := X
  replace Y : sv_Y G K (some .int) _ _ := Y
  show sw_W G K 5 0 _ _ _
  have L : ∀ r, r ≤ 16 → (fun r => ∀ x, x = nI (cnt (kwP (M 9 5 0) q mode) r) → sw_W G K 5 5 [some (.ref (sv_ad G 4 9 0)), some (.int (nI q)), some (.int mode), some (.int x), some (.int (nI r))] [] M) r := by
    refine up_ind (N := 16) (P := fun r => ∀ x, x = nI (cnt (kwP (M 9 5 0) q mode) r) → sw_W G K 5 5 [some (.ref (sv_ad G 4 9 0)), some (.int (nI q)), some (.int mode), some (.int x), some (.int (nI r))] [] M) ?_
    intro r hr ih x hx
    refine sw_iload_4 X dX4_keysWith_5 ?_
    refine sw_bipush X (nI 16) dX4_keysWith_7 (by decide) ?_
    refine sw_icmp_ge X 37 dX4_keysWith_9 (by decide) (fun h9 => ?_) (fun h9 => ?_)
    ·
      have e : r = 16 := by have := (nI_leI (by omega) (by omega)).mp h9; omega
      subst e
      refine sw_iload_3 X dX4_keysWith_37 ?_
      exact sw_iret X Y dX4_keysWith_38 (by rw [hx]) (rfl)
    ·
      have hr3 : r < 16 := by have := mt (nI_leI (by omega) (by omega)).mpr h9; omega
      refine sw_iload_3 X dX4_keysWith_12 ?_
      rw [hx]
      refine sw_aload_0 X dX4_keysWith_13 ?_
      refine sw_iload_1 X dX4_keysWith_14 ?_
      refine sw_iload_4 X dX4_keysWith_15 ?_
      refine ca_X4_33 X (by decide) dX4_keysWith_17 (Nat.le_of_ble_eq_true rfl) (c_X4_modeOf hq hr3) ?_
      refine sw_iload_2 X dX4_keysWith_20 ?_
      refine sw_icmp_ne X 28 dX4_keysWith_21 (by decide) (fun h21 => ?_) (fun h21 => ?_)
      ·
        have hx2 := congrArg nI (cnt_f (p := kwP (M 9 5 0) q mode) (n := r) h21).symm
        refine sw_iconst X (nI 0) dX4_keysWith_28 (by decide) ?_
        refine sw_iadd X dX4_keysWith_29 ?_
        try refine sw_tope (nI_add _ _) ?_
        refine sw_istore_3 X dX4_keysWith_30 trivial ?_
        first | refine sw_inc1_4 X dX4_keysWith_31 trivial ?_ | refine sw_iinc_4 X _ dX4_keysWith_31 rfl trivial ?_
        refine sw_goto X 5 dX4_keysWith_34 (by decide) ?_
        exact ih (r + 1) (by omega) (by omega) _ hx2
      ·
        have hx2 := congrArg nI (cnt_t (p := kwP (M 9 5 0) q mode) (n := r) (by first | exact h21 | exact Decidable.of_not_not h21)).symm
        refine sw_iconst X (nI 1) dX4_keysWith_24 (by decide) ?_
        refine sw_goto X 29 dX4_keysWith_25 (by decide) ?_
        refine sw_iadd X dX4_keysWith_29 ?_
        try refine sw_tope (nI_add _ _) ?_
        refine sw_istore_3 X dX4_keysWith_30 trivial ?_
        first | refine sw_inc1_4 X dX4_keysWith_31 trivial ?_ | refine sw_iinc_4 X _ dX4_keysWith_31 rfl trivial ?_
        refine sw_goto X 5 dX4_keysWith_34 (by decide) ?_
        exact ih (r + 1) (by omega) (by omega) _ hx2
  refine sw_iconst X (nI 0) dX4_keysWith_0 (by decide) ?_
  refine sw_istore_3 X dX4_keysWith_1 trivial ?_
  refine sw_iconst X (nI 0) dX4_keysWith_2 (by decide) ?_
  refine sw_istore_4 X dX4_keysWith_3 trivial ?_
  exact L 0 (by omega) _ rfl
set_option maxHeartbeats 4000000 in
set_option maxRecDepth 100000 in
theorem c_X4_session_0 {G : sv_G} {M : sv_Mem} {q : Nat} (hq : q < 3)  : sv_Ct G M_X4_session 2 [.ref (sv_ad G 4 9 0), .int (nI q), .int (nI 0)] M (some (.int ((M 9 5 0) (24 + q)))) (M) := by
  refine sv_Ct_of (lo := [some (.ref (sv_ad G 4 9 0)), some (.int (nI q)), some (.int (nI 0))]) (pn_X4) rfl (Nat.le_of_ble_eq_true rfl) rfl (fun K X Y => ?_)
  replace X : sv_X G K cX4_session RX4 3 2 := X
  replace Y : sv_Y G K (some .int) _ _ := Y
  show sw_W G K 3 0 _ _ _
  refine sw_iload_1 X dX4_session_0 ?_
  refine ca_X4_68 X (by decide) dX4_session_1 (Nat.le_of_ble_eq_true rfl) c_X4_isSession ?_
  refine sw_ifB_ne X 9 dX4_session_4 (by decide) (fun h4 => ?_) (fun h4 => ?_)
  ·
    refine sw_iload_2 X dX4_session_9 ?_
    refine sw_tabInV X 44 dX4_session_10 (q := 0) rfl (by decide) (by decide) ?_
    refine sw_aload_0 X dX4_session_44 ?_
    refine gf_X4_7 X dX4_session_45 ?_
    refine sw_bipush X (nI 24) dX4_session_48 (by decide) ?_
    refine sw_iload_1 X dX4_session_50 ?_
    refine sw_iadd X dX4_session_51 ?_
    try refine sw_tope (nI_add _ _) ?_
    refine ia_5 X rfl (by omega) dX4_session_52 ?_
    exact sw_iret X Y dX4_session_53 (rfl) (rfl)
  ·
    exact absurd (inR_lt (by omega) (by omega)) h4
set_option maxHeartbeats 4000000 in
set_option maxRecDepth 100000 in
theorem c_X4_session_1 {G : sv_G} {M : sv_Mem} {q : Nat} (hq : q < 3)  : sv_Ct G M_X4_session 2 [.ref (sv_ad G 4 9 0), .int (nI q), .int (nI 1)] M (some (.int ((M 9 5 0) (27 + q)))) (M) := by
  refine sv_Ct_of (lo := [some (.ref (sv_ad G 4 9 0)), some (.int (nI q)), some (.int (nI 1))]) (pn_X4) rfl (Nat.le_of_ble_eq_true rfl) rfl (fun K X Y => ?_)
  replace X : sv_X G K cX4_session RX4 3 2 := X
  replace Y : sv_Y G K (some .int) _ _ := Y
  show sw_W G K 3 0 _ _ _
  refine sw_iload_1 X dX4_session_0 ?_
  refine ca_X4_68 X (by decide) dX4_session_1 (Nat.le_of_ble_eq_true rfl) c_X4_isSession ?_
  refine sw_ifB_ne X 9 dX4_session_4 (by decide) (fun h4 => ?_) (fun h4 => ?_)
  ·
    refine sw_iload_2 X dX4_session_9 ?_
    refine sw_tabInV X 54 dX4_session_10 (q := 1) rfl (by decide) (by decide) ?_
    refine sw_aload_0 X dX4_session_54 ?_
    refine gf_X4_7 X dX4_session_55 ?_
    refine sw_bipush X (nI 27) dX4_session_58 (by decide) ?_
    refine sw_iload_1 X dX4_session_60 ?_
    refine sw_iadd X dX4_session_61 ?_
    try refine sw_tope (nI_add _ _) ?_
    refine ia_5 X rfl (by omega) dX4_session_62 ?_
    exact sw_iret X Y dX4_session_63 (rfl) (rfl)
  ·
    exact absurd (inR_lt (by omega) (by omega)) h4
set_option maxHeartbeats 4000000 in
set_option maxRecDepth 100000 in
theorem c_X4_session_2 {G : sv_G} {M : sv_Mem} {q : Nat} (hq : q < 3) {mq : Nat} (hmq : M 9 5 0 (27 + q) = nI mq) (hmq2 : mq ≤ 12) : sv_Ct G M_X4_session 2 [.ref (sv_ad G 4 9 0), .int (nI q), .int (nI 2)] M (some (.int (nI (pcn (sncR (fun r => (M 9 5 0) (rAt q r + 0)) (mq + 1) 0 (nI 0)))))) (M) := by
  refine sv_Ct_of (lo := [some (.ref (sv_ad G 4 9 0)), some (.int (nI q)), some (.int (nI 2))]) (pn_X4) rfl (Nat.le_of_ble_eq_true rfl) rfl (fun K X Y => ?_)
  replace X : sv_X G K cX4_session RX4 3 2 := X
  replace Y : sv_Y G K (some .int) _ _ := Y
  show sw_W G K 3 0 _ _ _
  refine sw_iload_1 X dX4_session_0 ?_
  refine ca_X4_68 X (by decide) dX4_session_1 (Nat.le_of_ble_eq_true rfl) c_X4_isSession ?_
  refine sw_ifB_ne X 9 dX4_session_4 (by decide) (fun h4 => ?_) (fun h4 => ?_)
  ·
    refine sw_iload_2 X dX4_session_9 ?_
    refine sw_tabInV X 64 dX4_session_10 (q := 2) rfl (by decide) (by decide) ?_
    refine sw_aload_0 X dX4_session_64 ?_
    refine sw_iload_1 X dX4_session_65 ?_
    refine sw_iconst X (nI 0) dX4_session_66 (by decide) ?_
    refine sw_iconst X (nI 0) dX4_session_67 (by decide) ?_
    refine ca_X4_222 X (by decide) dX4_session_68 (Nat.le_of_ble_eq_true rfl) (c_X4_since hq (Nat.zero_le _) (by omega) hmq hmq2) ?_
    refine ca_X4_161 X (by decide) dX4_session_71 (Nat.le_of_ble_eq_true rfl) c_X4_bits ?_
    exact sw_iret X Y dX4_session_74 (rfl) (rfl)
  ·
    exact absurd (inR_lt (by omega) (by omega)) h4
set_option maxHeartbeats 4000000 in
set_option maxRecDepth 100000 in
theorem c_X4_session_3 {G : sv_G} {M : sv_Mem} {q : Nat} (hq : q < 3)  : sv_Ct G M_X4_session 2 [.ref (sv_ad G 4 9 0), .int (nI q), .int (nI 3)] M (some (.int (nI (cnt (kwP (M 9 5 0) q (nI 1)) 16)))) (M) := by
  refine sv_Ct_of (lo := [some (.ref (sv_ad G 4 9 0)), some (.int (nI q)), some (.int (nI 3))]) (pn_X4) rfl (Nat.le_of_ble_eq_true rfl) rfl (fun K X Y => ?_)
  replace X : sv_X G K cX4_session RX4 3 2 := X
  replace Y : sv_Y G K (some .int) _ _ := Y
  show sw_W G K 3 0 _ _ _
  refine sw_iload_1 X dX4_session_0 ?_
  refine ca_X4_68 X (by decide) dX4_session_1 (Nat.le_of_ble_eq_true rfl) c_X4_isSession ?_
  refine sw_ifB_ne X 9 dX4_session_4 (by decide) (fun h4 => ?_) (fun h4 => ?_)
  ·
    refine sw_iload_2 X dX4_session_9 ?_
    refine sw_tabInV X 75 dX4_session_10 (q := 3) rfl (by decide) (by decide) ?_
    refine sw_aload_0 X dX4_session_75 ?_
    refine sw_iload_1 X dX4_session_76 ?_
    refine sw_iload_2 X dX4_session_77 ?_
    refine sw_iconst X (nI 2) dX4_session_78 (by decide) ?_
    refine sw_isub X dX4_session_79 ?_
    refine sw_tope (v2 := nI 1) (by decide) ?_
    refine ca_X4_225 X (by decide) dX4_session_80 (Nat.le_of_ble_eq_true rfl) (c_X4_keysWith hq) ?_
    exact sw_iret X Y dX4_session_83 (rfl) (rfl)
  ·
    exact absurd (inR_lt (by omega) (by omega)) h4
set_option maxHeartbeats 4000000 in
set_option maxRecDepth 100000 in
theorem c_X4_session_4 {G : sv_G} {M : sv_Mem} {q : Nat} (hq : q < 3)  : sv_Ct G M_X4_session 2 [.ref (sv_ad G 4 9 0), .int (nI q), .int (nI 4)] M (some (.int (nI (cnt (kwP (M 9 5 0) q (nI 2)) 16)))) (M) := by
  refine sv_Ct_of (lo := [some (.ref (sv_ad G 4 9 0)), some (.int (nI q)), some (.int (nI 4))]) (pn_X4) rfl (Nat.le_of_ble_eq_true rfl) rfl (fun K X Y => ?_)
  replace X : sv_X G K cX4_session RX4 3 2 := X
  replace Y : sv_Y G K (some .int) _ _ := Y
  show sw_W G K 3 0 _ _ _
  refine sw_iload_1 X dX4_session_0 ?_
  refine ca_X4_68 X (by decide) dX4_session_1 (Nat.le_of_ble_eq_true rfl) c_X4_isSession ?_
  refine sw_ifB_ne X 9 dX4_session_4 (by decide) (fun h4 => ?_) (fun h4 => ?_)
  ·
    refine sw_iload_2 X dX4_session_9 ?_
    refine sw_tabInV X 75 dX4_session_10 (q := 4) rfl (by decide) (by decide) ?_
    refine sw_aload_0 X dX4_session_75 ?_
    refine sw_iload_1 X dX4_session_76 ?_
    refine sw_iload_2 X dX4_session_77 ?_
    refine sw_iconst X (nI 2) dX4_session_78 (by decide) ?_
    refine sw_isub X dX4_session_79 ?_
    refine sw_tope (v2 := nI 2) (by decide) ?_
    refine ca_X4_225 X (by decide) dX4_session_80 (Nat.le_of_ble_eq_true rfl) (c_X4_keysWith hq) ?_
    exact sw_iret X Y dX4_session_83 (rfl) (rfl)
  ·
    exact absurd (inR_lt (by omega) (by omega)) h4
set_option maxHeartbeats 4000000 in
set_option maxRecDepth 100000 in
theorem c_X4_session_b {G : sv_G} {M : sv_Mem} {q : Nat} {w : Int32} (hq : q < 3) (hw : ∀ i, i < 5 → w ≠ nI i) : sv_Ct G M_X4_session 2 [.ref (sv_ad G 4 9 0), .int (nI q), .int w] M (some (.int (-2))) (M) := by
  refine sv_Ct_of (lo := [some (.ref (sv_ad G 4 9 0)), some (.int (nI q)), some (.int w)]) (pn_X4) rfl (Nat.le_of_ble_eq_true rfl) rfl (fun K X Y => ?_)
  replace X : sv_X G K cX4_session RX4 3 2 := X
  replace Y : sv_Y G K (some .int) _ _ := Y
  show sw_W G K 3 0 _ _ _
  refine sw_iload_1 X dX4_session_0 ?_
  refine ca_X4_68 X (by decide) dX4_session_1 (Nat.le_of_ble_eq_true rfl) c_X4_isSession ?_
  refine sw_ifB_ne X 9 dX4_session_4 (by decide) (fun h4 => ?_) (fun h4 => ?_)
  ·
    refine sw_iload_2 X dX4_session_9 ?_
    refine sw_case (v := nI 0) (fun h10 => ?_) (fun h10_0 => ?_)
    ·
      refine sw_tabInV X 44 dX4_session_10 (q := 0) h10 (by decide) (by decide) ?_
      exact absurd h10 (hw 0 (by omega))
    refine sw_case (v := nI 1) (fun h10 => ?_) (fun h10_1 => ?_)
    ·
      refine sw_tabInV X 54 dX4_session_10 (q := 1) h10 (by decide) (by decide) ?_
      exact absurd h10 (hw 1 (by omega))
    refine sw_case (v := nI 2) (fun h10 => ?_) (fun h10_2 => ?_)
    ·
      refine sw_tabInV X 64 dX4_session_10 (q := 2) h10 (by decide) (by decide) ?_
      exact absurd h10 (hw 2 (by omega))
    refine sw_case (v := nI 3) (fun h10 => ?_) (fun h10_3 => ?_)
    ·
      refine sw_tabInV X 75 dX4_session_10 (q := 3) h10 (by decide) (by decide) ?_
      exact absurd h10 (hw 3 (by omega))
    refine sw_case (v := nI 4) (fun h10 => ?_) (fun h10_4 => ?_)
    ·
      refine sw_tabInV X 75 dX4_session_10 (q := 4) h10 (by decide) (by decide) ?_
      exact absurd h10 (hw 4 (by omega))
    refine sw_tabOut X 84 dX4_session_10 (by have q0 := sv_ti h10_0 (by decide); have q1 := sv_ti h10_1 (by decide); have q2 := sv_ti h10_2 (by decide); have q3 := sv_ti h10_3 (by decide); have q4 := sv_ti h10_4 (by decide); omega) (by decide) ?_
    refine sw_bipush X (-2) dX4_session_84 (by decide) ?_
    exact sw_iret X Y dX4_session_86 (rfl) (rfl)
  ·
    exact absurd (inR_lt (by omega) (by omega)) h4
set_option maxHeartbeats 4000000 in
set_option maxRecDepth 100000 in
theorem c_X4_session_x {G : sv_G} {M : sv_Mem} {v w : Int32} (hv : ¬ inR v (nI 0) (nI 2)) : sv_Ct G M_X4_session 2 [.ref (sv_ad G 4 9 0), .int v, .int w] M (some (.int (-1))) (M) := by
  refine sv_Ct_of (lo := [some (.ref (sv_ad G 4 9 0)), some (.int v), some (.int w)]) (pn_X4) rfl (Nat.le_of_ble_eq_true rfl) rfl (fun K X Y => ?_)
  replace X : sv_X G K cX4_session RX4 3 2 := X
  replace Y : sv_Y G K (some .int) _ _ := Y
  show sw_W G K 3 0 _ _ _
  refine sw_iload_1 X dX4_session_0 ?_
  refine ca_X4_68 X (by decide) dX4_session_1 (Nat.le_of_ble_eq_true rfl) c_X4_isSession ?_
  refine sw_ifB_ne X 9 dX4_session_4 (by decide) (fun h4 => ?_) (fun h4 => ?_)
  ·
    exact absurd h4 hv
  ·
    refine sw_iconst X (-1) dX4_session_7 (by decide) ?_
    exact sw_iret X Y dX4_session_8 (rfl) (rfl)
set_option maxHeartbeats 4000000 in
set_option maxRecDepth 100000 in
theorem c_X4_isSavepoint {G : sv_G} {M : sv_Mem} {q mq : Nat} {p : Int32} (hq : q < 3) (hmq : M 9 5 0 (27 + q) = nI mq) (hmq2 : mq ≤ 12) : sv_Ct G M_X4_isSavepoint 2 [.ref (sv_ad G 4 9 0), .int (nI q), .int p] M (some (.int (bI (inR p (nI 0) (nI mq - nI 1))))) (M) := by
  refine sv_Ct_of (lo := [some (.ref (sv_ad G 4 9 0)), some (.int (nI q)), some (.int p)]) (pn_X4) rfl (Nat.le_of_ble_eq_true rfl) rfl (fun K X Y => ?_)
  replace X : sv_X G K cX4_isSavepoint RX4 3 2 := X
  replace Y : sv_Y G K (some .boolean) _ _ := Y
  show sw_W G K 3 0 _ _ _
  refine sw_iload_1 X dX4_isSavepoint_0 ?_
  refine ca_X4_68 X (by decide) dX4_isSavepoint_1 (Nat.le_of_ble_eq_true rfl) c_X4_isSession ?_
  refine sw_ifB_eq X 30 dX4_isSavepoint_4 (by decide) (fun h4 => ?_) (fun h4 => ?_)
  ·
    exact absurd (inR_lt (by omega) (by omega)) h4
  ·
    refine sw_iload_2 X dX4_isSavepoint_7 ?_
    refine sw_iconst X (nI 0) dX4_isSavepoint_8 (by decide) ?_
    refine sw_aload_0 X dX4_isSavepoint_9 ?_
    refine gf_X4_7 X dX4_isSavepoint_10 ?_
    refine sw_bipush X (nI 27) dX4_isSavepoint_13 (by decide) ?_
    refine sw_iload_1 X dX4_isSavepoint_15 ?_
    refine sw_iadd X dX4_isSavepoint_16 ?_
    try refine sw_tope (nI_add _ _) ?_
    refine ia_5 X rfl (by omega) dX4_isSavepoint_17 ?_
    refine sw_tope hmq ?_
    refine sw_iconst X (nI 1) dX4_isSavepoint_18 (by decide) ?_
    refine sw_isub X dX4_isSavepoint_19 ?_
    refine ca_X4_25 X (by decide) dX4_isSavepoint_20 (Nat.le_of_ble_eq_true rfl) c_X4_in ?_
    refine sw_ifB_eq X 30 dX4_isSavepoint_23 (by decide) (fun h23 => ?_) (fun h23 => ?_)
    ·
      refine sw_iconst X (nI 0) dX4_isSavepoint_30 (by decide) ?_
      exact sw_zret X Y dX4_isSavepoint_31 (by first | rfl | exact sv_nzB) (by first | exact rb_t h23 | exact rb_f h23) (rfl)
    ·
      refine sw_iconst X (nI 1) dX4_isSavepoint_26 (by decide) ?_
      refine sw_goto X 31 dX4_isSavepoint_27 (by decide) ?_
      exact sw_zret X Y dX4_isSavepoint_31 (by first | rfl | exact sv_nzB) (by first | exact rb_t h23 | exact rb_f h23) (rfl)
set_option maxHeartbeats 4000000 in
set_option maxRecDepth 100000 in
theorem c_X4_isSavepoint_x {G : sv_G} {M : sv_Mem} {v p : Int32} (hv : ¬ inR v (nI 0) (nI 2)) : sv_Ct G M_X4_isSavepoint 2 [.ref (sv_ad G 4 9 0), .int v, .int p] M (some (.int (bI False))) (M) := by
  refine sv_Ct_of (lo := [some (.ref (sv_ad G 4 9 0)), some (.int v), some (.int p)]) (pn_X4) rfl (Nat.le_of_ble_eq_true rfl) rfl (fun K X Y => ?_)
  replace X : sv_X G K cX4_isSavepoint RX4 3 2 := X
  replace Y : sv_Y G K (some .boolean) _ _ := Y
  show sw_W G K 3 0 _ _ _
  refine sw_iload_1 X dX4_isSavepoint_0 ?_
  refine ca_X4_68 X (by decide) dX4_isSavepoint_1 (Nat.le_of_ble_eq_true rfl) c_X4_isSession ?_
  refine sw_ifB_eq X 30 dX4_isSavepoint_4 (by decide) (fun h4 => ?_) (fun h4 => ?_)
  ·
    refine sw_iconst X (nI 0) dX4_isSavepoint_30 (by decide) ?_
    exact sw_zret X Y dX4_isSavepoint_31 (rfl) (rfl) (rfl)
  ·
    exact absurd h4 hv
theorem inR_sv {p m : Nat} (h : p < m) (hm : m ≤ 12) : inR (nI p) (nI 0) (nI m - nI 1) := by
  rw [pk_sub (by omega)]
  exact inR_lt (by omega) (by omega)

set_option maxHeartbeats 4000000 in
set_option maxRecDepth 100000 in
theorem c_X4_nameOf_y {G : sv_G} {M : sv_Mem} {q mq p : Nat} (hq : q < 3) (hmq : M 9 5 0 (27 + q) = nI mq) (hmq2 : mq ≤ 12) (hp : p < mq) : sv_Ct G M_X4_nameOf 3 [.ref (sv_ad G 4 9 0), .int (nI q), .int (nI p)] M (some (.int ((M 9 5 0) (33 + 12 * q + p)))) (M) := by
  refine sv_Ct_of (lo := [some (.ref (sv_ad G 4 9 0)), some (.int (nI q)), some (.int (nI p))]) (pn_X4) rfl (Nat.le_of_ble_eq_true rfl) rfl (fun K X Y => ?_)
  replace X : sv_X G K cX4_nameOf RX4 3 3 := X
  replace Y : sv_Y G K (some .int) _ _ := Y
  show sw_W G K 3 0 _ _ _
  refine sw_aload_0 X dX4_nameOf_0 ?_
  refine sw_iload_1 X dX4_nameOf_1 ?_
  refine sw_iload_2 X dX4_nameOf_2 ?_
  refine ca_X4_228 X (by decide) dX4_nameOf_3 (Nat.le_of_ble_eq_true rfl) (c_X4_isSavepoint hq hmq hmq2) ?_
  refine sw_ifB_eq X 26 dX4_nameOf_6 (by decide) (fun h6 => ?_) (fun h6 => ?_)
  ·
    exact absurd (inR_sv hp hmq2) h6
  ·
    refine sw_aload_0 X dX4_nameOf_9 ?_
    refine gf_X4_7 X dX4_nameOf_10 ?_
    refine sw_bipush X (nI 33) dX4_nameOf_13 (by decide) ?_
    refine sw_bipush X (nI 12) dX4_nameOf_15 (by decide) ?_
    refine sw_iload_1 X dX4_nameOf_17 ?_
    refine sw_imul X dX4_nameOf_18 ?_
    try refine sw_tope (pk_mul _ _) ?_
    refine sw_iadd X dX4_nameOf_19 ?_
    try refine sw_tope (nI_add _ _) ?_
    refine sw_iload_2 X dX4_nameOf_20 ?_
    refine sw_iadd X dX4_nameOf_21 ?_
    try refine sw_tope (nI_add _ _) ?_
    refine ia_5 X rfl (by omega) dX4_nameOf_22 ?_
    refine sw_goto X 27 dX4_nameOf_23 (by decide) ?_
    exact sw_iret X Y dX4_nameOf_27 (rfl) (rfl)
set_option maxHeartbeats 4000000 in
set_option maxRecDepth 100000 in
theorem c_X4_nameOf_n {G : sv_G} {M : sv_Mem} {q mq : Nat} {p : Int32} (hq : q < 3) (hmq : M 9 5 0 (27 + q) = nI mq) (hmq2 : mq ≤ 12) (hp : ¬ inR p (nI 0) (nI mq - nI 1)) : sv_Ct G M_X4_nameOf 3 [.ref (sv_ad G 4 9 0), .int (nI q), .int p] M (some (.int (-1))) (M) := by
  refine sv_Ct_of (lo := [some (.ref (sv_ad G 4 9 0)), some (.int (nI q)), some (.int p)]) (pn_X4) rfl (Nat.le_of_ble_eq_true rfl) rfl (fun K X Y => ?_)
  replace X : sv_X G K cX4_nameOf RX4 3 3 := X
  replace Y : sv_Y G K (some .int) _ _ := Y
  show sw_W G K 3 0 _ _ _
  refine sw_aload_0 X dX4_nameOf_0 ?_
  refine sw_iload_1 X dX4_nameOf_1 ?_
  refine sw_iload_2 X dX4_nameOf_2 ?_
  refine ca_X4_228 X (by decide) dX4_nameOf_3 (Nat.le_of_ble_eq_true rfl) (c_X4_isSavepoint hq hmq hmq2) ?_
  refine sw_ifB_eq X 26 dX4_nameOf_6 (by decide) (fun h6 => ?_) (fun h6 => ?_)
  ·
    refine sw_iconst X (-1) dX4_nameOf_26 (by decide) ?_
    exact sw_iret X Y dX4_nameOf_27 (rfl) (rfl)
  ·
    exact absurd h6 hp
set_option maxHeartbeats 4000000 in
set_option maxRecDepth 100000 in
theorem c_X4_nameOf_x {G : sv_G} {M : sv_Mem} {v p : Int32} (hv : ¬ inR v (nI 0) (nI 2)) : sv_Ct G M_X4_nameOf 3 [.ref (sv_ad G 4 9 0), .int v, .int p] M (some (.int (-1))) (M) := by
  refine sv_Ct_of (lo := [some (.ref (sv_ad G 4 9 0)), some (.int v), some (.int p)]) (pn_X4) rfl (Nat.le_of_ble_eq_true rfl) rfl (fun K X Y => ?_)
  replace X : sv_X G K cX4_nameOf RX4 3 3 := X
  replace Y : sv_Y G K (some .int) _ _ := Y
  show sw_W G K 3 0 _ _ _
  refine sw_aload_0 X dX4_nameOf_0 ?_
  refine sw_iload_1 X dX4_nameOf_1 ?_
  refine sw_iload_2 X dX4_nameOf_2 ?_
  refine ca_X4_228 X (by decide) dX4_nameOf_3 (Nat.le_of_ble_eq_true rfl) (c_X4_isSavepoint_x hv) ?_
  refine sw_ifB_eq X 26 dX4_nameOf_6 (by decide) (fun h6 => ?_) (fun h6 => ?_)
  ·
    refine sw_iconst X (-1) dX4_nameOf_26 (by decide) ?_
    exact sw_iret X Y dX4_nameOf_27 (rfl) (rfl)
  ·
    exact absurd h6 id
set_option maxHeartbeats 4000000 in
set_option maxRecDepth 100000 in
theorem c_X4_nearest_y {G : sv_G} {M : sv_Mem} {q mq : Nat} {nm : Int32} (hq : q < 3) (hn : inR nm (nI 0) (nI 7)) (hmq : M 9 5 0 (27 + q) = nI mq) (hmq2 : mq ≤ 12) : sv_Ct G M_X4_nearest 2 [.ref (sv_ad G 4 9 0), .int (nI q), .int nm] M (some (.int (nmR (M 9 5 0) q nm mq))) (M) := by
  refine sv_Ct_of (lo := [some (.ref (sv_ad G 4 9 0)), some (.int (nI q)), some (.int nm)]) (pn_X4) rfl (Nat.le_of_ble_eq_true rfl) rfl (fun K X Y => ?_)
  replace X : sv_X G K cX4_nearest RX4 3 2 := X
  replace Y : sv_Y G K (some .int) _ _ := Y
  show sw_W G K 3 0 _ _ _
  refine sw_iload_1 X dX4_nearest_0 ?_
  refine ca_X4_68 X (by decide) dX4_nearest_1 (Nat.le_of_ble_eq_true rfl) c_X4_isSession ?_
  refine sw_ifB_ne X 11 dX4_nearest_4 (by decide) (fun h4 => ?_) (fun h4 => ?_)
  ·
    refine sw_iload_2 X dX4_nearest_11 ?_
    refine ca_X4_102 X (by decide) dX4_nearest_12 (Nat.le_of_ble_eq_true rfl) c_X4_isName ?_
    refine sw_ifB_ne X 23 dX4_nearest_15 (by decide) (fun h15 => ?_) (fun h15 => ?_)
    ·
      refine sw_aload_0 X dX4_nearest_23 ?_
      refine sw_iload_1 X dX4_nearest_24 ?_
      refine sw_iload_2 X dX4_nearest_25 ?_
      refine ca_X4_105 X (by decide) dX4_nearest_26 (Nat.le_of_ble_eq_true rfl) (c_X4_nearestOf hq hmq hmq2) ?_
      exact sw_iret X Y dX4_nearest_29 (rfl) (rfl)
    ·
      exact absurd hn h15
  ·
    exact absurd (inR_lt (by omega) (by omega)) h4
set_option maxHeartbeats 4000000 in
set_option maxRecDepth 100000 in
theorem c_X4_nearest_b {G : sv_G} {M : sv_Mem} {q : Nat} {nm : Int32} (hq : q < 3) (hn : ¬ inR nm (nI 0) (nI 7)) : sv_Ct G M_X4_nearest 2 [.ref (sv_ad G 4 9 0), .int (nI q), .int nm] M (some (.int (-2))) (M) := by
  refine sv_Ct_of (lo := [some (.ref (sv_ad G 4 9 0)), some (.int (nI q)), some (.int nm)]) (pn_X4) rfl (Nat.le_of_ble_eq_true rfl) rfl (fun K X Y => ?_)
  replace X : sv_X G K cX4_nearest RX4 3 2 := X
  replace Y : sv_Y G K (some .int) _ _ := Y
  show sw_W G K 3 0 _ _ _
  refine sw_iload_1 X dX4_nearest_0 ?_
  refine ca_X4_68 X (by decide) dX4_nearest_1 (Nat.le_of_ble_eq_true rfl) c_X4_isSession ?_
  refine sw_ifB_ne X 11 dX4_nearest_4 (by decide) (fun h4 => ?_) (fun h4 => ?_)
  ·
    refine sw_iload_2 X dX4_nearest_11 ?_
    refine ca_X4_102 X (by decide) dX4_nearest_12 (Nat.le_of_ble_eq_true rfl) c_X4_isName ?_
    refine sw_ifB_ne X 23 dX4_nearest_15 (by decide) (fun h15 => ?_) (fun h15 => ?_)
    ·
      exact absurd h15 hn
    ·
      refine sw_bipush X (-2) dX4_nearest_18 (by decide) ?_
      refine sw_goto X 29 dX4_nearest_20 (by decide) ?_
      exact sw_iret X Y dX4_nearest_29 (rfl) (rfl)
  ·
    exact absurd (inR_lt (by omega) (by omega)) h4
set_option maxHeartbeats 4000000 in
set_option maxRecDepth 100000 in
theorem c_X4_nearest_x {G : sv_G} {M : sv_Mem} {v nm : Int32} (hv : ¬ inR v (nI 0) (nI 2)) : sv_Ct G M_X4_nearest 2 [.ref (sv_ad G 4 9 0), .int v, .int nm] M (some (.int (-1))) (M) := by
  refine sv_Ct_of (lo := [some (.ref (sv_ad G 4 9 0)), some (.int v), some (.int nm)]) (pn_X4) rfl (Nat.le_of_ble_eq_true rfl) rfl (fun K X Y => ?_)
  replace X : sv_X G K cX4_nearest RX4 3 2 := X
  replace Y : sv_Y G K (some .int) _ _ := Y
  show sw_W G K 3 0 _ _ _
  refine sw_iload_1 X dX4_nearest_0 ?_
  refine ca_X4_68 X (by decide) dX4_nearest_1 (Nat.le_of_ble_eq_true rfl) c_X4_isSession ?_
  refine sw_ifB_ne X 11 dX4_nearest_4 (by decide) (fun h4 => ?_) (fun h4 => ?_)
  ·
    exact absurd h4 hv
  ·
    refine sw_iconst X (-1) dX4_nearest_7 (by decide) ?_
    refine sw_goto X 29 dX4_nearest_8 (by decide) ?_
    exact sw_iret X Y dX4_nearest_29 (rfl) (rfl)
set_option maxHeartbeats 4000000 in
set_option maxRecDepth 100000 in
theorem c_X4_changedSince_y {G : sv_G} {M : sv_Mem} {q mq p : Nat} {b : Prop} [Decidable b] (hq : q < 3) (hmq : M 9 5 0 (27 + q) = nI mq) (hmq2 : mq ≤ 12) (hp : p < mq) : sv_Ct G M_X4_changedSince 3 [.ref (sv_ad G 4 9 0), .int (nI q), .int (nI p), .int (bI b)] M (some (.int (if b then sncR (fun r => (M 9 5 0) (rAt q r + 1)) (mq + 1 - (p + 1)) (p + 1) (nI 0) else sncR (fun r => (M 9 5 0) (rAt q r + 0)) (mq + 1 - (p + 1)) (p + 1) (nI 0)))) (M) := by
  refine sv_Ct_of (lo := [some (.ref (sv_ad G 4 9 0)), some (.int (nI q)), some (.int (nI p)), some (.int (bI b))]) (pn_X4) rfl (Nat.le_of_ble_eq_true rfl) rfl (fun K X Y => ?_)
  replace X : sv_X G K cX4_changedSince RX4 4 3 := X
  replace Y : sv_Y G K (some .int) _ _ := Y
  show sw_W G K 4 0 _ _ _
  refine sw_aload_0 X dX4_changedSince_0 ?_
  refine sw_iload_1 X dX4_changedSince_1 ?_
  refine sw_iload_2 X dX4_changedSince_2 ?_
  refine ca_X4_228 X (by decide) dX4_changedSince_3 (Nat.le_of_ble_eq_true rfl) (c_X4_isSavepoint hq hmq hmq2) ?_
  refine sw_ifB_eq X 29 dX4_changedSince_6 (by decide) (fun h6 => ?_) (fun h6 => ?_)
  ·
    exact absurd (inR_sv hp hmq2) h6
  ·
    refine sw_aload_0 X dX4_changedSince_9 ?_
    refine sw_iload_1 X dX4_changedSince_10 ?_
    refine sw_iload_2 X dX4_changedSince_11 ?_
    refine sw_iconst X (nI 1) dX4_changedSince_12 (by decide) ?_
    refine sw_iadd X dX4_changedSince_13 ?_
    try refine sw_tope (nI_add _ _) ?_
    refine sw_iload_3 X dX4_changedSince_14 ?_
    refine sw_ifB_eq X 22 dX4_changedSince_15 (by decide) (fun h15 => ?_) (fun h15 => ?_)
    ·
      refine sw_iconst X (nI 0) dX4_changedSince_22 (by decide) ?_
      refine ca_X4_222 X (by decide) dX4_changedSince_23 (Nat.le_of_ble_eq_true rfl) (c_X4_since hq (by omega) (by omega) hmq hmq2) ?_
      refine sw_goto X 30 dX4_changedSince_26 (by decide) ?_
      exact sw_iret X Y dX4_changedSince_30 (by first | rw [if_pos h15] | rw [if_neg h15]) (rfl)
    ·
      refine sw_iconst X (nI 1) dX4_changedSince_18 (by decide) ?_
      refine sw_goto X 23 dX4_changedSince_19 (by decide) ?_
      refine ca_X4_222 X (by decide) dX4_changedSince_23 (Nat.le_of_ble_eq_true rfl) (c_X4_since hq (by omega) (by omega) hmq hmq2) ?_
      refine sw_goto X 30 dX4_changedSince_26 (by decide) ?_
      exact sw_iret X Y dX4_changedSince_30 (by first | rw [if_pos h15] | rw [if_neg h15]) (rfl)
set_option maxHeartbeats 4000000 in
set_option maxRecDepth 100000 in
theorem c_X4_changedSince_n {G : sv_G} {M : sv_Mem} {q mq : Nat} {p z : Int32} (hq : q < 3) (hmq : M 9 5 0 (27 + q) = nI mq) (hmq2 : mq ≤ 12) (hp : ¬ inR p (nI 0) (nI mq - nI 1)) : sv_Ct G M_X4_changedSince 3 [.ref (sv_ad G 4 9 0), .int (nI q), .int p, .int z] M (some (.int (-1))) (M) := by
  refine sv_Ct_of (lo := [some (.ref (sv_ad G 4 9 0)), some (.int (nI q)), some (.int p), some (.int z)]) (pn_X4) rfl (Nat.le_of_ble_eq_true rfl) rfl (fun K X Y => ?_)
  replace X : sv_X G K cX4_changedSince RX4 4 3 := X
  replace Y : sv_Y G K (some .int) _ _ := Y
  show sw_W G K 4 0 _ _ _
  refine sw_aload_0 X dX4_changedSince_0 ?_
  refine sw_iload_1 X dX4_changedSince_1 ?_
  refine sw_iload_2 X dX4_changedSince_2 ?_
  refine ca_X4_228 X (by decide) dX4_changedSince_3 (Nat.le_of_ble_eq_true rfl) (c_X4_isSavepoint hq hmq hmq2) ?_
  refine sw_ifB_eq X 29 dX4_changedSince_6 (by decide) (fun h6 => ?_) (fun h6 => ?_)
  ·
    refine sw_iconst X (-1) dX4_changedSince_29 (by decide) ?_
    exact sw_iret X Y dX4_changedSince_30 (rfl) (rfl)
  ·
    exact absurd h6 hp
set_option maxHeartbeats 4000000 in
set_option maxRecDepth 100000 in
theorem c_X4_changedSince_x {G : sv_G} {M : sv_Mem} {v p z : Int32} (hv : ¬ inR v (nI 0) (nI 2)) : sv_Ct G M_X4_changedSince 3 [.ref (sv_ad G 4 9 0), .int v, .int p, .int z] M (some (.int (-1))) (M) := by
  refine sv_Ct_of (lo := [some (.ref (sv_ad G 4 9 0)), some (.int v), some (.int p), some (.int z)]) (pn_X4) rfl (Nat.le_of_ble_eq_true rfl) rfl (fun K X Y => ?_)
  replace X : sv_X G K cX4_changedSince RX4 4 3 := X
  replace Y : sv_Y G K (some .int) _ _ := Y
  show sw_W G K 4 0 _ _ _
  refine sw_aload_0 X dX4_changedSince_0 ?_
  refine sw_iload_1 X dX4_changedSince_1 ?_
  refine sw_iload_2 X dX4_changedSince_2 ?_
  refine ca_X4_228 X (by decide) dX4_changedSince_3 (Nat.le_of_ble_eq_true rfl) (c_X4_isSavepoint_x hv) ?_
  refine sw_ifB_eq X 29 dX4_changedSince_6 (by decide) (fun h6 => ?_) (fun h6 => ?_)
  ·
    refine sw_iconst X (-1) dX4_changedSince_29 (by decide) ?_
    exact sw_iret X Y dX4_changedSince_30 (rfl) (rfl)
  ·
    exact absurd h6 id
set_option maxHeartbeats 4000000 in
set_option maxRecDepth 100000 in
theorem c_X4_ifUndone_y {G : sv_G} {M : sv_Mem} {q mq k p : Nat} {nm : Int32} (hq : q < 3) (hk : k < 16) (hmq : M 9 5 0 (27 + q) = nI mq) (hmq2 : mq ≤ 12) (hE : nmE (M 9 5 0) q nm mq = nI 0) (hp : nmR (M 9 5 0) q nm mq = nI p) (hp2 : p < mq) : sv_Ct G M_X4_ifUndone 3 [.ref (sv_ad G 4 9 0), .int (nI q), .int nm, .int (nI k)] M (some (.int (outs (bfR (M 9 5 0) q k (mq + 1 - (p + 1)) (p + 1))))) (M) := by
  refine sv_Ct_of (lo := [some (.ref (sv_ad G 4 9 0)), some (.int (nI q)), some (.int nm), some (.int (nI k)), none]) (pn_X4) rfl (Nat.le_of_ble_eq_true rfl) rfl (fun K X Y => ?_)
  replace X : sv_X G K cX4_ifUndone RX4 5 3 := X
  replace Y : sv_Y G K (some .int) _ _ := Y
  show sw_W G K 5 0 _ _ _
  refine sw_iload_1 X dX4_ifUndone_0 ?_
  refine ca_X4_68 X (by decide) dX4_ifUndone_1 (Nat.le_of_ble_eq_true rfl) c_X4_isSession ?_
  refine sw_ifB_eq X 14 dX4_ifUndone_4 (by decide) (fun h4 => ?_) (fun h4 => ?_)
  ·
    exact absurd (inR_lt (by omega) (by omega)) h4
  ·
    refine sw_iload_3 X dX4_ifUndone_7 ?_
    refine ca_X4_129 X (by decide) dX4_ifUndone_8 (Nat.le_of_ble_eq_true rfl) c_X4_isKey ?_
    refine sw_ifB_ne X 16 dX4_ifUndone_11 (by decide) (fun h11 => ?_) (fun h11 => ?_)
    ·
      refine sw_aload_0 X dX4_ifUndone_16 ?_
      refine sw_iload_1 X dX4_ifUndone_17 ?_
      refine sw_iload_2 X dX4_ifUndone_18 ?_
      refine ca_X4_114 X (by decide) dX4_ifUndone_19 (Nat.le_of_ble_eq_true rfl) (c_X4_nameError hq hmq hmq2) ?_
      refine sw_tope hE ?_
      refine sw_istore_4 X dX4_ifUndone_22 trivial ?_
      refine sw_iload_4 X dX4_ifUndone_24 ?_
      refine sw_if_ge X 34 dX4_ifUndone_26 (by decide) (fun h26 => ?_) (fun h26 => ?_)
      ·
        refine sw_aload_0 X dX4_ifUndone_34 ?_
        refine sw_iload_1 X dX4_ifUndone_35 ?_
        refine sw_aload_0 X dX4_ifUndone_36 ?_
        refine sw_iload_1 X dX4_ifUndone_37 ?_
        refine sw_iload_2 X dX4_ifUndone_38 ?_
        refine ca_X4_105 X (by decide) dX4_ifUndone_39 (Nat.le_of_ble_eq_true rfl) (c_X4_nearestOf hq hmq hmq2) ?_
        refine sw_tope hp ?_
        refine sw_iconst X (nI 1) dX4_ifUndone_42 (by decide) ?_
        refine sw_iadd X dX4_ifUndone_43 ?_
        try refine sw_tope (nI_add _ _) ?_
        refine sw_iload_3 X dX4_ifUndone_44 ?_
        refine ca_X4_51 X (by decide) dX4_ifUndone_45 (Nat.le_of_ble_eq_true rfl) (c_X4_before hq hk (by omega) hmq hmq2) ?_
        refine ca_X4_135 X (by decide) dX4_ifUndone_48 (Nat.le_of_ble_eq_true rfl) c_X4_outside ?_
        exact sw_iret X Y dX4_ifUndone_51 (rfl) (rfl)
      ·
        exact absurd ge_c.2.2.2 h26
    ·
      exact absurd (inR_lt (by omega) (by omega)) h11
set_option maxHeartbeats 4000000 in
set_option maxRecDepth 100000 in
theorem c_X4_ifUndone_n {G : sv_G} {M : sv_Mem} {q mq k : Nat} {nm : Int32} (hq : q < 3) (hk : k < 16) (hmq : M 9 5 0 (27 + q) = nI mq) (hmq2 : mq ≤ 12) (hE : nmE (M 9 5 0) q nm mq < 0) : sv_Ct G M_X4_ifUndone 3 [.ref (sv_ad G 4 9 0), .int (nI q), .int nm, .int (nI k)] M (some (.int (nmE (M 9 5 0) q nm mq))) (M) := by
  refine sv_Ct_of (lo := [some (.ref (sv_ad G 4 9 0)), some (.int (nI q)), some (.int nm), some (.int (nI k)), none]) (pn_X4) rfl (Nat.le_of_ble_eq_true rfl) rfl (fun K X Y => ?_)
  replace X : sv_X G K cX4_ifUndone RX4 5 3 := X
  replace Y : sv_Y G K (some .int) _ _ := Y
  show sw_W G K 5 0 _ _ _
  refine sw_iload_1 X dX4_ifUndone_0 ?_
  refine ca_X4_68 X (by decide) dX4_ifUndone_1 (Nat.le_of_ble_eq_true rfl) c_X4_isSession ?_
  refine sw_ifB_eq X 14 dX4_ifUndone_4 (by decide) (fun h4 => ?_) (fun h4 => ?_)
  ·
    exact absurd (inR_lt (by omega) (by omega)) h4
  ·
    refine sw_iload_3 X dX4_ifUndone_7 ?_
    refine ca_X4_129 X (by decide) dX4_ifUndone_8 (Nat.le_of_ble_eq_true rfl) c_X4_isKey ?_
    refine sw_ifB_ne X 16 dX4_ifUndone_11 (by decide) (fun h11 => ?_) (fun h11 => ?_)
    ·
      refine sw_aload_0 X dX4_ifUndone_16 ?_
      refine sw_iload_1 X dX4_ifUndone_17 ?_
      refine sw_iload_2 X dX4_ifUndone_18 ?_
      refine ca_X4_114 X (by decide) dX4_ifUndone_19 (Nat.le_of_ble_eq_true rfl) (c_X4_nameError hq hmq hmq2) ?_
      refine sw_istore_4 X dX4_ifUndone_22 trivial ?_
      refine sw_iload_4 X dX4_ifUndone_24 ?_
      refine sw_if_ge X 34 dX4_ifUndone_26 (by decide) (fun h26 => ?_) (fun h26 => ?_)
      ·
        exact absurd hE (Int32.not_lt.mpr h26)
      ·
        refine sw_iload_4 X dX4_ifUndone_29 ?_
        refine sw_goto X 51 dX4_ifUndone_31 (by decide) ?_
        exact sw_iret X Y dX4_ifUndone_51 (rfl) (rfl)
    ·
      exact absurd (inR_lt (by omega) (by omega)) h11
set_option maxHeartbeats 4000000 in
set_option maxRecDepth 100000 in
theorem c_X4_ifUndone_x {G : sv_G} {M : sv_Mem} {v nm w : Int32} (h : ¬ inR v (nI 0) (nI 2) ∨ ¬ inR w (nI 0) (nI 15)) : sv_Ct G M_X4_ifUndone 3 [.ref (sv_ad G 4 9 0), .int v, .int nm, .int w] M (some (.int (-1))) (M) := by
  refine sv_Ct_of (lo := [some (.ref (sv_ad G 4 9 0)), some (.int v), some (.int nm), some (.int w), none]) (pn_X4) rfl (Nat.le_of_ble_eq_true rfl) rfl (fun K X Y => ?_)
  replace X : sv_X G K cX4_ifUndone RX4 5 3 := X
  replace Y : sv_Y G K (some .int) _ _ := Y
  show sw_W G K 5 0 _ _ _
  refine sw_iload_1 X dX4_ifUndone_0 ?_
  refine ca_X4_68 X (by decide) dX4_ifUndone_1 (Nat.le_of_ble_eq_true rfl) c_X4_isSession ?_
  refine sw_ifB_eq X 14 dX4_ifUndone_4 (by decide) (fun h4 => ?_) (fun h4 => ?_)
  ·
    refine sw_iconst X (-1) dX4_ifUndone_14 (by decide) ?_
    exact sw_iret X Y dX4_ifUndone_15 (rfl) (rfl)
  ·
    refine sw_iload_3 X dX4_ifUndone_7 ?_
    refine ca_X4_129 X (by decide) dX4_ifUndone_8 (Nat.le_of_ble_eq_true rfl) c_X4_isKey ?_
    refine sw_ifB_ne X 16 dX4_ifUndone_11 (by decide) (fun h11 => ?_) (fun h11 => ?_)
    ·
      exact absurd h (fun z => z.elim (fun w => w h4) (fun w => w h11))
    ·
      refine sw_iconst X (-1) dX4_ifUndone_14 (by decide) ?_
      exact sw_iret X Y dX4_ifUndone_15 (rfl) (rfl)
set_option maxHeartbeats 4000000 in
set_option maxRecDepth 100000 in
theorem c_X4_total_y {G : sv_G} {M : sv_Mem} {w : Nat} (hw : w < 7) : sv_Ct G M_X4_total 1 [.ref (sv_ad G 4 9 0), .int (nI w)] M (some (.int ((M 9 5 0) (1 + w)))) (M) := by
  refine sv_Ct_of (lo := [some (.ref (sv_ad G 4 9 0)), some (.int (nI w))]) (pn_X4) rfl (Nat.le_of_ble_eq_true rfl) rfl (fun K X Y => ?_)
  replace X : sv_X G K cX4_total RX4 2 1 := X
  replace Y : sv_Y G K (some .int) _ _ := Y
  show sw_W G K 2 0 _ _ _
  refine sw_iload_1 X dX4_total_0 ?_
  refine sw_iconst X (nI 0) dX4_total_1 (by decide) ?_
  refine sw_bipush X (nI 6) dX4_total_2 (by decide) ?_
  refine ca_X4_25 X (by decide) dX4_total_4 (Nat.le_of_ble_eq_true rfl) c_X4_in ?_
  refine sw_ifB_eq X 21 dX4_total_7 (by decide) (fun h7 => ?_) (fun h7 => ?_)
  ·
    exact absurd (inR_lt (by omega) (by omega)) h7
  ·
    refine sw_aload_0 X dX4_total_10 ?_
    refine gf_X4_7 X dX4_total_11 ?_
    refine sw_iconst X (nI 1) dX4_total_14 (by decide) ?_
    refine sw_iload_1 X dX4_total_15 ?_
    refine sw_iadd X dX4_total_16 ?_
    try refine sw_tope (nI_add _ _) ?_
    refine ia_5 X rfl (by omega) dX4_total_17 ?_
    refine sw_goto X 22 dX4_total_18 (by decide) ?_
    exact sw_iret X Y dX4_total_22 (rfl) (rfl)
set_option maxHeartbeats 4000000 in
set_option maxRecDepth 100000 in
theorem c_X4_total_x {G : sv_G} {M : sv_Mem} {v : Int32} (hv : ¬ inR v (nI 0) (nI 6)) : sv_Ct G M_X4_total 1 [.ref (sv_ad G 4 9 0), .int v] M (some (.int (-1))) (M) := by
  refine sv_Ct_of (lo := [some (.ref (sv_ad G 4 9 0)), some (.int v)]) (pn_X4) rfl (Nat.le_of_ble_eq_true rfl) rfl (fun K X Y => ?_)
  replace X : sv_X G K cX4_total RX4 2 1 := X
  replace Y : sv_Y G K (some .int) _ _ := Y
  show sw_W G K 2 0 _ _ _
  refine sw_iload_1 X dX4_total_0 ?_
  refine sw_iconst X (nI 0) dX4_total_1 (by decide) ?_
  refine sw_bipush X (nI 6) dX4_total_2 (by decide) ?_
  refine ca_X4_25 X (by decide) dX4_total_4 (Nat.le_of_ble_eq_true rfl) c_X4_in ?_
  refine sw_ifB_eq X 21 dX4_total_7 (by decide) (fun h7 => ?_) (fun h7 => ?_)
  ·
    refine sw_iconst X (-1) dX4_total_21 (by decide) ?_
    exact sw_iret X Y dX4_total_22 (rfl) (rfl)
  ·
    exact absurd h7 hv
