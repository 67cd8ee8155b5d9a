/-- the reference's text: all its single ints at once -/
def mR (M : sv_Mem) (f : Nat → Int32) : sv_Mem := sv_upA M 9 4 0 f
theorem mF_R (M : sv_Mem) (n : Nat) (v : Int32) : mF M n v = mR M (va_up (M 9 4 0) n v) := rfl
theorem mR_f (M : sv_Mem) (f : Nat → Int32) : mR M f 9 4 0 = f := sv_upA_at ..
theorem mR_R (M : sv_Mem) (f g : Nat → Int32) : mR (mR M f) g = mR M g := sv_upA_upA ..
theorem mR_id (M : sv_Mem) : mR M (M 9 4 0) = M := sv_upA_id ..
theorem mR_t (M : sv_Mem) (f : Nat → Int32) : mR M f 9 8 0 = M 9 8 0 := sv_upA_get M f (by omega)
theorem mR_s (M : sv_Mem) (f : Nat → Int32) : mR M f 9 5 0 = M 9 5 0 := sv_upA_get M f (by omega)
theorem mR_n (M : sv_Mem) (f : Nat → Int32) : mR M f 9 9 0 = M 9 9 0 := sv_upA_get M f (by omega)
theorem mF_t (M : sv_Mem) (n : Nat) (v : Int32) : mF M n v 9 8 0 = M 9 8 0 := sv_upA_get M _ (by omega)
abbrev nx (x : Nat → Int32) (n p : Nat) (a b : Int32) : Prop := p < n ∧ inR (x p) a b
abbrev dgt (x : Nat → Int32) (n p : Nat) : Prop := nx x n p (nI 48) (nI 57)
def dg (c : Int32) : Nat := c.toInt.toNat - 48
theorem dg_of {c : Int32} (h : inR c (nI 48) (nI 57)) : c = nI (48 + dg c) ∧ dg c ≤ 9 := by
  obtain ⟨h1, h2⟩ := h
  have a1 : (48 : Int) ≤ c.toInt := by have := Int32.not_lt.mp h1; have h3 := Int32.le_iff_toInt_le.mp this; rw [nI_toInt (by decide)] at h3; exact h3
  have a2 : c.toInt ≤ 57 := by have := Int32.not_lt.mp h2; have h3 := Int32.le_iff_toInt_le.mp this; rw [nI_toInt (by decide)] at h3; exact h3
  have e : (48 + dg c : Int) = c.toInt := by unfold dg; omega
  refine ⟨Int32.toInt_inj.mp ?_, by unfold dg; omega⟩
  rw [nI_toInt (by unfold dg; omega)]
  omega
/-- digits are read while the number stays below most -/
def rnL (x : Nat → Int32) (n most : Nat) : Nat → Nat → Nat → Nat × Nat
  | 0, p, v => (p, v)
  | c + 1, p, v => if 0 < v ∧ dgt x n p ∧ 10 * v + dg (x p) ≤ most then rnL x n most c (p + 1) (10 * v + dg (x p)) else (p, v)
def rnE (x : Nat → Int32) (n most p : Nat) : Nat × Nat := rnL x n most (n - (p + 1)) (p + 1) (dg (x p))
theorem rnL_le {x : Nat → Int32} {n most : Nat} : ∀ {c p v : Nat}, p + c = n → v ≤ most → p ≤ (rnL x n most c p v).1 ∧ (rnL x n most c p v).1 ≤ n ∧ (rnL x n most c p v).2 ≤ most
  | 0, p, v, h, hv => ⟨Nat.le_refl _, by show p ≤ n; omega, hv⟩
  | c + 1, p, v, h, hv => by
    unfold rnL
    split <;> rename_i z
    · obtain ⟨a, b, d⟩ := rnL_le (x := x) (n := n) (most := most) (c := c) (p := p + 1) (v := 10 * v + dg (x p)) (by omega) z.2.2
      exact ⟨by omega, b, d⟩
    · exact ⟨Nat.le_refl _, by show p ≤ n; omega, hv⟩
theorem rnE_le {x : Nat → Int32} {n most p : Nat} (h : dgt x n p) (hm : 9 ≤ most) : p + 1 ≤ (rnE x n most p).1 ∧ (rnE x n most p).1 ≤ n ∧ (rnE x n most p).2 ≤ most :=
  rnL_le (by have := h.1; omega) (by have := (dg_of h.2).2; omega)
/-- the text, its length, the place -/
def TX (M : sv_Mem) (x : Nat → Int32) (n p : Nat) : Prop := M 9 8 0 = x ∧ M 9 4 0 6 = nI n ∧ n ≤ 80 ∧ M 9 4 0 8 = nI p ∧ p ≤ 82
theorem TX_8 {M : sv_Mem} {x : Nat → Int32} {n p p2 : Nat} (h : TX M x n p) (h2 : p2 ≤ 82) : TX (mF M 8 (nI p2)) x n p2 := by
  refine ⟨by rw [mF_t]; exact h.1, by rw [mF_f, va_up_ne _ _ (by omega)]; exact h.2.1, h.2.2.1, by rw [mF_f, va_up_self], h2⟩
theorem TX_o {M : sv_Mem} {x : Nat → Int32} {n p i : Nat} {v : Int32} (h : TX M x n p) (h2 : i ≠ 6) (h3 : i ≠ 8) : TX (mF M i v) x n p := by
  refine ⟨by rw [mF_t]; exact h.1, by rw [mF_f, va_up_ne _ _ (Ne.symm h2)]; exact h.2.1, h.2.2.1, by rw [mF_f, va_up_ne _ _ (Ne.symm h3)]; exact h.2.2.2.1, h.2.2.2.2⟩

set_option maxHeartbeats 4000000 in
set_option maxRecDepth 100000 in
theorem c_X4_isNext {G : sv_G} {M : sv_Mem} {a b : Int32} {x : Nat → Int32} {n p : Nat} (T : TX M x n p) : sv_Ct G M_X4_isNext 1 [.ref (sv_ad G 4 9 0), .int a, .int b] M (some (.int (bI (nx x n p a b)))) (M) := by
  obtain ⟨hx, hl, hn, hp, hpb⟩ := id T
  refine sv_Ct_of (lo := [some (.ref (sv_ad G 4 9 0)), some (.int a), some (.int b)]) (pn_X4) rfl (Nat.le_of_ble_eq_true rfl) rfl (fun K X Y => ?_)
  replace X : sv_X G K cX4_isNext RX4 3 1 := X
  replace Y : sv_Y G K (some .boolean) _ _ := Y
  show sw_W G K 3 0 _ _ _
  refine sw_aload_0 X dX4_isNext_0 ?_
  refine gf_X4_167 X dX4_isNext_1 ?_
  refine sw_tope hp ?_
  refine sw_aload_0 X dX4_isNext_4 ?_
  refine gf_X4_164 X dX4_isNext_5 ?_
  refine sw_tope hl ?_
  refine sw_icmp_ge X 32 dX4_isNext_8 (by decide) (fun h8 => ?_) (fun h8 => ?_)
  ·
    have hge : n ≤ p := (nI_leI (by omega) (by omega)).mp h8
    refine sw_iconst X (nI 0) dX4_isNext_32 (by decide) ?_
    exact sw_zret X Y dX4_isNext_33 (by first | rfl | exact sv_nzB) (by first | exact rb_t ⟨hlt, h25⟩ | exact rb_f (fun z => h25 z.2) | exact rb_f (fun z => absurd z.1 (by omega))) (rfl)
  ·
    have hlt : p < n := by have := mt (nI_leI (by omega) (by omega)).mpr h8; omega
    refine sw_aload_0 X dX4_isNext_11 ?_
    refine gf_X4_19 X dX4_isNext_12 ?_
    refine sw_aload_0 X dX4_isNext_15 ?_
    refine gf_X4_167 X dX4_isNext_16 ?_
    refine sw_tope hp ?_
    refine ia_8 X rfl (by omega) dX4_isNext_19 ?_
    refine sw_tope (v2 := x p) (by rw [hx]) ?_
    refine sw_iload_1 X dX4_isNext_20 ?_
    refine sw_iload_2 X dX4_isNext_21 ?_
    refine ca_X4_25 X (by decide) dX4_isNext_22 (Nat.le_of_ble_eq_true rfl) c_X4_in ?_
    refine sw_ifB_eq X 32 dX4_isNext_25 (by decide) (fun h25 => ?_) (fun h25 => ?_)
    ·
      refine sw_iconst X (nI 0) dX4_isNext_32 (by decide) ?_
      exact sw_zret X Y dX4_isNext_33 (by first | rfl | exact sv_nzB) (by first | exact rb_t ⟨hlt, h25⟩ | exact rb_f (fun z => h25 z.2) | exact rb_f (fun z => absurd z.1 (by omega))) (rfl)
    ·
      refine sw_iconst X (nI 1) dX4_isNext_28 (by decide) ?_
      refine sw_goto X 33 dX4_isNext_29 (by decide) ?_
      exact sw_zret X Y dX4_isNext_33 (by first | rfl | exact sv_nzB) (by first | exact rb_t ⟨hlt, h25⟩ | exact rb_f (fun z => h25 z.2) | exact rb_f (fun z => absurd z.1 (by omega))) (rfl)
set_option maxHeartbeats 4000000 in
set_option maxRecDepth 100000 in
theorem c_X4_passes_y {G : sv_G} {M : sv_Mem} {c : Int32} {x : Nat → Int32} {n p : Nat} (T : TX M x n p) (h : nx x n p c c) : sv_Ct G M_X4_passes 2 [.ref (sv_ad G 4 9 0), .int c] M (some (.int (bI (nx x n p c c)))) (mF M 8 (nI (p + 1))) := by
  obtain ⟨hx, hl, hn, hp, hpb⟩ := id T
  refine sv_Ct_of (lo := [some (.ref (sv_ad G 4 9 0)), some (.int c), none]) (pn_X4) rfl (Nat.le_of_ble_eq_true rfl) rfl (fun K X Y => ?_)
  replace X : sv_X G K cX4_passes RX4 3 2 := X
  replace Y : sv_Y G K (some .boolean) _ _ := Y
  show sw_W G K 3 0 _ _ _
  refine sw_aload_0 X dX4_passes_0 ?_
  refine sw_iload_1 X dX4_passes_1 ?_
  refine sw_iload_1 X dX4_passes_2 ?_
  refine ca_X4_170 X (by decide) dX4_passes_3 (Nat.le_of_ble_eq_true rfl) (c_X4_isNext T) ?_
  refine sw_istore_2 X dX4_passes_6 trivial ?_
  refine sw_aload_0 X dX4_passes_7 ?_
  refine sw_dup X dX4_passes_8 rfl ?_
  refine gf_X4_167 X dX4_passes_9 ?_
  refine sw_tope hp ?_
  refine sw_iload_2 X dX4_passes_12 ?_
  refine sw_ifB_eq X 20 dX4_passes_13 (by decide) (fun h13 => ?_) (fun h13 => ?_)
  ·
    exact absurd h h13
  ·
    refine sw_iconst X (nI 1) dX4_passes_16 (by decide) ?_
    refine sw_goto X 21 dX4_passes_17 (by decide) ?_
    refine sw_iadd X dX4_passes_21 ?_
    try refine sw_tope (nI_add _ _) ?_
    refine pf_X4_167 X dX4_passes_22 ?_
    refine sw_iload_2 X dX4_passes_25 ?_
    exact sw_zret X Y dX4_passes_26 (by first | rfl | exact sv_nzB) (rfl) (rfl)
set_option maxHeartbeats 4000000 in
set_option maxRecDepth 100000 in
theorem c_X4_passes_n {G : sv_G} {M : sv_Mem} {c : Int32} {x : Nat → Int32} {n p : Nat} (T : TX M x n p) (h : ¬ nx x n p c c) : sv_Ct G M_X4_passes 2 [.ref (sv_ad G 4 9 0), .int c] M (some (.int (bI (nx x n p c c)))) (M) := by
  obtain ⟨hx, hl, hn, hp, hpb⟩ := id T
  refine sv_Ct_of (lo := [some (.ref (sv_ad G 4 9 0)), some (.int c), none]) (pn_X4) rfl (Nat.le_of_ble_eq_true rfl) rfl (fun K X Y => ?_)
  replace X : sv_X G K cX4_passes RX4 3 2 := X
  replace Y : sv_Y G K (some .boolean) _ _ := Y
  show sw_W G K 3 0 _ _ _
  refine sw_aload_0 X dX4_passes_0 ?_
  refine sw_iload_1 X dX4_passes_1 ?_
  refine sw_iload_1 X dX4_passes_2 ?_
  refine ca_X4_170 X (by decide) dX4_passes_3 (Nat.le_of_ble_eq_true rfl) (c_X4_isNext T) ?_
  refine sw_istore_2 X dX4_passes_6 trivial ?_
  refine sw_aload_0 X dX4_passes_7 ?_
  refine sw_dup X dX4_passes_8 rfl ?_
  refine gf_X4_167 X dX4_passes_9 ?_
  refine sw_tope hp ?_
  refine sw_iload_2 X dX4_passes_12 ?_
  refine sw_ifB_eq X 20 dX4_passes_13 (by decide) (fun h13 => ?_) (fun h13 => ?_)
  ·
    refine sw_iconst X (nI 0) dX4_passes_20 (by decide) ?_
    refine sw_iadd X dX4_passes_21 ?_
    try refine sw_tope (nI_add _ _) ?_
    refine pf_X4_167 X dX4_passes_22 ?_
    refine sw_iload_2 X dX4_passes_25 ?_
    exact sw_zret X Y dX4_passes_26 (by first | rfl | exact sv_nzB) (rfl) ((mF_id M 8 _ hp).symm)
  ·
    exact absurd h13 h
set_option maxHeartbeats 4000000 in
set_option maxRecDepth 100000 in
theorem c_X4_readNumber_y {G : sv_G} {M : sv_Mem} {x : Nat → Int32} {n p0 most : Nat} (T : TX M x n p0) (hd : dgt x n p0) (hm : 9 ≤ most) (hm2 : most ≤ 9999) : sv_Ct G M_X4_readNumber 2 [.ref (sv_ad G 4 9 0), .int (nI most)] M (some (.int (nI (rnE x n most p0).2))) (mF M 8 (nI (rnE x n most p0).1)) := by
  obtain ⟨hx, hl, hn, hp, hpb⟩ := id T
  refine sv_Ct_of (lo := [some (.ref (sv_ad G 4 9 0)), some (.int (nI most)), none]) (pn_X4) rfl (Nat.le_of_ble_eq_true rfl) rfl (fun K X Y => ?_)
  replace X : sv_X G K cX4_readNumber RX4 3 2 := X
  replace Y : sv_Y G K (some .int) _ _ := Y
  show sw_W G K 3 0 _ _ _
  have L : ∀ c p v, p + c = n → v ≤ most → rnL x n most c p v = rnE x n most p0 → sw_W G K 3 37 [some (.ref (sv_ad G 4 9 0)), some (.int (nI most)), some (.int (nI v))] [] (mF M 8 (nI p)) := by
    intro c
    induction c with
    | zero =>
      intro p v hpn hvm hv
      refine sw_iload_2 X dX4_readNumber_37 ?_
      refine sw_if_le X 104 dX4_readNumber_38 (by decide) (fun h38 => ?_) (fun h38 => ?_)
      ·
        have hv2 : (p, v) = rnE x n most p0 := hv
        refine sw_iload_2 X dX4_readNumber_104 ?_
        exact sw_iret X Y dX4_readNumber_105 (by rw [← hv2]) (by rw [← hv2])
      ·
        refine sw_aload_0 X dX4_readNumber_41 ?_
        refine sw_bipush X (nI 48) dX4_readNumber_42 (by decide) ?_
        refine sw_bipush X (nI 57) dX4_readNumber_44 (by decide) ?_
        refine ca_X4_170 X (by decide) dX4_readNumber_46 (Nat.le_of_ble_eq_true rfl) (c_X4_isNext (TX_8 T (by omega))) ?_
        refine sw_ifB_eq X 104 dX4_readNumber_49 (by decide) (fun h49 => ?_) (fun h49 => ?_)
        ·
          have hv2 : (p, v) = rnE x n most p0 := hv
          refine sw_iload_2 X dX4_readNumber_104 ?_
          exact sw_iret X Y dX4_readNumber_105 (by rw [← hv2]) (by rw [← hv2])
        ·
          exact absurd h49.1 (by omega)
    | succ c ih =>
      intro p v hpn hvm hv
      refine sw_iload_2 X dX4_readNumber_37 ?_
      refine sw_if_le X 104 dX4_readNumber_38 (by decide) (fun h38 => ?_) (fun h38 => ?_)
      ·
        have hv2 : (p, v) = rnE x n most p0 := (if_neg (fun z => by have := (nI_leI (b := 0) (by omega) (by omega)).mp h38; omega)).symm.trans hv
        refine sw_iload_2 X dX4_readNumber_104 ?_
        exact sw_iret X Y dX4_readNumber_105 (by rw [← hv2]) (by rw [← hv2])
      ·
        have hv0 : 0 < v := by have := mt (nI_leI (a := v) (b := 0) (by omega) (by omega)).mpr h38; omega
        refine sw_aload_0 X dX4_readNumber_41 ?_
        refine sw_bipush X (nI 48) dX4_readNumber_42 (by decide) ?_
        refine sw_bipush X (nI 57) dX4_readNumber_44 (by decide) ?_
        refine ca_X4_170 X (by decide) dX4_readNumber_46 (Nat.le_of_ble_eq_true rfl) (c_X4_isNext (TX_8 T (by omega))) ?_
        refine sw_ifB_eq X 104 dX4_readNumber_49 (by decide) (fun h49 => ?_) (fun h49 => ?_)
        ·
          have hv2 : (p, v) = rnE x n most p0 := (if_neg (fun z => h49 z.2.1)).symm.trans hv
          refine sw_iload_2 X dX4_readNumber_104 ?_
          exact sw_iret X Y dX4_readNumber_105 (by rw [← hv2]) (by rw [← hv2])
        ·
          have hdg := dg_of h49.2
          refine sw_bipush X (nI 10) dX4_readNumber_52 (by decide) ?_
          refine sw_iload_2 X dX4_readNumber_54 ?_
          refine sw_imul X dX4_readNumber_55 ?_
          try refine sw_tope (pk_mul _ _) ?_
          refine sw_aload_0 X dX4_readNumber_56 ?_
          refine gf_X4_19 X dX4_readNumber_57 ?_
          refine sw_aload_0 X dX4_readNumber_60 ?_
          refine gf_X4_167 X dX4_readNumber_61 ?_
          refine sw_tope (v2 := nI p) (by rw [mF_f, va_up_self]) ?_
          refine ia_8 X rfl (by omega) dX4_readNumber_64 ?_
          refine sw_tope (v2 := nI (48 + dg (x p))) (by rw [mF_t, hx]; exact hdg.1) ?_
          refine sw_iadd X dX4_readNumber_65 ?_
          try refine sw_tope (nI_add _ _) ?_
          refine sw_bipush X (nI 48) dX4_readNumber_66 (by decide) ?_
          refine sw_isub X dX4_readNumber_68 ?_
          refine sw_tope (v2 := nI (10 * v + dg (x p))) (by rw [pk_sub (by omega)]; congr 1; omega) ?_
          refine sw_iload_1 X dX4_readNumber_69 ?_
          refine sw_icmp_gt X 104 dX4_readNumber_70 (by decide) (fun h70 => ?_) (fun h70 => ?_)
          ·
            have hv2 : (p, v) = rnE x n most p0 := (if_neg (fun z => by have := (nI_ltI (by omega) (by omega)).mp h70; omega)).symm.trans hv
            refine sw_iload_2 X dX4_readNumber_104 ?_
            exact sw_iret X Y dX4_readNumber_105 (by rw [← hv2]) (by rw [← hv2])
          ·
            have hm3 : 10 * v + dg (x p) ≤ most := by have := mt (nI_ltI (a := most) (b := 10 * v + dg (x p)) (by omega) (by omega)).mpr h70; omega
            refine sw_bipush X (nI 10) dX4_readNumber_73 (by decide) ?_
            refine sw_iload_2 X dX4_readNumber_75 ?_
            refine sw_imul X dX4_readNumber_76 ?_
            try refine sw_tope (pk_mul _ _) ?_
            refine sw_aload_0 X dX4_readNumber_77 ?_
            refine gf_X4_19 X dX4_readNumber_78 ?_
            refine sw_aload_0 X dX4_readNumber_81 ?_
            refine gf_X4_167 X dX4_readNumber_82 ?_
            refine sw_tope (v2 := nI p) (by rw [mF_f, va_up_self]) ?_
            refine ia_8 X rfl (by omega) dX4_readNumber_85 ?_
            refine sw_tope (v2 := nI (48 + dg (x p))) (by rw [mF_t, hx]; exact hdg.1) ?_
            refine sw_iadd X dX4_readNumber_86 ?_
            try refine sw_tope (nI_add _ _) ?_
            refine sw_bipush X (nI 48) dX4_readNumber_87 (by decide) ?_
            refine sw_isub X dX4_readNumber_89 ?_
            refine sw_tope (v2 := nI (10 * v + dg (x p))) (by rw [pk_sub (by omega)]; congr 1; omega) ?_
            refine sw_istore_2 X dX4_readNumber_90 trivial ?_
            refine sw_aload_0 X dX4_readNumber_91 ?_
            refine sw_dup X dX4_readNumber_92 rfl ?_
            refine gf_X4_167 X dX4_readNumber_93 ?_
            refine sw_iconst X (nI 1) dX4_readNumber_96 (by decide) ?_
            refine sw_iadd X dX4_readNumber_97 ?_
            try refine sw_tope (nI_add _ _) ?_
            refine pf_X4_167 X dX4_readNumber_98 ?_
            refine sw_goto X 37 dX4_readNumber_101 (by decide) ?_
            rw [up4, mF_F]
            exact ih (p + 1) _ (by omega) hm3 ((if_pos ⟨hv0, h49, hm3⟩).symm.trans hv)
  refine sw_aload_0 X dX4_readNumber_0 ?_
  refine sw_bipush X (nI 48) dX4_readNumber_1 (by decide) ?_
  refine sw_bipush X (nI 57) dX4_readNumber_3 (by decide) ?_
  refine ca_X4_170 X (by decide) dX4_readNumber_5 (Nat.le_of_ble_eq_true rfl) (c_X4_isNext T) ?_
  refine sw_ifB_ne X 14 dX4_readNumber_8 (by decide) (fun h8 => ?_) (fun h8 => ?_)
  ·
    refine sw_aload_0 X dX4_readNumber_14 ?_
    refine gf_X4_19 X dX4_readNumber_15 ?_
    refine sw_aload_0 X dX4_readNumber_18 ?_
    refine gf_X4_167 X dX4_readNumber_19 ?_
    refine sw_tope hp ?_
    refine ia_8 X rfl (by have := hd.1; omega) dX4_readNumber_22 ?_
    refine sw_tope (v2 := nI (48 + dg (x p0))) (by rw [hx]; exact (dg_of hd.2).1) ?_
    refine sw_bipush X (nI 48) dX4_readNumber_23 (by decide) ?_
    refine sw_isub X dX4_readNumber_25 ?_
    refine sw_tope (v2 := nI (dg (x p0))) (by rw [pk_sub (by omega)]; congr 1; omega) ?_
    refine sw_istore_2 X dX4_readNumber_26 trivial ?_
    refine sw_aload_0 X dX4_readNumber_27 ?_
    refine sw_dup X dX4_readNumber_28 rfl ?_
    refine gf_X4_167 X dX4_readNumber_29 ?_
    refine sw_tope hp ?_
    refine sw_iconst X (nI 1) dX4_readNumber_32 (by decide) ?_
    refine sw_iadd X dX4_readNumber_33 ?_
    try refine sw_tope (nI_add _ _) ?_
    refine pf_X4_167 X dX4_readNumber_34 ?_
    exact L _ (p0 + 1) _ (by have := hd.1; omega) (by have := (dg_of hd.2).2; omega) rfl
  ·
    exact absurd hd h8
set_option maxHeartbeats 4000000 in
set_option maxRecDepth 100000 in
theorem c_X4_readNumber_n {G : sv_G} {M : sv_Mem} {most : Int32} {x : Nat → Int32} {n p : Nat} (T : TX M x n p) (hd : ¬ dgt x n p) : sv_Ct G M_X4_readNumber 2 [.ref (sv_ad G 4 9 0), .int most] M (some (.int (-5))) (M) := by
  obtain ⟨hx, hl, hn, hp, hpb⟩ := id T
  refine sv_Ct_of (lo := [some (.ref (sv_ad G 4 9 0)), some (.int most), none]) (pn_X4) rfl (Nat.le_of_ble_eq_true rfl) rfl (fun K X Y => ?_)
  replace X : sv_X G K cX4_readNumber RX4 3 2 := X
  replace Y : sv_Y G K (some .int) _ _ := Y
  show sw_W G K 3 0 _ _ _
  refine sw_aload_0 X dX4_readNumber_0 ?_
  refine sw_bipush X (nI 48) dX4_readNumber_1 (by decide) ?_
  refine sw_bipush X (nI 57) dX4_readNumber_3 (by decide) ?_
  refine ca_X4_170 X (by decide) dX4_readNumber_5 (Nat.le_of_ble_eq_true rfl) (c_X4_isNext T) ?_
  refine sw_ifB_ne X 14 dX4_readNumber_8 (by decide) (fun h8 => ?_) (fun h8 => ?_)
  ·
    exact absurd h8 hd
  ·
    refine sw_bipush X (-5) dX4_readNumber_11 (by decide) ?_
    exact sw_iret X Y dX4_readNumber_13 (rfl) (rfl)
set_option maxHeartbeats 4000000 in
set_option maxRecDepth 100000 in
theorem c_X4_readName_y {G : sv_G} {M : sv_Mem} {x : Nat → Int32} {n p : Nat} (T : TX M x n p) (h : nx x n p (nI 97) (nI 104)) : sv_Ct G M_X4_readName 2 [.ref (sv_ad G 4 9 0)] M (some (.int (bI True))) (mF (mF M 11 (x p - nI 97)) 8 (nI (p + 1))) := by
  obtain ⟨hx, hl, hn, hp, hpb⟩ := id T
  refine sv_Ct_of (lo := [some (.ref (sv_ad G 4 9 0))]) (pn_X4) rfl (Nat.le_of_ble_eq_true rfl) rfl (fun K X Y => ?_)
  replace X : sv_X G K cX4_readName RX4 1 2 := X
  replace Y : sv_Y G K (some .boolean) _ _ := Y
  show sw_W G K 1 0 _ _ _
  refine sw_aload_0 X dX4_readName_0 ?_
  refine sw_bipush X (nI 97) dX4_readName_1 (by decide) ?_
  refine sw_bipush X (nI 104) dX4_readName_3 (by decide) ?_
  refine ca_X4_170 X (by decide) dX4_readName_5 (Nat.le_of_ble_eq_true rfl) (c_X4_isNext T) ?_
  refine sw_ifB_ne X 13 dX4_readName_8 (by decide) (fun h8 => ?_) (fun h8 => ?_)
  ·
    refine sw_aload_0 X dX4_readName_13 ?_
    refine sw_aload_0 X dX4_readName_14 ?_
    refine gf_X4_19 X dX4_readName_15 ?_
    refine sw_aload_0 X dX4_readName_18 ?_
    refine gf_X4_167 X dX4_readName_19 ?_
    refine sw_tope hp ?_
    refine ia_8 X rfl (by have := h.1; omega) dX4_readName_22 ?_
    refine sw_tope (v2 := x p) (by rw [hx]) ?_
    refine sw_bipush X (nI 97) dX4_readName_23 (by decide) ?_
    refine sw_isub X dX4_readName_25 ?_
    refine pf_X4_173 X dX4_readName_26 ?_
    refine sw_aload_0 X dX4_readName_29 ?_
    refine sw_dup X dX4_readName_30 rfl ?_
    refine gf_X4_167 X dX4_readName_31 ?_
    refine sw_tope (v2 := nI p) (by rw [up4, mF_f, va_up_ne _ _ (by omega)]; exact hp) ?_
    refine sw_iconst X (nI 1) dX4_readName_34 (by decide) ?_
    refine sw_iadd X dX4_readName_35 ?_
    try refine sw_tope (nI_add _ _) ?_
    refine pf_X4_167 X dX4_readName_36 ?_
    refine sw_iconst X (nI 1) dX4_readName_39 (by decide) ?_
    exact sw_zret X Y dX4_readName_40 (rfl) (rfl) (rfl)
  ·
    exact absurd h h8
set_option maxHeartbeats 4000000 in
set_option maxRecDepth 100000 in
theorem c_X4_readName_n {G : sv_G} {M : sv_Mem} {x : Nat → Int32} {n p : Nat} (T : TX M x n p) (h : ¬ nx x n p (nI 97) (nI 104)) : sv_Ct G M_X4_readName 2 [.ref (sv_ad G 4 9 0)] M (some (.int (bI False))) (M) := by
  obtain ⟨hx, hl, hn, hp, hpb⟩ := id T
  refine sv_Ct_of (lo := [some (.ref (sv_ad G 4 9 0))]) (pn_X4) rfl (Nat.le_of_ble_eq_true rfl) rfl (fun K X Y => ?_)
  replace X : sv_X G K cX4_readName RX4 1 2 := X
  replace Y : sv_Y G K (some .boolean) _ _ := Y
  show sw_W G K 1 0 _ _ _
  refine sw_aload_0 X dX4_readName_0 ?_
  refine sw_bipush X (nI 97) dX4_readName_1 (by decide) ?_
  refine sw_bipush X (nI 104) dX4_readName_3 (by decide) ?_
  refine ca_X4_170 X (by decide) dX4_readName_5 (Nat.le_of_ble_eq_true rfl) (c_X4_isNext T) ?_
  refine sw_ifB_ne X 13 dX4_readName_8 (by decide) (fun h8 => ?_) (fun h8 => ?_)
  ·
    exact absurd h8 h
  ·
    refine sw_iconst X (nI 0) dX4_readName_11 (by decide) ?_
    exact sw_zret X Y dX4_readName_12 (rfl) (rfl) (rfl)
set_option maxHeartbeats 4000000 in
set_option maxRecDepth 100000 in
theorem c_X4_readKey_y {G : sv_G} {M : sv_Mem} {x : Nat → Int32} {n p : Nat} (T : TX M x n p) (h : dgt x n p) : sv_Ct G M_X4_readKey 3 [.ref (sv_ad G 4 9 0)] M (some (.int (bI True))) (mF (mF M 8 (nI (rnE x n 15 p).1)) 11 (nI (rnE x n 15 p).2)) := by
  obtain ⟨hx, hl, hn, hp, hpb⟩ := id T
  have hr := rnE_le (most := 15) h (by omega)
  refine sv_Ct_of (lo := [some (.ref (sv_ad G 4 9 0))]) (pn_X4) rfl (Nat.le_of_ble_eq_true rfl) rfl (fun K X Y => ?_)
  replace X : sv_X G K cX4_readKey RX4 1 3 := X
  replace Y : sv_Y G K (some .boolean) _ _ := Y
  show sw_W G K 1 0 _ _ _
  refine sw_aload_0 X dX4_readKey_0 ?_
  refine sw_aload_0 X dX4_readKey_1 ?_
  refine sw_bipush X (nI 15) dX4_readKey_2 (by decide) ?_
  refine ca_X4_176 X (by decide) dX4_readKey_4 (Nat.le_of_ble_eq_true rfl) (c_X4_readNumber_y T h (by omega) (by omega)) ?_
  refine pf_X4_173 X dX4_readKey_7 ?_
  refine sw_aload_0 X dX4_readKey_10 ?_
  refine gf_X4_173 X dX4_readKey_11 ?_
  refine sw_tope (v2 := nI (rnE x n 15 p).2) (by rw [up4, mF_f, va_up_self]) ?_
  refine sw_bipush X (-5) dX4_readKey_14 (by decide) ?_
  refine sw_icmp_eq X 23 dX4_readKey_16 (by decide) (fun h16 => ?_) (fun h16 => ?_)
  ·
    exact absurd h16 (fun z => nI_pos (n := (rnE x n 15 p).2) (by omega) (by rw [z]; decide))
  ·
    refine sw_iconst X (nI 1) dX4_readKey_19 (by decide) ?_
    refine sw_goto X 24 dX4_readKey_20 (by decide) ?_
    exact sw_zret X Y dX4_readKey_24 (rfl) (rfl) (rfl)
set_option maxHeartbeats 4000000 in
set_option maxRecDepth 100000 in
theorem c_X4_readKey_n {G : sv_G} {M : sv_Mem} {x : Nat → Int32} {n p : Nat} (T : TX M x n p) (h : ¬ dgt x n p) : sv_Ct G M_X4_readKey 3 [.ref (sv_ad G 4 9 0)] M (some (.int (bI False))) (mF M 11 (-5)) := by
  obtain ⟨hx, hl, hn, hp, hpb⟩ := id T
  refine sv_Ct_of (lo := [some (.ref (sv_ad G 4 9 0))]) (pn_X4) rfl (Nat.le_of_ble_eq_true rfl) rfl (fun K X Y => ?_)
  replace X : sv_X G K cX4_readKey RX4 1 3 := X
  replace Y : sv_Y G K (some .boolean) _ _ := Y
  show sw_W G K 1 0 _ _ _
  refine sw_aload_0 X dX4_readKey_0 ?_
  refine sw_aload_0 X dX4_readKey_1 ?_
  refine sw_bipush X (nI 15) dX4_readKey_2 (by decide) ?_
  refine ca_X4_176 X (by decide) dX4_readKey_4 (Nat.le_of_ble_eq_true rfl) (c_X4_readNumber_n T h) ?_
  refine pf_X4_173 X dX4_readKey_7 ?_
  refine sw_aload_0 X dX4_readKey_10 ?_
  refine gf_X4_173 X dX4_readKey_11 ?_
  refine sw_tope (v2 := -5) (by rw [up4, mF_f, va_up_self]) ?_
  refine sw_bipush X (-5) dX4_readKey_14 (by decide) ?_
  refine sw_icmp_eq X 23 dX4_readKey_16 (by decide) (fun h16 => ?_) (fun h16 => ?_)
  ·
    refine sw_iconst X (nI 0) dX4_readKey_23 (by decide) ?_
    exact sw_zret X Y dX4_readKey_24 (rfl) (rfl) (rfl)
  ·
    exact absurd rfl h16
