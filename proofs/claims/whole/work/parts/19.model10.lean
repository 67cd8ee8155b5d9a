/-- how many keys a set has -/
abbrev pcP (x : Int32) : Nat → Prop := fun i => bt x i = true
def pcn (x : Int32) : Nat := cnt (pcP x) 32
theorem lsb_ex : ∀ (n : Nat), n ≠ 0 → ∃ p, n.testBit p = true ∧ ∀ i, (n &&& (n - 1)).testBit i = (n.testBit i && decide (i ≠ p)) := by
  intro n
  induction n using Nat.strongRecOn with
  | _ n ih =>
    intro hn
    by_cases h : n % 2 = 1
    · refine ⟨0, by simp [Nat.testBit_zero, h], fun i => ?_⟩
      rw [Nat.testBit_and]
      cases i with
      | zero => simp [Nat.testBit_zero]; omega
      | succ i =>
        rw [Nat.testBit_succ, Nat.testBit_succ, show (n - 1) / 2 = n / 2 by omega]
        simp
    · obtain ⟨p, h1, h2⟩ := ih (n / 2) (by omega) (by omega)
      refine ⟨p + 1, by rw [Nat.testBit_succ]; exact h1, fun i => ?_⟩
      rw [Nat.testBit_and]
      cases i with
      | zero => simp [Nat.testBit_zero]; omega
      | succ i =>
        have h3 := h2 i
        rw [Nat.testBit_and] at h3
        rw [Nat.testBit_succ, Nat.testBit_succ, show (n - 1) / 2 = n / 2 - 1 by omega, h3]
        simp
theorem cnt_del {p r : Nat → Prop} [DecidablePred p] [DecidablePred r] {a : Nat} (ha : p a) (h : ∀ i, r i ↔ (p i ∧ i ≠ a)) : ∀ n, a < n → cnt r n + 1 = cnt p n
  | 0, hn => absurd hn (by omega)
  | n + 1, hn => by
    by_cases e : n = a
    · subst e
      rw [cnt_f (fun z => ((h n).mp z).2 rfl), cnt_t ha, cnt_congr (p := r) (q := p) (fun k hk => by rw [h k]; exact ⟨fun z => z.1, fun z => ⟨z, by omega⟩⟩)]
    · have ih := cnt_del ha h n (by omega)
      by_cases hp : p n
      · rw [cnt_t hp, cnt_t ((h n).mpr ⟨hp, e⟩)]
        omega
      · rw [cnt_f hp, cnt_f (fun z => hp ((h n).mp z).1)]
        exact ih
theorem pcn_dec {x : Int32} (h : ¬ x = 0) : pcn (x &&& (x - nI 1)) + 1 = pcn x := by
  have hn : x.toBitVec.toNat ≠ 0 := fun z => h (Int32.toBitVec_inj.mp (BitVec.eq_of_toNat_eq z))
  obtain ⟨p, h1, h2⟩ := lsb_ex _ hn
  have hb : ∀ y : Int32, ∀ i, bt y i = y.toBitVec.toNat.testBit i := fun y i => rfl
  have hp : p < 32 := by
    rcases Nat.lt_or_ge p 32 with z | z
    · exact z
    · have := Nat.testBit_lt_two_pow (x := x.toBitVec.toNat) (i := p) (Nat.lt_of_lt_of_le x.toBitVec.isLt (Nat.pow_le_pow_right (by omega) z))
      rw [this] at h1
      cases h1
  have e : (x - nI 1).toBitVec.toNat = x.toBitVec.toNat - 1 := by
    rw [Int32.toBitVec_sub, BitVec.toNat_sub]
    have h3 : (nI 1).toBitVec.toNat = 1 := sv_tn (by omega)
    have := x.toBitVec.isLt
    omega
  unfold pcn
  refine cnt_del (a := p) (by show bt x p = true; rw [hb]; exact h1) (fun i => ?_) 32 hp
  show bt (x &&& (x - nI 1)) i = true ↔ _
  rw [hb, Int32.toBitVec_and, BitVec.toNat_and, e, h2 i]
  simp [hb]
theorem pcn_0 : pcn 0 = 0 := by decide +kernel
abbrev vlP (s : Nat → Int32) : Nat → Prop := fun k => s (8 + k) ≠ -1
abbrev vlR (s : Nat → Int32) : Nat := cnt (vlP s) 16
def shL (s n : Nat → Int32) (q : Nat) (keys delta : Int32) : Nat → (Nat → Int32) × (Nat → Int32) × Int32
  | 0 => (s, n, nI 0)
  | k + 1 => if (shL s n q keys delta k).2.2 = 0 ∧ bt keys k = true then (adS (shL s n q keys delta k).1 q k delta (nI 1), adN (shL s n q keys delta k).1 (shL s n q keys delta k).2.1 q k delta (nI 1), adC (shL s n q keys delta k).1 q k delta (nI 1)) else shL s n q keys delta k
theorem adS_lo {s : Nat → Int32} {q k n : Nat} {more b : Int32} (h : n ≠ 30 + q) (h2 : n ≠ 8 + k) : adS s q k more b n = s n := by
  unfold adS
  split
  · rfl
  · split
    · exact takesS_lo h
    · unfold chgS
      rw [va_up_ne _ _ h2, takesS_lo h]
theorem shL_t {s n s1 n1 : Nat → Int32} {q r : Nat} {keys delta e1 : Int32} (h : shL s n q keys delta r = (s1, n1, e1)) (he : e1 = 0) (hb : bt keys r = true) : shL s n q keys delta (r + 1) = (adS s1 q r delta (nI 1), adN s1 n1 q r delta (nI 1), adC s1 q r delta (nI 1)) := by
  show (if _ then _ else _) = _
  rw [h, if_pos ⟨he, hb⟩]
theorem shL_f {s n s1 n1 : Nat → Int32} {q r : Nat} {keys delta e1 : Int32} (h : shL s n q keys delta r = (s1, n1, e1)) (hb : ¬ (e1 = 0 ∧ bt keys r = true)) : shL s n q keys delta (r + 1) = (s1, n1, e1) := by
  show (if _ then _ else _) = _
  rw [h, if_neg hb]
theorem shL_stay {s n s1 n1 : Nat → Int32} {q r : Nat} {keys delta e1 : Int32} (h : shL s n q keys delta r = (s1, n1, e1)) (he : ¬ e1 = 0) : ∀ c, shL s n q keys delta (r + c) = (s1, n1, e1)
  | 0 => h
  | c + 1 => shL_f (r := r + c) (shL_stay h he c) (fun z => he z.1)
theorem shL_lo {s n : Nat → Int32} {q a : Nat} {keys delta : Int32} (h : a ≠ 30 + q) (h2 : a < 8 ∨ 24 ≤ a) : ∀ k, k ≤ 16 → (shL s n q keys delta k).1 a = s a
  | 0, _ => rfl
  | k + 1, hk => by
    have ih := shL_lo (s := s) (n := n) (keys := keys) (delta := delta) h h2 k (by omega)
    show (if _ then _ else _ : (Nat → Int32) × (Nat → Int32) × Int32).1 a = _
    split
    · show adS _ _ _ _ _ a = _
      rw [adS_lo h (by omega), ih]
    · exact ih
abbrev shP (s n : Nat → Int32) (q : Nat) (keys delta : Int32) : (Nat → Int32) × (Nat → Int32) × Int32 := shL s n q keys delta 16
def shS (s n : Nat → Int32) (q mq : Nat) (keys delta : Int32) : Nat → Int32 := if (shP s n q keys delta).2.2 = 0 then ewS (shP s n q keys delta).1 (shP s n q keys delta).2.1 q mq else ebS (shP s n q keys delta).1 (shP s n q keys delta).2.1 q mq (shP s n q keys delta).2.2
def shN (s n : Nat → Int32) (q : Nat) (keys delta : Int32) : Nat → Int32 := if (shP s n q keys delta).2.2 = 0 then (shP s n q keys delta).2.1 else ebN (shP s n q keys delta).1 (shP s n q keys delta).2.1
def shC (s n : Nat → Int32) (q : Nat) (keys delta : Int32) : Int32 := if (shP s n q keys delta).2.2 = 0 then nI (pcn keys) else (shP s n q keys delta).2.2
theorem sh_0 {s n s1 n1 : Nat → Int32} {q : Nat} (mq : Nat) {keys delta e1 : Int32} (h : shP s n q keys delta = (s1, n1, e1)) (he : e1 = 0) : shC s n q keys delta = nI (pcn keys) ∧ shS s n q mq keys delta = ewS s1 n1 q mq ∧ shN s n q keys delta = n1 := by
  unfold shC shS shN
  rw [h]
  exact ⟨if_pos he, if_pos he, if_pos he⟩
theorem sh_1 {s n s1 n1 : Nat → Int32} {q : Nat} (mq : Nat) {keys delta e1 : Int32} (h : shP s n q keys delta = (s1, n1, e1)) (he : ¬ e1 = 0) : shC s n q keys delta = e1 ∧ shS s n q mq keys delta = ebS s1 n1 q mq e1 ∧ shN s n q keys delta = ebN s1 n1 := by
  unfold shC shS shN
  rw [h]
  exact ⟨if_neg he, if_neg he, if_neg he⟩
def mvP (s n : Nat → Int32) (q a b : Nat) (amt : Int32) : (Nat → Int32) × (Nat → Int32) × Int32 := if adC s q a (-amt) (nI 1) = 0 then (adS (adS s q a (-amt) (nI 1)) q b amt (nI 0), adN (adS s q a (-amt) (nI 1)) (adN s n q a (-amt) (nI 1)) q b amt (nI 0), adC (adS s q a (-amt) (nI 1)) q b amt (nI 0)) else (adS s q a (-amt) (nI 1), adN s n q a (-amt) (nI 1), adC s q a (-amt) (nI 1))
theorem mvP_lo {s n : Nat → Int32} {q a b i : Nat} {amt : Int32} (h : i ≠ 30 + q) (h2 : i ≠ 8 + a) (h3 : i ≠ 8 + b) : (mvP s n q a b amt).1 i = s i := by
  unfold mvP
  split
  · show adS _ _ _ _ _ _ = _
    rw [adS_lo h h3, adS_lo h h2]
  · show adS _ _ _ _ _ _ = _
    rw [adS_lo h h2]
def mvS (s n : Nat → Int32) (q mq a b : Nat) (amt : Int32) : Nat → Int32 := if (mvP s n q a b amt).2.2 = 0 then ewS (mvP s n q a b amt).1 (mvP s n q a b amt).2.1 q mq else ebS (mvP s n q a b amt).1 (mvP s n q a b amt).2.1 q mq (mvP s n q a b amt).2.2
def mvN (s n : Nat → Int32) (q a b : Nat) (amt : Int32) : Nat → Int32 := if (mvP s n q a b amt).2.2 = 0 then (mvP s n q a b amt).2.1 else ebN (mvP s n q a b amt).1 (mvP s n q a b amt).2.1
def mvC (s n : Nat → Int32) (q a b : Nat) (amt : Int32) : Int32 := if (mvP s n q a b amt).2.2 = 0 then (mvP s n q a b amt).1 (8 + b) else (mvP s n q a b amt).2.2

set_option maxHeartbeats 4000000 in
set_option maxRecDepth 100000 in
theorem c_X4_bits {G : sv_G} {M : sv_Mem} {x0 : Int32} : sv_Ct G M_X4_bits 0 [.int x0] M (some (.int (nI (pcn x0)))) (M) := by
  refine sv_Ct_of (lo := [some (.int x0), none, none]) (pn_X4) rfl (Nat.le_of_ble_eq_true rfl) rfl (fun K X Y => ?_)
  replace X : sv_X G K cX4_bits RX4 3 0 := X
  replace Y : sv_Y G K (some .int) _ _ := Y
  show sw_W G K 3 0 _ _ _
  have L : ∀ c n x, pcn x = c → nI (n + c) = nI (pcn x0) → sw_W G K 3 4 [some (.int x0), some (.int (nI n)), some (.int x)] [] M := by
    intro c
    induction c with
    | zero =>
      intro n x hc hv
      refine sw_iload_2 X dX4_bits_4 ?_
      refine sw_if_eq X 20 dX4_bits_5 (by decide) (fun h5 => ?_) (fun h5 => ?_)
      ·
        refine sw_iload_1 X dX4_bits_20 ?_
        exact sw_iret X Y dX4_bits_21 (ri_of hv.symm) (rfl)
      ·
        exact absurd (pcn_dec h5) (by omega)
    | succ c ih =>
      intro n x hc hv
      refine sw_iload_2 X dX4_bits_4 ?_
      refine sw_if_eq X 20 dX4_bits_5 (by decide) (fun h5 => ?_) (fun h5 => ?_)
      ·
        exact absurd (h5 ▸ pcn_0) (by omega)
      ·
        first | refine sw_inc1_1 X dX4_bits_8 trivial ?_ | refine sw_iinc_1 X _ dX4_bits_8 rfl trivial ?_
        refine sw_iload_2 X dX4_bits_11 ?_
        refine sw_iload_2 X dX4_bits_12 ?_
        refine sw_iconst X (nI 1) dX4_bits_13 (by decide) ?_
        refine sw_isub X dX4_bits_14 ?_
        refine sw_iand X dX4_bits_15 ?_
        refine sw_istore_2 X dX4_bits_16 trivial ?_
        refine sw_goto X 4 dX4_bits_17 (by decide) ?_
        exact ih (n + 1) _ (by have := pcn_dec h5; omega) (by rw [← hv, show n + 1 + c = n + (c + 1) by omega])
  refine sw_iconst X (nI 0) dX4_bits_0 (by decide) ?_
  refine sw_istore_1 X dX4_bits_1 trivial ?_
  refine sw_iload_0 X dX4_bits_2 ?_
  refine sw_istore_2 X dX4_bits_3 trivial ?_
  exact L _ 0 _ rfl (by rw [Nat.zero_add])
set_option maxHeartbeats 4000000 in
set_option maxRecDepth 100000 in
theorem c_X4_valued {G : sv_G} {M : sv_Mem}  : sv_Ct G M_X4_valued 0 [.ref (sv_ad G 4 9 0)] M (some (.int (nI (vlR (M 9 5 0))))) (M) := by
  refine sv_Ct_of (lo := [some (.ref (sv_ad G 4 9 0)), none, none]) (pn_X4) rfl (Nat.le_of_ble_eq_true rfl) rfl (fun K X Y => ?_)
  replace X : sv_X G K cX4_valued RX4 3 0 := X
  replace Y : sv_Y G K (some .int) _ _ := Y
  show sw_W G K 3 0 _ _ _
  have L : ∀ r, r ≤ 16 → (fun r => ∀ x, x = nI (cnt (vlP (M 9 5 0)) r) → sw_W G K 3 4 [some (.ref (sv_ad G 4 9 0)), some (.int x), some (.int (nI r))] [] M) r := by
    refine up_ind (N := 16) (P := fun r => ∀ x, x = nI (cnt (vlP (M 9 5 0)) r) → sw_W G K 3 4 [some (.ref (sv_ad G 4 9 0)), some (.int x), some (.int (nI r))] [] M) ?_
    intro r hr ih x hx
    refine sw_iload_2 X dX4_valued_4 ?_
    refine sw_bipush X (nI 16) dX4_valued_5 (by decide) ?_
    refine sw_icmp_ge X 37 dX4_valued_7 (by decide) (fun h7 => ?_) (fun h7 => ?_)
    ·
      have e : r = 16 := by have := (nI_leI (by omega) (by omega)).mp h7; omega
      subst e
      refine sw_iload_1 X dX4_valued_37 ?_
      exact sw_iret X Y dX4_valued_38 (ri_of hx.symm) (rfl)
    ·
      have hr3 : r < 16 := by have := mt (nI_leI (by omega) (by omega)).mpr h7; omega
      refine sw_iload_1 X dX4_valued_10 ?_
      refine sw_aload_0 X dX4_valued_11 ?_
      refine gf_X4_7 X dX4_valued_12 ?_
      refine sw_bipush X (nI 8) dX4_valued_15 (by decide) ?_
      refine sw_iload_2 X dX4_valued_17 ?_
      refine sw_iadd X dX4_valued_18 ?_
      try refine sw_tope (nI_add _ _) ?_
      refine ia_5 X rfl (by omega) dX4_valued_19 ?_
      refine sw_iconst X (-1) dX4_valued_20 (by decide) ?_
      refine sw_icmp_ne X 28 dX4_valued_21 (by decide) (fun h21 => ?_) (fun h21 => ?_)
      ·
        have hx2 := congrArg nI (cnt_t (p := vlP (M 9 5 0)) (n := r) h21).symm
        refine sw_iconst X (nI 1) dX4_valued_28 (by decide) ?_
        rw [hx]
        refine sw_iadd X dX4_valued_29 ?_
        try refine sw_tope (nI_add _ _) ?_
        refine sw_istore_1 X dX4_valued_30 trivial ?_
        first | refine sw_inc1_2 X dX4_valued_31 trivial ?_ | refine sw_iinc_2 X _ dX4_valued_31 rfl trivial ?_
        refine sw_goto X 4 dX4_valued_34 (by decide) ?_
        exact ih (r + 1) (by omega) (by omega) _ hx2
      ·
        have hx2 := congrArg nI (cnt_f (p := vlP (M 9 5 0)) (n := r) (fun z => z h21)).symm
        refine sw_iconst X (nI 0) dX4_valued_24 (by decide) ?_
        refine sw_goto X 29 dX4_valued_25 (by decide) ?_
        rw [hx]
        refine sw_iadd X dX4_valued_29 ?_
        try refine sw_tope (nI_add _ _) ?_
        refine sw_istore_1 X dX4_valued_30 trivial ?_
        first | refine sw_inc1_2 X dX4_valued_31 trivial ?_ | refine sw_iinc_2 X _ dX4_valued_31 rfl trivial ?_
        refine sw_goto X 4 dX4_valued_34 (by decide) ?_
        exact ih (r + 1) (by omega) (by omega) _ hx2
  refine sw_iconst X (nI 0) dX4_valued_0 (by decide) ?_
  refine sw_istore_1 X dX4_valued_1 trivial ?_
  refine sw_iconst X (nI 0) dX4_valued_2 (by decide) ?_
  refine sw_istore_2 X dX4_valued_3 trivial ?_
  exact L 0 (by omega) _ rfl
theorem wk_X4_156 : Cond.constant RX4 156 65535 ∈ lw_g := lw_g_of (List.mem_append_right _ (List.mem_of_getElem? (i := 740) (by decide +kernel))) (by decide +kernel)
set_option maxHeartbeats 4000000 in
set_option maxRecDepth 100000 in
theorem c_X4_shift_y {G : sv_G} {M : sv_Mem} {q t mq : Nat} {keys delta : Int32} (hmq : M 9 5 0 (27 + q) = nI mq) (hmq2 : mq ≤ 12) (hq : q < 3) (hks : inR keys (nI 1) 65535) (hdl : inR delta (-9999) (nI 9999)) (ho : M 9 5 0 (24 + q) = nI 1) (hkp : M 9 4 0 2 = nI t) (ht : t ≤ 5) : sv_Ct G M_X4_shift 4 [.ref (sv_ad G 4 9 0), .int (nI q), .int keys, .int delta] M (some (.int (shC (M 9 5 0) (fg1 (M 9 9 0) 0) q keys delta))) (mS (mN (rcM M t) (shN (M 9 5 0) (fg1 (M 9 9 0) 0) q keys delta)) (shS (M 9 5 0) (fg1 (M 9 9 0) 0) q mq keys delta)) := by
  refine sv_Ct_of (lo := [some (.ref (sv_ad G 4 9 0)), some (.int (nI q)), some (.int keys), some (.int delta), none, none]) (pn_X4) rfl (Nat.le_of_ble_eq_true rfl) rfl (fun K X Y => ?_)
  replace X : sv_X G K cX4_shift RX4 6 4 := X
  replace Y : sv_Y G K (some .int) _ _ := Y
  show sw_W G K 6 0 _ _ _
  have LE : ∀ s1 n1 e1 X9, shP (M 9 5 0) (fg1 (M 9 9 0) 0) q keys delta = (s1, n1, e1) → sw_W G K 6 102 [some (.ref (sv_ad G 4 9 0)), some (.int (nI q)), some (.int keys), some (.int delta), some (.int e1), X9] [] (mS (mN (rcM M t) n1) s1) := by
    intro s1 n1 e1 X9 hP
    have h27 : s1 (27 + q) = M 9 5 0 (27 + q) := by have := shL_lo (s := M 9 5 0) (n := fg1 (M 9 9 0) 0) (q := q) (a := 27 + q) (keys := keys) (delta := delta) (by omega) (by omega) 16 (by omega); rw [show shL (M 9 5 0) (fg1 (M 9 9 0) 0) q keys delta 16 = (s1, n1, e1) from hP] at this; exact this
    refine sw_iload_4 X dX4_shift_102 ?_
    refine sw_if_ne X 119 dX4_shift_104 (by decide) (fun h104 => ?_) (fun h104 => ?_)
    ·
      obtain ⟨e7, e8, e9⟩ := sh_1 mq hP h104
      refine sw_aload_0 X dX4_shift_119 ?_
      refine sw_iload_1 X dX4_shift_120 ?_
      refine sw_iload_4 X dX4_shift_121 ?_
      refine ca_X4_141 X (by decide) dX4_shift_123 (Nat.le_of_ble_eq_true rfl) (c_X4_endBadly hq (by rw [mS_s, h27]; exact hmq) hmq2) ?_
      exact sw_iret X Y dX4_shift_126 (ri_of e7) (by rw [e8, e9]; simp only [up5, up9, mN_mS, mS_mS, mN_mN, mS_s, mN_n, mS_n, mN_s, mS_id, mN_id, rc_s, rc_n])
    ·
      obtain ⟨e7, e8, e9⟩ := sh_0 mq hP h104
      refine sw_aload_0 X dX4_shift_107 ?_
      refine sw_iload_1 X dX4_shift_108 ?_
      refine sw_iload_2 X dX4_shift_109 ?_
      refine ca_X4_161 X (by decide) dX4_shift_110 (Nat.le_of_ble_eq_true rfl) (c_X4_bits) ?_
      refine ca_X4_138 X (by decide) dX4_shift_113 (Nat.le_of_ble_eq_true rfl) (c_X4_endWell hq (by rw [mS_s, h27]; exact hmq) hmq2) ?_
      refine sw_goto X 126 dX4_shift_116 (by decide) ?_
      exact sw_iret X Y dX4_shift_126 (ri_of e7) (by rw [e8, e9]; simp only [up5, up9, mN_mS, mS_mS, mN_mN, mS_s, mN_n, mS_n, mN_s, mS_id, mN_id, rc_s, rc_n])
  have L : ∀ r, r ≤ 16 → (fun r => ∀ s1 n1 e1, shL (M 9 5 0) (fg1 (M 9 9 0) 0) q keys delta r = (s1, n1, e1) → sw_W G K 6 60 [some (.ref (sv_ad G 4 9 0)), some (.int (nI q)), some (.int keys), some (.int delta), some (.int e1), some (.int (nI r))] [] (mS (mN (rcM M t) n1) s1)) r := by
    refine up_ind (N := 16) (P := fun r => ∀ s1 n1 e1, shL (M 9 5 0) (fg1 (M 9 9 0) 0) q keys delta r = (s1, n1, e1) → sw_W G K 6 60 [some (.ref (sv_ad G 4 9 0)), some (.int (nI q)), some (.int keys), some (.int delta), some (.int e1), some (.int (nI r))] [] (mS (mN (rcM M t) n1) s1)) ?_
    intro r hr ih s1 n1 e1 hL
    refine sw_iload_5 X dX4_shift_60 ?_
    refine sw_bipush X (nI 16) dX4_shift_62 (by decide) ?_
    refine sw_icmp_ge X 102 dX4_shift_64 (by decide) (fun h64 => ?_) (fun h64 => ?_)
    ·
      have e : r = 16 := by have := (nI_leI (by omega) (by omega)).mp h64; omega
      subst e
      have hP := hL
      exact LE s1 n1 e1 _ hP
    ·
      have hr3 : r < 16 := by have := mt (nI_leI (by omega) (by omega)).mpr h64; omega
      refine sw_iload_4 X dX4_shift_67 ?_
      refine sw_if_ne X 102 dX4_shift_69 (by decide) (fun h69 => ?_) (fun h69 => ?_)
      ·
        have hP := shL_stay hL h69 (16 - r)
        rw [show r + (16 - r) = 16 by omega] at hP
        exact LE s1 n1 e1 _ hP
      ·
        refine sw_iload_2 X dX4_shift_72 ?_
        refine sw_iload_5 X dX4_shift_73 ?_
        refine ca_X4_40 X (by decide) dX4_shift_75 (Nat.le_of_ble_eq_true rfl) (c_X4_has (by omega)) ?_
        refine sw_ifB_eq X 93 dX4_shift_78 (by decide) (fun h78 => ?_) (fun h78 => ?_)
        ·
          have es := shL_f hL (fun z => h78 z.2)
          refine sw_iconst X e1 dX4_shift_93 (by rw [h69]; decide) ?_
          refine sw_istore_4 X dX4_shift_94 trivial ?_
          first | refine sw_inc1_5 X dX4_shift_96 trivial ?_ | refine sw_iinc_5 X _ dX4_shift_96 rfl trivial ?_
          refine sw_goto X 60 dX4_shift_99 (by decide) ?_
          exact sw_mem (by simp only [mS_s, mN_n, mS_n, mN_s, mN_mS, mN_mN, mS_mS]) (ih (r + 1) (by omega) (by omega) _ _ _ es)
        ·
          have es := shL_t hL h69 h78
          refine sw_aload_0 X dX4_shift_81 ?_
          refine sw_iload_1 X dX4_shift_82 ?_
          refine sw_iload_5 X dX4_shift_83 ?_
          refine sw_iload_3 X dX4_shift_85 ?_
          refine sw_iconst X (nI 1) dX4_shift_86 (by decide) ?_
          refine ca_X4_157 X (by decide) dX4_shift_87 (Nat.le_of_ble_eq_true rfl) (c_X4_add hq hr3) ?_
          refine sw_goto X 94 dX4_shift_90 (by decide) ?_
          refine sw_istore_4 X dX4_shift_94 trivial ?_
          first | refine sw_inc1_5 X dX4_shift_96 trivial ?_ | refine sw_iinc_5 X _ dX4_shift_96 rfl trivial ?_
          refine sw_goto X 60 dX4_shift_99 (by decide) ?_
          exact sw_mem (by simp only [mS_s, mN_n, mS_n, mN_s, mN_mS, mN_mN, mS_mS]) (ih (r + 1) (by omega) (by omega) _ _ _ es)
  refine sw_iload_1 X dX4_shift_0 ?_
  refine ca_X4_68 X (by decide) dX4_shift_1 (Nat.le_of_ble_eq_true rfl) c_X4_isSession ?_
  refine sw_ifB_ne X 9 dX4_shift_4 (by decide) (fun h4 => ?_) (fun h4 => ?_)
  ·
    refine sw_iload_2 X dX4_shift_9 ?_
    refine sw_iconst X (nI 1) dX4_shift_10 (by decide) ?_
    refine sw_ldc X (v := 65535) wk_X4_156 dX4_shift_11 ?_
    refine ca_X4_25 X (by decide) dX4_shift_13 (Nat.le_of_ble_eq_true rfl) c_X4_in ?_
    refine sw_ifB_eq X 32 dX4_shift_16 (by decide) (fun h16 => ?_) (fun h16 => ?_)
    ·
      exact absurd hks h16
    ·
      refine sw_iload_3 X dX4_shift_19 ?_
      refine sw_sipush X (-9999) dX4_shift_20 (by decide) ?_
      refine sw_sipush X (nI 9999) dX4_shift_23 (by decide) ?_
      refine ca_X4_25 X (by decide) dX4_shift_26 (Nat.le_of_ble_eq_true rfl) c_X4_in ?_
      refine sw_ifB_ne X 35 dX4_shift_29 (by decide) (fun h29 => ?_) (fun h29 => ?_)
      ·
        refine sw_aload_0 X dX4_shift_35 ?_
        refine sw_iload_1 X dX4_shift_36 ?_
        refine ca_X4_72 X (by decide) dX4_shift_37 (Nat.le_of_ble_eq_true rfl) (c_X4_isOpen hq) ?_
        refine sw_ifB_ne X 46 dX4_shift_40 (by decide) (fun h40 => ?_) (fun h40 => ?_)
        ·
          refine sw_aload_0 X dX4_shift_46 ?_
          refine ca_X4_65 X (by decide) dX4_shift_47 (Nat.le_of_ble_eq_true rfl) (c_X4_record hkp ht) ?_
          refine sw_aload_0 X dX4_shift_50 ?_
          refine ca_X4_132 X (by decide) dX4_shift_51 (Nat.le_of_ble_eq_true rfl) c_X4_beginStatement ?_
          refine sw_iconst X (nI 0) dX4_shift_54 (by decide) ?_
          refine sw_istore_4 X dX4_shift_55 trivial ?_
          refine sw_iconst X (nI 0) dX4_shift_57 (by decide) ?_
          refine sw_istore_5 X dX4_shift_58 trivial ?_
          exact sw_mem (by rw [rc_n, ← mN_mS, show mS (rcM M t) (M 9 5 0) = rcM M t from by rw [← rc_s M t]; exact mS_id _]) (L 0 (by omega) (M 9 5 0) (fg1 (M 9 9 0) 0) _ rfl)
        ·
          exact absurd ho h40
      ·
        exact absurd hdl h29
  ·
    exact absurd (inR_lt (by omega) (by omega)) h4
set_option maxHeartbeats 4000000 in
set_option maxRecDepth 100000 in
theorem c_X4_shift_n {G : sv_G} {M : sv_Mem} {q : Nat} {keys delta : Int32} (hq : q < 3) (hks : inR keys (nI 1) 65535) (hdl : inR delta (-9999) (nI 9999)) (ho : ¬ M 9 5 0 (24 + q) = nI 1) : sv_Ct G M_X4_shift 4 [.ref (sv_ad G 4 9 0), .int (nI q), .int keys, .int delta] M (some (.int (-4))) (M) := by
  refine sv_Ct_of (lo := [some (.ref (sv_ad G 4 9 0)), some (.int (nI q)), some (.int keys), some (.int delta), none, none]) (pn_X4) rfl (Nat.le_of_ble_eq_true rfl) rfl (fun K X Y => ?_)
  replace X : sv_X G K cX4_shift RX4 6 4 := X
  replace Y : sv_Y G K (some .int) _ _ := Y
  show sw_W G K 6 0 _ _ _
  refine sw_iload_1 X dX4_shift_0 ?_
  refine ca_X4_68 X (by decide) dX4_shift_1 (Nat.le_of_ble_eq_true rfl) c_X4_isSession ?_
  refine sw_ifB_ne X 9 dX4_shift_4 (by decide) (fun h4 => ?_) (fun h4 => ?_)
  ·
    refine sw_iload_2 X dX4_shift_9 ?_
    refine sw_iconst X (nI 1) dX4_shift_10 (by decide) ?_
    refine sw_ldc X (v := 65535) wk_X4_156 dX4_shift_11 ?_
    refine ca_X4_25 X (by decide) dX4_shift_13 (Nat.le_of_ble_eq_true rfl) c_X4_in ?_
    refine sw_ifB_eq X 32 dX4_shift_16 (by decide) (fun h16 => ?_) (fun h16 => ?_)
    ·
      exact absurd hks h16
    ·
      refine sw_iload_3 X dX4_shift_19 ?_
      refine sw_sipush X (-9999) dX4_shift_20 (by decide) ?_
      refine sw_sipush X (nI 9999) dX4_shift_23 (by decide) ?_
      refine ca_X4_25 X (by decide) dX4_shift_26 (Nat.le_of_ble_eq_true rfl) c_X4_in ?_
      refine sw_ifB_ne X 35 dX4_shift_29 (by decide) (fun h29 => ?_) (fun h29 => ?_)
      ·
        refine sw_aload_0 X dX4_shift_35 ?_
        refine sw_iload_1 X dX4_shift_36 ?_
        refine ca_X4_72 X (by decide) dX4_shift_37 (Nat.le_of_ble_eq_true rfl) (c_X4_isOpen hq) ?_
        refine sw_ifB_ne X 46 dX4_shift_40 (by decide) (fun h40 => ?_) (fun h40 => ?_)
        ·
          exact absurd h40 ho
        ·
          refine sw_bipush X (-4) dX4_shift_43 (by decide) ?_
          exact sw_iret X Y dX4_shift_45 (rfl) (rfl)
      ·
        exact absurd hdl h29
  ·
    exact absurd (inR_lt (by omega) (by omega)) h4
set_option maxHeartbeats 4000000 in
set_option maxRecDepth 100000 in
theorem c_X4_shift_b {G : sv_G} {M : sv_Mem} {q : Nat} {keys delta : Int32} (hq : q < 3) (hb : ¬ inR keys (nI 1) 65535 ∨ ¬ inR delta (-9999) (nI 9999)) : sv_Ct G M_X4_shift 4 [.ref (sv_ad G 4 9 0), .int (nI q), .int keys, .int delta] M (some (.int (-2))) (M) := by
  refine sv_Ct_of (lo := [some (.ref (sv_ad G 4 9 0)), some (.int (nI q)), some (.int keys), some (.int delta), none, none]) (pn_X4) rfl (Nat.le_of_ble_eq_true rfl) rfl (fun K X Y => ?_)
  replace X : sv_X G K cX4_shift RX4 6 4 := X
  replace Y : sv_Y G K (some .int) _ _ := Y
  show sw_W G K 6 0 _ _ _
  refine sw_iload_1 X dX4_shift_0 ?_
  refine ca_X4_68 X (by decide) dX4_shift_1 (Nat.le_of_ble_eq_true rfl) c_X4_isSession ?_
  refine sw_ifB_ne X 9 dX4_shift_4 (by decide) (fun h4 => ?_) (fun h4 => ?_)
  ·
    refine sw_iload_2 X dX4_shift_9 ?_
    refine sw_iconst X (nI 1) dX4_shift_10 (by decide) ?_
    refine sw_ldc X (v := 65535) wk_X4_156 dX4_shift_11 ?_
    refine ca_X4_25 X (by decide) dX4_shift_13 (Nat.le_of_ble_eq_true rfl) c_X4_in ?_
    refine sw_ifB_eq X 32 dX4_shift_16 (by decide) (fun h16 => ?_) (fun h16 => ?_)
    ·
      refine sw_bipush X (-2) dX4_shift_32 (by decide) ?_
      exact sw_iret X Y dX4_shift_34 (rfl) (rfl)
    ·
      refine sw_iload_3 X dX4_shift_19 ?_
      refine sw_sipush X (-9999) dX4_shift_20 (by decide) ?_
      refine sw_sipush X (nI 9999) dX4_shift_23 (by decide) ?_
      refine ca_X4_25 X (by decide) dX4_shift_26 (Nat.le_of_ble_eq_true rfl) c_X4_in ?_
      refine sw_ifB_ne X 35 dX4_shift_29 (by decide) (fun h29 => ?_) (fun h29 => ?_)
      ·
        exact absurd hb (fun z => z.elim (fun w => w h16) (fun w => w h29))
      ·
        refine sw_bipush X (-2) dX4_shift_32 (by decide) ?_
        exact sw_iret X Y dX4_shift_34 (rfl) (rfl)
  ·
    exact absurd (inR_lt (by omega) (by omega)) h4
set_option maxHeartbeats 4000000 in
set_option maxRecDepth 100000 in
theorem c_X4_shift_x {G : sv_G} {M : sv_Mem} {v keys delta : Int32} (hv : ¬ inR v (nI 0) (nI 2)) : sv_Ct G M_X4_shift 4 [.ref (sv_ad G 4 9 0), .int v, .int keys, .int delta] M (some (.int (-1))) (M) := by
  refine sv_Ct_of (lo := [some (.ref (sv_ad G 4 9 0)), some (.int v), some (.int keys), some (.int delta), none, none]) (pn_X4) rfl (Nat.le_of_ble_eq_true rfl) rfl (fun K X Y => ?_)
  replace X : sv_X G K cX4_shift RX4 6 4 := X
  replace Y : sv_Y G K (some .int) _ _ := Y
  show sw_W G K 6 0 _ _ _
  refine sw_iload_1 X dX4_shift_0 ?_
  refine ca_X4_68 X (by decide) dX4_shift_1 (Nat.le_of_ble_eq_true rfl) c_X4_isSession ?_
  refine sw_ifB_ne X 9 dX4_shift_4 (by decide) (fun h4 => ?_) (fun h4 => ?_)
  ·
    exact absurd h4 hv
  ·
    refine sw_iconst X (-1) dX4_shift_7 (by decide) ?_
    exact sw_iret X Y dX4_shift_8 (rfl) (rfl)
