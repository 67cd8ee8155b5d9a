/-- the first row from r on, of c, that has key k: what stands there; else dflt -/
def fvR (ck vb : Nat → Int32) (k : Nat) (dflt : Int32) : Nat → Nat → Int32
  | 0, _ => dflt
  | c + 1, r => if bt (ck r) k = true then vb r else fvR ck vb k dflt c (r + 1)
/-- all sets of c rows from r on -/
def sncR (f : Nat → Int32) : Nat → Nat → Int32 → Int32
  | 0, _, acc => acc
  | c + 1, r, acc => sncR f c (r + 1) (acc ||| f r)
abbrev bfR (s : Nat → Int32) (q k c m : Nat) : Int32 := fvR (fun r => s (rAt q r + 0)) (fun r => s (rAt q r + 3 + k)) k (s (8 + k)) c m
abbrev mbR (s : Nat → Int32) (q k c m : Nat) : Int32 := fvR (fun r => s (rAt q r + 1)) (fun r => md (s (rAt q r + 2)) k) k (md (s (30 + q)) k) c m
def jnM (a b la lb : Int32) : Nat → Int32
  | 0 => a
  | c + 1 => if bt lb c = true ∧ ¬ bt la c = true then sm (jnM a b la lb c) c (md b c) else jnM a b la lb c
def jnP (to fr : Nat → Int32) (t f c : Nat) : Nat → Int32 := fun n => if n = t + 2 then jnM (to (t + 2)) (fr (f + 2)) (to (t + 1)) (fr (f + 1)) c else if t + 3 ≤ n ∧ n < t + 3 + c ∧ bt (fr (f + 0)) (n - (t + 3)) = true ∧ ¬ bt (to (t + 0)) (n - (t + 3)) = true then fr (f + 3 + (n - (t + 3))) else to n
def jnA (to fr : Nat → Int32) (t f c : Nat) : Nat → Int32 := if bt (fr (f + 0)) c = true ∧ ¬ bt (to (t + 0)) c = true then va_up (jnP to fr t f c) (t + 3 + c) (fr (f + 3 + c)) else jnP to fr t f c
def jnF (to fr : Nat → Int32) (t f : Nat) : Nat → Int32 := va_up (va_up (jnP to fr t f 16) (t + 0) (to (t + 0) ||| fr (f + 0))) (t + 1) (to (t + 1) ||| fr (f + 1))
theorem jnP_0 (to fr : Nat → Int32) (t f : Nat) : jnP to fr t f 0 = to := by
  funext n
  unfold jnP jnM
  by_cases h : n = t + 2
  · rw [if_pos h, h]
  · rw [if_neg h, if_neg (by omega)]
theorem jnP_out {to fr : Nat → Int32} {t f c n : Nat} (h : n < t + 2 ∨ t + 3 + c ≤ n) : jnP to fr t f c n = to n := by
  unfold jnP
  rw [if_neg (by omega), if_neg (by omega)]
theorem jnP_m {to fr : Nat → Int32} {t f c : Nat} : jnP to fr t f c (t + 2) = jnM (to (t + 2)) (fr (f + 2)) (to (t + 1)) (fr (f + 1)) c := by
  unfold jnP
  rw [if_pos rfl]
theorem jnA_out {to fr : Nat → Int32} {t f c n : Nat} (h : n < t + 3 ∨ t + 3 + c + 1 ≤ n) : jnA to fr t f c n = jnP to fr t f c n := by
  unfold jnA
  split
  · rw [va_up_ne _ _ (by omega)]
  · rfl
theorem jnP_step (to fr : Nat → Int32) (t f c : Nat) : jnP to fr t f (c + 1) = if bt (fr (f + 1)) c = true ∧ ¬ bt (to (t + 1)) c = true then va_up (jnA to fr t f c) (t + 2) (sm (jnP to fr t f c (t + 2)) c (md (fr (f + 2)) c)) else jnA to fr t f c := by
  funext n
  by_cases h : n = t + 2
  · subst h
    rw [jnP_m]
    unfold jnM
    split
    · rw [va_up_self, jnP_m]
    · rw [jnA_out (by omega), jnP_m]
  · have e : (if bt (fr (f + 1)) c = true ∧ ¬ bt (to (t + 1)) c = true then va_up (jnA to fr t f c) (t + 2) (sm (jnP to fr t f c (t + 2)) c (md (fr (f + 2)) c)) else jnA to fr t f c) n = jnA to fr t f c n := by
      split
      · rw [va_up_ne _ _ h]
      · rfl
    rw [e]
    by_cases h2 : n = t + 3 + c
    · subst h2
      unfold jnA
      split <;> rename_i h3
      · rw [va_up_self]
        unfold jnP
        rw [if_neg h, if_pos ⟨by omega, by omega, by rw [show t + 3 + c - (t + 3) = c by omega]; exact h3⟩, show t + 3 + c - (t + 3) = c by omega]
      · rw [jnP_out (c := c) (by omega)]
        unfold jnP
        rw [if_neg h, if_neg]
        intro ⟨_, _, h4⟩
        rw [show t + 3 + c - (t + 3) = c by omega] at h4
        exact h3 h4
    · have e2 : jnA to fr t f c n = jnP to fr t f c n := by
        unfold jnA
        split
        · rw [va_up_ne _ _ h2]
        · rfl
      rw [e2]
      unfold jnP
      rw [if_neg h, if_neg h]
      by_cases h5 : t + 3 ≤ n ∧ n < t + 3 + c ∧ bt (fr (f + 0)) (n - (t + 3)) = true ∧ ¬ bt (to (t + 0)) (n - (t + 3)) = true
      · rw [if_pos h5, if_pos ⟨h5.1, by omega, h5.2.2⟩]
      · rw [if_neg h5, if_neg (fun z => h5 ⟨z.1, by omega, z.2.2⟩)]

set_option maxHeartbeats 4000000 in
set_option maxRecDepth 100000 in
theorem c_X4_takes {G : sv_G} {M : sv_Mem} {q k : Nat} {mode : Int32} (hq : q < 3) (hk : k < 16) : sv_Ct G M_X4_takes 2 [.ref (sv_ad G 4 9 0), .int (nI q), .int (nI k), .int mode] M (some (.int (bI (¬ busyR (M 9 5 0) q k mode)))) (if busyR (M 9 5 0) q k mode then M else mS (mN M (takesN (M 9 5 0) (M 9 9 0) q k mode)) (takesS (M 9 5 0) q k mode)) := by
  refine sv_Ct_of (lo := [some (.ref (sv_ad G 4 9 0)), some (.int (nI q)), some (.int (nI k)), some (.int mode), none]) (pn_X4) rfl (Nat.le_of_ble_eq_true rfl) rfl (fun K X Y => ?_)
  replace X : sv_X G K cX4_takes RX4 5 2 := X
  replace Y : sv_Y G K (some .boolean) _ _ := Y
  show sw_W G K 5 0 _ _ _
  refine sw_aload_0 X dX4_takes_0 ?_
  refine sw_iload_1 X dX4_takes_1 ?_
  refine sw_iload_2 X dX4_takes_2 ?_
  refine sw_iload_3 X dX4_takes_3 ?_
  refine ca_X4_37 X (by decide) dX4_takes_4 (Nat.le_of_ble_eq_true rfl) (c_X4_isBusy hq hk) ?_
  refine sw_ifB_eq X 12 dX4_takes_7 (by decide) (fun h7 => ?_) (fun h7 => ?_)
  ·
    refine sw_aload_0 X dX4_takes_12 ?_
    refine sw_iload_1 X dX4_takes_13 ?_
    refine sw_iload_2 X dX4_takes_14 ?_
    refine ca_X4_33 X (by decide) dX4_takes_15 (Nat.le_of_ble_eq_true rfl) (c_X4_modeOf hq hk) ?_
    refine sw_istore_4 X dX4_takes_18 trivial ?_
    refine sw_iload_4 X dX4_takes_20 ?_
    refine sw_iload_3 X dX4_takes_22 ?_
    refine sw_icmp_ge X 92 dX4_takes_23 (by decide) (fun h23 => ?_) (fun h23 => ?_)
    ·
      replace h23 : ¬ md (M 9 5 0 (30 + q)) k < mode := Int32.not_lt.mpr h23
      refine sw_iconst X (nI 1) dX4_takes_92 (by decide) ?_
      exact sw_zret X Y dX4_takes_93 (by first | rfl | exact sv_nzB) (rb_t h7) (by rw [if_neg h7]; unfold takesN takesS; first | (rw [if_neg h23, if_neg h23]; simp only [up5, up9, mN_mS, mS_mS, mN_mN, mS_s, mN_n, mS_id, mN_id]; done) | (rw [if_pos (Int32.not_le.mp h23), if_pos (Int32.not_le.mp h23), if_pos h36]; simp only [up5, up9, mN_mS, mS_mS, mN_mN, mS_s, mN_n, mS_id, mN_id]; done) | (rw [if_pos (Int32.not_le.mp h23), if_pos (Int32.not_le.mp h23), if_neg h36]; simp only [up5, up9, mN_mS, mS_mS, mN_mN, mS_s, mN_n, mS_id, mN_id]; rfl))
    ·
      refine sw_aload_0 X dX4_takes_26 ?_
      refine gf_X4_22 X dX4_takes_27 ?_
      refine sw_iconst X (nI 1) dX4_takes_30 (by decide) ?_
      refine ia_9 X rfl (by omega) dX4_takes_31 ?_
      refine sw_iload_2 X dX4_takes_32 ?_
      refine ca_X4_40 X (by decide) dX4_takes_33 (Nat.le_of_ble_eq_true rfl) (c_X4_has (by omega)) ?_
      refine sw_ifB_ne X 69 dX4_takes_36 (by decide) (fun h36 => ?_) (fun h36 => ?_)
      ·
        refine sw_aload_0 X dX4_takes_69 ?_
        refine gf_X4_7 X dX4_takes_70 ?_
        refine sw_bipush X (nI 30) dX4_takes_73 (by decide) ?_
        refine sw_iload_1 X dX4_takes_75 ?_
        refine sw_iadd X dX4_takes_76 ?_
        try refine sw_tope (nI_add _ _) ?_
        refine sw_aload_0 X dX4_takes_77 ?_
        refine gf_X4_7 X dX4_takes_78 ?_
        refine sw_bipush X (nI 30) dX4_takes_81 (by decide) ?_
        refine sw_iload_1 X dX4_takes_83 ?_
        refine sw_iadd X dX4_takes_84 ?_
        try refine sw_tope (nI_add _ _) ?_
        refine ia_5 X rfl (by omega) dX4_takes_85 ?_
        refine sw_iload_2 X dX4_takes_86 ?_
        refine sw_iload_3 X dX4_takes_87 ?_
        refine ca_X4_44 X (by decide) dX4_takes_88 (Nat.le_of_ble_eq_true rfl) (c_X4_withMode hk) ?_
        refine is_5 X rfl (by omega) dX4_takes_91 ?_
        refine sw_iconst X (nI 1) dX4_takes_92 (by decide) ?_
        exact sw_zret X Y dX4_takes_93 (by first | rfl | exact sv_nzB) (rb_t h7) (by rw [if_neg h7]; unfold takesN takesS; first | (rw [if_neg h23, if_neg h23]; simp only [up5, up9, mN_mS, mS_mS, mN_mN, mS_s, mN_n, mS_id, mN_id]; done) | (rw [if_pos (Int32.not_le.mp h23), if_pos (Int32.not_le.mp h23), if_pos h36]; simp only [up5, up9, mN_mS, mS_mS, mN_mN, mS_s, mN_n, mS_id, mN_id]; done) | (rw [if_pos (Int32.not_le.mp h23), if_pos (Int32.not_le.mp h23), if_neg h36]; simp only [up5, up9, mN_mS, mS_mS, mN_mN, mS_s, mN_n, mS_id, mN_id]; rfl))
      ·
        refine sw_aload_0 X dX4_takes_39 ?_
        refine gf_X4_22 X dX4_takes_40 ?_
        refine sw_iconst X (nI 1) dX4_takes_43 (by decide) ?_
        refine sw_dup2 X dX4_takes_44 rfl rfl ?_
        refine ia_9 X rfl (by omega) dX4_takes_45 ?_
        refine sw_iconst X (nI 1) dX4_takes_46 (by decide) ?_
        refine sw_iload_2 X dX4_takes_47 ?_
        refine sw_ishl X dX4_takes_48 ?_
        refine sw_ior X dX4_takes_49 ?_
        refine is_9 X rfl (by omega) dX4_takes_50 ?_
        refine sw_aload_0 X dX4_takes_51 ?_
        refine gf_X4_22 X dX4_takes_52 ?_
        refine sw_iconst X (nI 2) dX4_takes_55 (by decide) ?_
        refine sw_aload_0 X dX4_takes_56 ?_
        refine gf_X4_22 X dX4_takes_57 ?_
        refine sw_iconst X (nI 2) dX4_takes_60 (by decide) ?_
        refine ia_9 X rfl (by omega) dX4_takes_61 ?_
        refine sw_iload_2 X dX4_takes_62 ?_
        refine sw_iload_4 X dX4_takes_63 ?_
        refine ca_X4_44 X (by decide) dX4_takes_65 (Nat.le_of_ble_eq_true rfl) (c_X4_withMode hk) ?_
        refine is_9 X rfl (by omega) dX4_takes_68 ?_
        refine sw_aload_0 X dX4_takes_69 ?_
        refine gf_X4_7 X dX4_takes_70 ?_
        refine sw_bipush X (nI 30) dX4_takes_73 (by decide) ?_
        refine sw_iload_1 X dX4_takes_75 ?_
        refine sw_iadd X dX4_takes_76 ?_
        try refine sw_tope (nI_add _ _) ?_
        refine sw_aload_0 X dX4_takes_77 ?_
        refine gf_X4_7 X dX4_takes_78 ?_
        refine sw_bipush X (nI 30) dX4_takes_81 (by decide) ?_
        refine sw_iload_1 X dX4_takes_83 ?_
        refine sw_iadd X dX4_takes_84 ?_
        try refine sw_tope (nI_add _ _) ?_
        refine ia_5 X rfl (by omega) dX4_takes_85 ?_
        refine sw_iload_2 X dX4_takes_86 ?_
        refine sw_iload_3 X dX4_takes_87 ?_
        refine ca_X4_44 X (by decide) dX4_takes_88 (Nat.le_of_ble_eq_true rfl) (c_X4_withMode hk) ?_
        refine is_5 X rfl (by omega) dX4_takes_91 ?_
        refine sw_iconst X (nI 1) dX4_takes_92 (by decide) ?_
        exact sw_zret X Y dX4_takes_93 (by first | rfl | exact sv_nzB) (rb_t h7) (by rw [if_neg h7]; unfold takesN takesS; first | (rw [if_neg h23, if_neg h23]; simp only [up5, up9, mN_mS, mS_mS, mN_mN, mS_s, mN_n, mS_id, mN_id]; done) | (rw [if_pos (Int32.not_le.mp h23), if_pos (Int32.not_le.mp h23), if_pos h36]; simp only [up5, up9, mN_mS, mS_mS, mN_mN, mS_s, mN_n, mS_id, mN_id]; done) | (rw [if_pos (Int32.not_le.mp h23), if_pos (Int32.not_le.mp h23), if_neg h36]; simp only [up5, up9, mN_mS, mS_mS, mN_mN, mS_s, mN_n, mS_id, mN_id]; rfl))
  ·
    refine sw_iconst X (nI 0) dX4_takes_10 (by decide) ?_
    exact sw_zret X Y dX4_takes_11 (by first | rfl | exact sv_nzB) (rb_f (fun z => z h7)) (if_pos h7)
set_option maxHeartbeats 4000000 in
set_option maxRecDepth 100000 in
theorem c_X4_change {G : sv_G} {M : sv_Mem} {k : Nat} {v : Int32} (hk : k < 16) : sv_Ct G M_X4_change 1 [.ref (sv_ad G 4 9 0), .int (nI k), .int v] M (none) (mS (mN M (chgN (M 9 5 0) (M 9 9 0) k)) (chgS (M 9 5 0) k v)) := by
  refine sv_Ct_of (lo := [some (.ref (sv_ad G 4 9 0)), some (.int (nI k)), some (.int v)]) (pn_X4) rfl (Nat.le_of_ble_eq_true rfl) rfl (fun K X Y => ?_)
  replace X : sv_X G K cX4_change RX4 3 1 := X
  replace Y : sv_Y G K none _ _ := Y
  show sw_W G K 3 0 _ _ _
  refine sw_aload_0 X dX4_change_0 ?_
  refine gf_X4_22 X dX4_change_1 ?_
  refine sw_iconst X (nI 0) dX4_change_4 (by decide) ?_
  refine ia_9 X rfl (by omega) dX4_change_5 ?_
  refine sw_iload_1 X dX4_change_6 ?_
  refine ca_X4_40 X (by decide) dX4_change_7 (Nat.le_of_ble_eq_true rfl) (c_X4_has (by omega)) ?_
  refine sw_ifB_ne X 42 dX4_change_10 (by decide) (fun h10 => ?_) (fun h10 => ?_)
  ·
    refine sw_aload_0 X dX4_change_42 ?_
    refine gf_X4_7 X dX4_change_43 ?_
    refine sw_bipush X (nI 8) dX4_change_46 (by decide) ?_
    refine sw_iload_1 X dX4_change_48 ?_
    refine sw_iadd X dX4_change_49 ?_
    try refine sw_tope (nI_add _ _) ?_
    refine sw_iload_2 X dX4_change_50 ?_
    refine is_5 X rfl (by omega) dX4_change_51 ?_
    exact sw_vret X Y dX4_change_52 rfl (by unfold chgN chgS; first | (rw [if_pos h10]; simp only [up5, up9, mN_mS, mS_mS, mN_mN, mS_s, mN_n, mS_id, mN_id]; done) | (rw [if_neg h10]; simp only [up5, up9, mN_mS, mS_mS, mN_mN, mS_s, mN_n, mS_id, mN_id]; rfl))
  ·
    refine sw_aload_0 X dX4_change_13 ?_
    refine gf_X4_22 X dX4_change_14 ?_
    refine sw_iconst X (nI 0) dX4_change_17 (by decide) ?_
    refine sw_dup2 X dX4_change_18 rfl rfl ?_
    refine ia_9 X rfl (by omega) dX4_change_19 ?_
    refine sw_iconst X (nI 1) dX4_change_20 (by decide) ?_
    refine sw_iload_1 X dX4_change_21 ?_
    refine sw_ishl X dX4_change_22 ?_
    refine sw_ior X dX4_change_23 ?_
    refine is_9 X rfl (by omega) dX4_change_24 ?_
    refine sw_aload_0 X dX4_change_25 ?_
    refine gf_X4_22 X dX4_change_26 ?_
    refine sw_iconst X (nI 3) dX4_change_29 (by decide) ?_
    refine sw_iload_1 X dX4_change_30 ?_
    refine sw_iadd X dX4_change_31 ?_
    try refine sw_tope (nI_add _ _) ?_
    refine sw_aload_0 X dX4_change_32 ?_
    refine gf_X4_7 X dX4_change_33 ?_
    refine sw_bipush X (nI 8) dX4_change_36 (by decide) ?_
    refine sw_iload_1 X dX4_change_38 ?_
    refine sw_iadd X dX4_change_39 ?_
    try refine sw_tope (nI_add _ _) ?_
    refine ia_5 X rfl (by omega) dX4_change_40 ?_
    refine is_9 X rfl (by omega) dX4_change_41 ?_
    refine sw_aload_0 X dX4_change_42 ?_
    refine gf_X4_7 X dX4_change_43 ?_
    refine sw_bipush X (nI 8) dX4_change_46 (by decide) ?_
    refine sw_iload_1 X dX4_change_48 ?_
    refine sw_iadd X dX4_change_49 ?_
    try refine sw_tope (nI_add _ _) ?_
    refine sw_iload_2 X dX4_change_50 ?_
    refine is_5 X rfl (by omega) dX4_change_51 ?_
    exact sw_vret X Y dX4_change_52 rfl (by unfold chgN chgS; first | (rw [if_pos h10]; simp only [up5, up9, mN_mS, mS_mS, mN_mN, mS_s, mN_n, mS_id, mN_id]; done) | (rw [if_neg h10]; simp only [up5, up9, mN_mS, mS_mS, mN_mN, mS_s, mN_n, mS_id, mN_id]; rfl))
set_option maxHeartbeats 4000000 in
set_option maxRecDepth 100000 in
theorem c_X4_join_5 {G : sv_G} {M : sv_Mem} {t f : Nat} (ht : t + 19 ≤ 810) (hf : f + 19 ≤ 810) (hdis : f + 19 ≤ t ∨ t + 19 ≤ f) : sv_Ct G M_X4_join 1 [.ref (sv_ad G 5 9 0), .int (nI t), .ref (sv_ad G 5 9 0), .int (nI f)] M (none) (mS M (jnF (M 9 5 0) (M 9 5 0) t f)) := by
  refine sv_Ct_of (lo := [some (.ref (sv_ad G 5 9 0)), some (.int (nI t)), some (.ref (sv_ad G 5 9 0)), some (.int (nI f)), none]) (pn_X4) rfl (Nat.le_of_ble_eq_true rfl) rfl (fun K X Y => ?_)
  replace X : sv_X G K cX4_join RX4 5 1 := X
  replace Y : sv_Y G K none _ _ := Y
  show sw_W G K 5 0 _ _ _
  have L : ∀ r, r ≤ 16 → (fun r => sw_W G K 5 3 [some (.ref (sv_ad G 5 9 0)), some (.int (nI t)), some (.ref (sv_ad G 5 9 0)), some (.int (nI f)), some (.int (nI r))] [] (mS M (jnP (M 9 5 0) (M 9 5 0) t f r))) r := by
    refine up_ind (N := 16) (P := fun r => sw_W G K 5 3 [some (.ref (sv_ad G 5 9 0)), some (.int (nI t)), some (.ref (sv_ad G 5 9 0)), some (.int (nI f)), some (.int (nI r))] [] (mS M (jnP (M 9 5 0) (M 9 5 0) t f r))) ?_
    intro r hr ih
    show sw_W _ _ _ _ _ _ _
    refine sw_iload_4 X dX4_join_3 ?_
    refine sw_bipush X (nI 16) dX4_join_5 (by decide) ?_
    refine sw_icmp_ge X 111 dX4_join_7 (by decide) (fun h7 => ?_) (fun h7 => ?_)
    ·
      have e : r = 16 := by have := (nI_leI (by omega) (by omega)).mp h7; omega
      subst e
      refine sw_aload_0 X dX4_join_111 ?_
      refine sw_iload_1 X dX4_join_112 ?_
      refine sw_iconst X (nI 0) dX4_join_113 (by decide) ?_
      refine sw_iadd X dX4_join_114 ?_
      try refine sw_tope (nI_add _ _) ?_
      refine sw_dup2 X dX4_join_115 rfl rfl ?_
      refine ia_5 X rfl (by omega) dX4_join_116 ?_
      refine sw_tope (v2 := (M 9 5 0) (t + 0)) (by rw [mS_s]; exact jnP_out (by omega)) ?_
      refine sw_aload_2 X dX4_join_117 ?_
      refine sw_iload_3 X dX4_join_118 ?_
      refine sw_iconst X (nI 0) dX4_join_119 (by decide) ?_
      refine sw_iadd X dX4_join_120 ?_
      try refine sw_tope (nI_add _ _) ?_
      refine ia_5 X rfl (by omega) dX4_join_121 ?_
      refine sw_tope (v2 := (M 9 5 0) (f + 0)) (by rw [mS_s]; exact jnP_out (by omega)) ?_
      refine sw_ior X dX4_join_122 ?_
      refine is_5 X rfl (by omega) dX4_join_123 ?_
      refine sw_aload_0 X dX4_join_124 ?_
      refine sw_iload_1 X dX4_join_125 ?_
      refine sw_iconst X (nI 1) dX4_join_126 (by decide) ?_
      refine sw_iadd X dX4_join_127 ?_
      try refine sw_tope (nI_add _ _) ?_
      refine sw_dup2 X dX4_join_128 rfl rfl ?_
      refine ia_5 X rfl (by omega) dX4_join_129 ?_
      refine sw_tope (v2 := (M 9 5 0) (t + 1)) (by simp only [up5, up9, mN_mS, mS_mS, mN_mN, mS_s, mN_n, mS_id, mN_id]; rw [va_up_ne _ _ (by omega)]; exact jnP_out (by omega)) ?_
      refine sw_aload_2 X dX4_join_130 ?_
      refine sw_iload_3 X dX4_join_131 ?_
      refine sw_iconst X (nI 1) dX4_join_132 (by decide) ?_
      refine sw_iadd X dX4_join_133 ?_
      try refine sw_tope (nI_add _ _) ?_
      refine ia_5 X rfl (by omega) dX4_join_134 ?_
      refine sw_tope (v2 := (M 9 5 0) (f + 1)) (by simp only [up5, up9, mN_mS, mS_mS, mN_mN, mS_s, mN_n, mS_id, mN_id]; rw [va_up_ne _ _ (by omega)]; exact jnP_out (by omega)) ?_
      refine sw_ior X dX4_join_135 ?_
      refine is_5 X rfl (by omega) dX4_join_136 ?_
      exact sw_vret X Y dX4_join_137 rfl (by simp only [up5, up9, mN_mS, mS_mS, mN_mN, mS_s, mN_n, mS_id, mN_id]; rfl)
    ·
      have hr3 : r < 16 := by have := mt (nI_leI (by omega) (by omega)).mpr h7; omega
      have J : ∀ A, A = jnA (M 9 5 0) (M 9 5 0) t f r → sw_W G K 5 52 [some (.ref (sv_ad G 5 9 0)), some (.int (nI t)), some (.ref (sv_ad G 5 9 0)), some (.int (nI f)), some (.int (nI r))] [] (mS M A) := by
        intro A hA
        refine sw_aload_2 X dX4_join_52 ?_
        refine sw_iload_3 X dX4_join_53 ?_
        refine sw_iconst X (nI 1) dX4_join_54 (by decide) ?_
        refine sw_iadd X dX4_join_55 ?_
        try refine sw_tope (nI_add _ _) ?_
        refine ia_5 X rfl (by omega) dX4_join_56 ?_
        refine sw_tope (v2 := (M 9 5 0) (f + 1)) (by rw [mS_s]; rw [hA, jnA_out (by omega)]; exact jnP_out (by omega)) ?_
        refine sw_iload_4 X dX4_join_57 ?_
        refine ca_X4_40 X (by decide) dX4_join_59 (Nat.le_of_ble_eq_true rfl) (c_X4_has (by omega)) ?_
        refine sw_ifB_eq X 105 dX4_join_62 (by decide) (fun h62 => ?_) (fun h62 => ?_)
        ·
          refine sw_mem (M2 := mS M (jnP (M 9 5 0) (M 9 5 0) t f (r + 1))) ?_ (sw_inc1_4 X dX4_join_105 trivial (sw_goto X 3 dX4_join_108 (by decide) (ih (r + 1) (by omega) (by omega))))
          try simp only [up5, up9, mN_mS, mS_mS, mN_mN, mS_s, mN_n, mS_id, mN_id]
          rw [jnP_step, hA]
          first | (rw [if_pos ⟨h62, h75⟩]; rfl) | (rw [if_neg (fun z => h62 z.1)]) | (rw [if_neg (fun z => z.2 h75)])
        ·
          refine sw_aload_0 X dX4_join_65 ?_
          refine sw_iload_1 X dX4_join_66 ?_
          refine sw_iconst X (nI 1) dX4_join_67 (by decide) ?_
          refine sw_iadd X dX4_join_68 ?_
          try refine sw_tope (nI_add _ _) ?_
          refine ia_5 X rfl (by omega) dX4_join_69 ?_
          refine sw_tope (v2 := (M 9 5 0) (t + 1)) (by rw [mS_s]; rw [hA, jnA_out (by omega)]; exact jnP_out (by omega)) ?_
          refine sw_iload_4 X dX4_join_70 ?_
          refine ca_X4_40 X (by decide) dX4_join_72 (Nat.le_of_ble_eq_true rfl) (c_X4_has (by omega)) ?_
          refine sw_ifB_ne X 105 dX4_join_75 (by decide) (fun h75 => ?_) (fun h75 => ?_)
          ·
            refine sw_mem (M2 := mS M (jnP (M 9 5 0) (M 9 5 0) t f (r + 1))) ?_ (sw_inc1_4 X dX4_join_105 trivial (sw_goto X 3 dX4_join_108 (by decide) (ih (r + 1) (by omega) (by omega))))
            try simp only [up5, up9, mN_mS, mS_mS, mN_mN, mS_s, mN_n, mS_id, mN_id]
            rw [jnP_step, hA]
            first | (rw [if_pos ⟨h62, h75⟩]; rfl) | (rw [if_neg (fun z => h62 z.1)]) | (rw [if_neg (fun z => z.2 h75)])
          ·
            refine sw_aload_0 X dX4_join_78 ?_
            refine sw_iload_1 X dX4_join_79 ?_
            refine sw_iconst X (nI 2) dX4_join_80 (by decide) ?_
            refine sw_iadd X dX4_join_81 ?_
            try refine sw_tope (nI_add _ _) ?_
            refine sw_aload_0 X dX4_join_82 ?_
            refine sw_iload_1 X dX4_join_83 ?_
            refine sw_iconst X (nI 2) dX4_join_84 (by decide) ?_
            refine sw_iadd X dX4_join_85 ?_
            try refine sw_tope (nI_add _ _) ?_
            refine ia_5 X rfl (by omega) dX4_join_86 ?_
            refine sw_tope (v2 := jnP (M 9 5 0) (M 9 5 0) t f r (t + 2)) (by rw [mS_s, hA, jnA_out (by omega)]) ?_
            refine sw_iload_4 X dX4_join_87 ?_
            refine sw_aload_2 X dX4_join_89 ?_
            refine sw_iload_3 X dX4_join_90 ?_
            refine sw_iconst X (nI 2) dX4_join_91 (by decide) ?_
            refine sw_iadd X dX4_join_92 ?_
            try refine sw_tope (nI_add _ _) ?_
            refine ia_5 X rfl (by omega) dX4_join_93 ?_
            refine sw_tope (v2 := (M 9 5 0) (f + 2)) (by rw [mS_s]; rw [hA, jnA_out (by omega)]; exact jnP_out (by omega)) ?_
            refine sw_iconst X (nI 2) dX4_join_94 (by decide) ?_
            refine sw_iload_4 X dX4_join_95 ?_
            refine sw_imul X dX4_join_97 ?_
            try refine sw_tope (pk_mul _ _) ?_
            refine sw_ishr X dX4_join_98 ?_
            refine sw_iconst X (nI 3) dX4_join_99 (by decide) ?_
            refine sw_iand X dX4_join_100 ?_
            refine ca_X4_44 X (by decide) dX4_join_101 (Nat.le_of_ble_eq_true rfl) (c_X4_withMode hr3) ?_
            refine is_5 X rfl (by omega) dX4_join_104 ?_
            refine sw_mem (M2 := mS M (jnP (M 9 5 0) (M 9 5 0) t f (r + 1))) ?_ (sw_inc1_4 X dX4_join_105 trivial (sw_goto X 3 dX4_join_108 (by decide) (ih (r + 1) (by omega) (by omega))))
            try simp only [up5, up9, mN_mS, mS_mS, mN_mN, mS_s, mN_n, mS_id, mN_id]
            rw [jnP_step, hA]
            first | (rw [if_pos ⟨h62, h75⟩]; rfl) | (rw [if_neg (fun z => h62 z.1)]) | (rw [if_neg (fun z => z.2 h75)])
      refine sw_aload_2 X dX4_join_10 ?_
      refine sw_iload_3 X dX4_join_11 ?_
      refine sw_iconst X (nI 0) dX4_join_12 (by decide) ?_
      refine sw_iadd X dX4_join_13 ?_
      try refine sw_tope (nI_add _ _) ?_
      refine ia_5 X rfl (by omega) dX4_join_14 ?_
      refine sw_tope (v2 := (M 9 5 0) (f + 0)) (by rw [mS_s]; exact jnP_out (by omega)) ?_
      refine sw_iload_4 X dX4_join_15 ?_
      refine ca_X4_40 X (by decide) dX4_join_17 (Nat.le_of_ble_eq_true rfl) (c_X4_has (by omega)) ?_
      refine sw_ifB_eq X 52 dX4_join_20 (by decide) (fun h20 => ?_) (fun h20 => ?_)
      ·
        first | (rw [up5]; simp only [up5, up9, mN_mS, mS_mS, mN_mN, mS_s, mN_n, mS_id, mN_id]; exact J _ (by unfold jnA; rw [if_pos ⟨h20, h33⟩])) | (exact J _ (by unfold jnA; rw [if_neg (fun z => h20 z.1)])) | (exact J _ (by unfold jnA; rw [if_neg (fun z => z.2 h33)]))
      ·
        refine sw_aload_0 X dX4_join_23 ?_
        refine sw_iload_1 X dX4_join_24 ?_
        refine sw_iconst X (nI 0) dX4_join_25 (by decide) ?_
        refine sw_iadd X dX4_join_26 ?_
        try refine sw_tope (nI_add _ _) ?_
        refine ia_5 X rfl (by omega) dX4_join_27 ?_
        refine sw_tope (v2 := (M 9 5 0) (t + 0)) (by rw [mS_s]; exact jnP_out (by omega)) ?_
        refine sw_iload_4 X dX4_join_28 ?_
        refine ca_X4_40 X (by decide) dX4_join_30 (Nat.le_of_ble_eq_true rfl) (c_X4_has (by omega)) ?_
        refine sw_ifB_ne X 52 dX4_join_33 (by decide) (fun h33 => ?_) (fun h33 => ?_)
        ·
          first | (rw [up5]; simp only [up5, up9, mN_mS, mS_mS, mN_mN, mS_s, mN_n, mS_id, mN_id]; exact J _ (by unfold jnA; rw [if_pos ⟨h20, h33⟩])) | (exact J _ (by unfold jnA; rw [if_neg (fun z => h20 z.1)])) | (exact J _ (by unfold jnA; rw [if_neg (fun z => z.2 h33)]))
        ·
          refine sw_aload_0 X dX4_join_36 ?_
          refine sw_iload_1 X dX4_join_37 ?_
          refine sw_iconst X (nI 3) dX4_join_38 (by decide) ?_
          refine sw_iadd X dX4_join_39 ?_
          try refine sw_tope (nI_add _ _) ?_
          refine sw_iload_4 X dX4_join_40 ?_
          refine sw_iadd X dX4_join_42 ?_
          try refine sw_tope (nI_add _ _) ?_
          refine sw_aload_2 X dX4_join_43 ?_
          refine sw_iload_3 X dX4_join_44 ?_
          refine sw_iconst X (nI 3) dX4_join_45 (by decide) ?_
          refine sw_iadd X dX4_join_46 ?_
          try refine sw_tope (nI_add _ _) ?_
          refine sw_iload_4 X dX4_join_47 ?_
          refine sw_iadd X dX4_join_49 ?_
          try refine sw_tope (nI_add _ _) ?_
          refine ia_5 X rfl (by omega) dX4_join_50 ?_
          refine sw_tope (v2 := (M 9 5 0) (f + 3 + r)) (by rw [mS_s]; exact jnP_out (by omega)) ?_
          refine is_5 X rfl (by omega) dX4_join_51 ?_
          first | (rw [up5]; simp only [up5, up9, mN_mS, mS_mS, mN_mN, mS_s, mN_n, mS_id, mN_id]; exact J _ (by unfold jnA; rw [if_pos ⟨h20, h33⟩])) | (exact J _ (by unfold jnA; rw [if_neg (fun z => h20 z.1)])) | (exact J _ (by unfold jnA; rw [if_neg (fun z => z.2 h33)]))
  refine sw_iconst X (nI 0) dX4_join_0 (by decide) ?_
  refine sw_istore_4 X dX4_join_1 trivial ?_
  refine sw_mem (M2 := mS M (jnP (M 9 5 0) (M 9 5 0) t f 0)) (by rw [jnP_0, mS_id]) (L 0 (by omega))
set_option maxHeartbeats 4000000 in
set_option maxRecDepth 100000 in
theorem c_X4_join_9 {G : sv_G} {M : sv_Mem} {t f : Nat} (ht : t + 19 ≤ 810) (hf : f + 19 ≤ 19)  : sv_Ct G M_X4_join 1 [.ref (sv_ad G 5 9 0), .int (nI t), .ref (sv_ad G 9 9 0), .int (nI f)] M (none) (mS M (jnF (M 9 5 0) (M 9 9 0) t f)) := by
  refine sv_Ct_of (lo := [some (.ref (sv_ad G 5 9 0)), some (.int (nI t)), some (.ref (sv_ad G 9 9 0)), some (.int (nI f)), none]) (pn_X4) rfl (Nat.le_of_ble_eq_true rfl) rfl (fun K X Y => ?_)
  replace X : sv_X G K cX4_join RX4 5 1 := X
  replace Y : sv_Y G K none _ _ := Y
  show sw_W G K 5 0 _ _ _
  have L : ∀ r, r ≤ 16 → (fun r => sw_W G K 5 3 [some (.ref (sv_ad G 5 9 0)), some (.int (nI t)), some (.ref (sv_ad G 9 9 0)), some (.int (nI f)), some (.int (nI r))] [] (mS M (jnP (M 9 5 0) (M 9 9 0) t f r))) r := by
    refine up_ind (N := 16) (P := fun r => sw_W G K 5 3 [some (.ref (sv_ad G 5 9 0)), some (.int (nI t)), some (.ref (sv_ad G 9 9 0)), some (.int (nI f)), some (.int (nI r))] [] (mS M (jnP (M 9 5 0) (M 9 9 0) t f r))) ?_
    intro r hr ih
    show sw_W _ _ _ _ _ _ _
    refine sw_iload_4 X dX4_join_3 ?_
    refine sw_bipush X (nI 16) dX4_join_5 (by decide) ?_
    refine sw_icmp_ge X 111 dX4_join_7 (by decide) (fun h7 => ?_) (fun h7 => ?_)
    ·
      have e : r = 16 := by have := (nI_leI (by omega) (by omega)).mp h7; omega
      subst e
      refine sw_aload_0 X dX4_join_111 ?_
      refine sw_iload_1 X dX4_join_112 ?_
      refine sw_iconst X (nI 0) dX4_join_113 (by decide) ?_
      refine sw_iadd X dX4_join_114 ?_
      try refine sw_tope (nI_add _ _) ?_
      refine sw_dup2 X dX4_join_115 rfl rfl ?_
      refine ia_5 X rfl (by omega) dX4_join_116 ?_
      refine sw_tope (v2 := (M 9 5 0) (t + 0)) (by rw [mS_s]; exact jnP_out (by omega)) ?_
      refine sw_aload_2 X dX4_join_117 ?_
      refine sw_iload_3 X dX4_join_118 ?_
      refine sw_iconst X (nI 0) dX4_join_119 (by decide) ?_
      refine sw_iadd X dX4_join_120 ?_
      try refine sw_tope (nI_add _ _) ?_
      refine ia_9 X rfl (by omega) dX4_join_121 ?_
      refine sw_tope (v2 := (M 9 9 0) (f + 0)) (by rw [mS_o _ _ (by omega)]) ?_
      refine sw_ior X dX4_join_122 ?_
      refine is_5 X rfl (by omega) dX4_join_123 ?_
      refine sw_aload_0 X dX4_join_124 ?_
      refine sw_iload_1 X dX4_join_125 ?_
      refine sw_iconst X (nI 1) dX4_join_126 (by decide) ?_
      refine sw_iadd X dX4_join_127 ?_
      try refine sw_tope (nI_add _ _) ?_
      refine sw_dup2 X dX4_join_128 rfl rfl ?_
      refine ia_5 X rfl (by omega) dX4_join_129 ?_
      refine sw_tope (v2 := (M 9 5 0) (t + 1)) (by simp only [up5, up9, mN_mS, mS_mS, mN_mN, mS_s, mN_n, mS_id, mN_id]; rw [va_up_ne _ _ (by omega)]; exact jnP_out (by omega)) ?_
      refine sw_aload_2 X dX4_join_130 ?_
      refine sw_iload_3 X dX4_join_131 ?_
      refine sw_iconst X (nI 1) dX4_join_132 (by decide) ?_
      refine sw_iadd X dX4_join_133 ?_
      try refine sw_tope (nI_add _ _) ?_
      refine ia_9 X rfl (by omega) dX4_join_134 ?_
      refine sw_tope (v2 := (M 9 9 0) (f + 1)) (by simp only [up5, up9, mN_mS, mS_mS, mN_mN, mS_s, mN_n, mS_id, mN_id]; rw [mS_o _ _ (by omega)]) ?_
      refine sw_ior X dX4_join_135 ?_
      refine is_5 X rfl (by omega) dX4_join_136 ?_
      exact sw_vret X Y dX4_join_137 rfl (by simp only [up5, up9, mN_mS, mS_mS, mN_mN, mS_s, mN_n, mS_id, mN_id]; rfl)
    ·
      have hr3 : r < 16 := by have := mt (nI_leI (by omega) (by omega)).mpr h7; omega
      have J : ∀ A, A = jnA (M 9 5 0) (M 9 9 0) t f r → sw_W G K 5 52 [some (.ref (sv_ad G 5 9 0)), some (.int (nI t)), some (.ref (sv_ad G 9 9 0)), some (.int (nI f)), some (.int (nI r))] [] (mS M A) := by
        intro A hA
        refine sw_aload_2 X dX4_join_52 ?_
        refine sw_iload_3 X dX4_join_53 ?_
        refine sw_iconst X (nI 1) dX4_join_54 (by decide) ?_
        refine sw_iadd X dX4_join_55 ?_
        try refine sw_tope (nI_add _ _) ?_
        refine ia_9 X rfl (by omega) dX4_join_56 ?_
        refine sw_tope (v2 := (M 9 9 0) (f + 1)) (by rw [mS_o _ _ (by omega)]) ?_
        refine sw_iload_4 X dX4_join_57 ?_
        refine ca_X4_40 X (by decide) dX4_join_59 (Nat.le_of_ble_eq_true rfl) (c_X4_has (by omega)) ?_
        refine sw_ifB_eq X 105 dX4_join_62 (by decide) (fun h62 => ?_) (fun h62 => ?_)
        ·
          refine sw_mem (M2 := mS M (jnP (M 9 5 0) (M 9 9 0) t f (r + 1))) ?_ (sw_inc1_4 X dX4_join_105 trivial (sw_goto X 3 dX4_join_108 (by decide) (ih (r + 1) (by omega) (by omega))))
          try simp only [up5, up9, mN_mS, mS_mS, mN_mN, mS_s, mN_n, mS_id, mN_id]
          rw [jnP_step, hA]
          first | (rw [if_pos ⟨h62, h75⟩]; rfl) | (rw [if_neg (fun z => h62 z.1)]) | (rw [if_neg (fun z => z.2 h75)])
        ·
          refine sw_aload_0 X dX4_join_65 ?_
          refine sw_iload_1 X dX4_join_66 ?_
          refine sw_iconst X (nI 1) dX4_join_67 (by decide) ?_
          refine sw_iadd X dX4_join_68 ?_
          try refine sw_tope (nI_add _ _) ?_
          refine ia_5 X rfl (by omega) dX4_join_69 ?_
          refine sw_tope (v2 := (M 9 5 0) (t + 1)) (by rw [mS_s]; rw [hA, jnA_out (by omega)]; exact jnP_out (by omega)) ?_
          refine sw_iload_4 X dX4_join_70 ?_
          refine ca_X4_40 X (by decide) dX4_join_72 (Nat.le_of_ble_eq_true rfl) (c_X4_has (by omega)) ?_
          refine sw_ifB_ne X 105 dX4_join_75 (by decide) (fun h75 => ?_) (fun h75 => ?_)
          ·
            refine sw_mem (M2 := mS M (jnP (M 9 5 0) (M 9 9 0) t f (r + 1))) ?_ (sw_inc1_4 X dX4_join_105 trivial (sw_goto X 3 dX4_join_108 (by decide) (ih (r + 1) (by omega) (by omega))))
            try simp only [up5, up9, mN_mS, mS_mS, mN_mN, mS_s, mN_n, mS_id, mN_id]
            rw [jnP_step, hA]
            first | (rw [if_pos ⟨h62, h75⟩]; rfl) | (rw [if_neg (fun z => h62 z.1)]) | (rw [if_neg (fun z => z.2 h75)])
          ·
            refine sw_aload_0 X dX4_join_78 ?_
            refine sw_iload_1 X dX4_join_79 ?_
            refine sw_iconst X (nI 2) dX4_join_80 (by decide) ?_
            refine sw_iadd X dX4_join_81 ?_
            try refine sw_tope (nI_add _ _) ?_
            refine sw_aload_0 X dX4_join_82 ?_
            refine sw_iload_1 X dX4_join_83 ?_
            refine sw_iconst X (nI 2) dX4_join_84 (by decide) ?_
            refine sw_iadd X dX4_join_85 ?_
            try refine sw_tope (nI_add _ _) ?_
            refine ia_5 X rfl (by omega) dX4_join_86 ?_
            refine sw_tope (v2 := jnP (M 9 5 0) (M 9 9 0) t f r (t + 2)) (by rw [mS_s, hA, jnA_out (by omega)]) ?_
            refine sw_iload_4 X dX4_join_87 ?_
            refine sw_aload_2 X dX4_join_89 ?_
            refine sw_iload_3 X dX4_join_90 ?_
            refine sw_iconst X (nI 2) dX4_join_91 (by decide) ?_
            refine sw_iadd X dX4_join_92 ?_
            try refine sw_tope (nI_add _ _) ?_
            refine ia_9 X rfl (by omega) dX4_join_93 ?_
            refine sw_tope (v2 := (M 9 9 0) (f + 2)) (by rw [mS_o _ _ (by omega)]) ?_
            refine sw_iconst X (nI 2) dX4_join_94 (by decide) ?_
            refine sw_iload_4 X dX4_join_95 ?_
            refine sw_imul X dX4_join_97 ?_
            try refine sw_tope (pk_mul _ _) ?_
            refine sw_ishr X dX4_join_98 ?_
            refine sw_iconst X (nI 3) dX4_join_99 (by decide) ?_
            refine sw_iand X dX4_join_100 ?_
            refine ca_X4_44 X (by decide) dX4_join_101 (Nat.le_of_ble_eq_true rfl) (c_X4_withMode hr3) ?_
            refine is_5 X rfl (by omega) dX4_join_104 ?_
            refine sw_mem (M2 := mS M (jnP (M 9 5 0) (M 9 9 0) t f (r + 1))) ?_ (sw_inc1_4 X dX4_join_105 trivial (sw_goto X 3 dX4_join_108 (by decide) (ih (r + 1) (by omega) (by omega))))
            try simp only [up5, up9, mN_mS, mS_mS, mN_mN, mS_s, mN_n, mS_id, mN_id]
            rw [jnP_step, hA]
            first | (rw [if_pos ⟨h62, h75⟩]; rfl) | (rw [if_neg (fun z => h62 z.1)]) | (rw [if_neg (fun z => z.2 h75)])
      refine sw_aload_2 X dX4_join_10 ?_
      refine sw_iload_3 X dX4_join_11 ?_
      refine sw_iconst X (nI 0) dX4_join_12 (by decide) ?_
      refine sw_iadd X dX4_join_13 ?_
      try refine sw_tope (nI_add _ _) ?_
      refine ia_9 X rfl (by omega) dX4_join_14 ?_
      refine sw_tope (v2 := (M 9 9 0) (f + 0)) (by rw [mS_o _ _ (by omega)]) ?_
      refine sw_iload_4 X dX4_join_15 ?_
      refine ca_X4_40 X (by decide) dX4_join_17 (Nat.le_of_ble_eq_true rfl) (c_X4_has (by omega)) ?_
      refine sw_ifB_eq X 52 dX4_join_20 (by decide) (fun h20 => ?_) (fun h20 => ?_)
      ·
        first | (rw [up5]; simp only [up5, up9, mN_mS, mS_mS, mN_mN, mS_s, mN_n, mS_id, mN_id]; exact J _ (by unfold jnA; rw [if_pos ⟨h20, h33⟩])) | (exact J _ (by unfold jnA; rw [if_neg (fun z => h20 z.1)])) | (exact J _ (by unfold jnA; rw [if_neg (fun z => z.2 h33)]))
      ·
        refine sw_aload_0 X dX4_join_23 ?_
        refine sw_iload_1 X dX4_join_24 ?_
        refine sw_iconst X (nI 0) dX4_join_25 (by decide) ?_
        refine sw_iadd X dX4_join_26 ?_
        try refine sw_tope (nI_add _ _) ?_
        refine ia_5 X rfl (by omega) dX4_join_27 ?_
        refine sw_tope (v2 := (M 9 5 0) (t + 0)) (by rw [mS_s]; exact jnP_out (by omega)) ?_
        refine sw_iload_4 X dX4_join_28 ?_
        refine ca_X4_40 X (by decide) dX4_join_30 (Nat.le_of_ble_eq_true rfl) (c_X4_has (by omega)) ?_
        refine sw_ifB_ne X 52 dX4_join_33 (by decide) (fun h33 => ?_) (fun h33 => ?_)
        ·
          first | (rw [up5]; simp only [up5, up9, mN_mS, mS_mS, mN_mN, mS_s, mN_n, mS_id, mN_id]; exact J _ (by unfold jnA; rw [if_pos ⟨h20, h33⟩])) | (exact J _ (by unfold jnA; rw [if_neg (fun z => h20 z.1)])) | (exact J _ (by unfold jnA; rw [if_neg (fun z => z.2 h33)]))
        ·
          refine sw_aload_0 X dX4_join_36 ?_
          refine sw_iload_1 X dX4_join_37 ?_
          refine sw_iconst X (nI 3) dX4_join_38 (by decide) ?_
          refine sw_iadd X dX4_join_39 ?_
          try refine sw_tope (nI_add _ _) ?_
          refine sw_iload_4 X dX4_join_40 ?_
          refine sw_iadd X dX4_join_42 ?_
          try refine sw_tope (nI_add _ _) ?_
          refine sw_aload_2 X dX4_join_43 ?_
          refine sw_iload_3 X dX4_join_44 ?_
          refine sw_iconst X (nI 3) dX4_join_45 (by decide) ?_
          refine sw_iadd X dX4_join_46 ?_
          try refine sw_tope (nI_add _ _) ?_
          refine sw_iload_4 X dX4_join_47 ?_
          refine sw_iadd X dX4_join_49 ?_
          try refine sw_tope (nI_add _ _) ?_
          refine ia_9 X rfl (by omega) dX4_join_50 ?_
          refine sw_tope (v2 := (M 9 9 0) (f + 3 + r)) (by rw [mS_o _ _ (by omega)]) ?_
          refine is_5 X rfl (by omega) dX4_join_51 ?_
          first | (rw [up5]; simp only [up5, up9, mN_mS, mS_mS, mN_mN, mS_s, mN_n, mS_id, mN_id]; exact J _ (by unfold jnA; rw [if_pos ⟨h20, h33⟩])) | (exact J _ (by unfold jnA; rw [if_neg (fun z => h20 z.1)])) | (exact J _ (by unfold jnA; rw [if_neg (fun z => z.2 h33)]))
  refine sw_iconst X (nI 0) dX4_join_0 (by decide) ?_
  refine sw_istore_4 X dX4_join_1 trivial ?_
  refine sw_mem (M2 := mS M (jnP (M 9 5 0) (M 9 9 0) t f 0)) (by rw [jnP_0, mS_id]) (L 0 (by omega))
set_option maxHeartbeats 4000000 in
set_option maxRecDepth 100000 in
theorem c_X4_since {G : sv_G} {M : sv_Mem} {q m mq w : Nat} (hq : q < 3) (hm : m ≤ mq + 1) (hw : w < 19) (hmq : M 9 5 0 (27 + q) = nI mq) (hmq2 : mq ≤ 12) : sv_Ct G M_X4_since 1 [.ref (sv_ad G 4 9 0), .int (nI q), .int (nI m), .int (nI w)] M (some (.int (sncR (fun r => M 9 5 0 (rAt q r + w)) (mq + 1 - m) m (nI 0)))) (M) := by
  refine sv_Ct_of (lo := [some (.ref (sv_ad G 4 9 0)), some (.int (nI q)), some (.int (nI m)), some (.int (nI w)), none, none]) (pn_X4) rfl (Nat.le_of_ble_eq_true rfl) rfl (fun K X Y => ?_)
  replace X : sv_X G K cX4_since RX4 6 1 := X
  replace Y : sv_Y G K (some .int) _ _ := Y
  show sw_W G K 6 0 _ _ _
  have L : ∀ c r acc, r + c = mq + 1 → sncR (fun r => M 9 5 0 (rAt q r + w)) (mq + 1 - m) m (nI 0) = sncR (fun r => M 9 5 0 (rAt q r + w)) c r acc → sw_W G K 6 6 [some (.ref (sv_ad G 4 9 0)), some (.int (nI q)), some (.int (nI m)), some (.int (nI w)), some (.int acc), some (.int (nI r))] [] M := by
    intro c
    induction c with
    | zero =>
      intro r acc hr hv
      refine sw_iload_5 X dX4_since_6 ?_
      refine sw_aload_0 X dX4_since_8 ?_
      refine gf_X4_7 X dX4_since_9 ?_
      refine sw_bipush X (nI 27) dX4_since_12 (by decide) ?_
      refine sw_iload_1 X dX4_since_14 ?_
      refine sw_iadd X dX4_since_15 ?_
      try refine sw_tope (nI_add _ _) ?_
      refine ia_5 X rfl (by omega) dX4_since_16 ?_
      refine sw_tope hmq ?_
      refine sw_icmp_gt X 44 dX4_since_17 (by decide) (fun h17 => ?_) (fun h17 => ?_)
      ·
        refine sw_iload_4 X dX4_since_44 ?_
        exact sw_iret X Y dX4_since_46 (ri_of hv) (rfl)
      ·
        exact absurd ((nI_ltI (by omega) (by omega)).mpr (by omega)) h17
    | succ c ih =>
      intro r acc hr hv
      refine sw_iload_5 X dX4_since_6 ?_
      refine sw_aload_0 X dX4_since_8 ?_
      refine gf_X4_7 X dX4_since_9 ?_
      refine sw_bipush X (nI 27) dX4_since_12 (by decide) ?_
      refine sw_iload_1 X dX4_since_14 ?_
      refine sw_iadd X dX4_since_15 ?_
      try refine sw_tope (nI_add _ _) ?_
      refine ia_5 X rfl (by omega) dX4_since_16 ?_
      refine sw_tope hmq ?_
      refine sw_icmp_gt X 44 dX4_since_17 (by decide) (fun h17 => ?_) (fun h17 => ?_)
      ·
        exact absurd ((nI_ltI (by omega) (by omega)).mp h17) (by omega)
      ·
        refine sw_iload_4 X dX4_since_20 ?_
        refine sw_aload_0 X dX4_since_22 ?_
        refine gf_X4_7 X dX4_since_23 ?_
        refine sw_iload_1 X dX4_since_26 ?_
        refine sw_iload_5 X dX4_since_27 ?_
        refine ca_X4_48 X (by decide) dX4_since_29 (Nat.le_of_ble_eq_true rfl) c_X4_at ?_
        refine sw_iload_3 X dX4_since_32 ?_
        refine sw_iadd X dX4_since_33 ?_
        try refine sw_tope (nI_add _ _) ?_
        refine ia_5 X rfl (by unfold rAt; omega) dX4_since_34 ?_
        refine sw_ior X dX4_since_35 ?_
        refine sw_istore_4 X dX4_since_36 trivial ?_
        first | refine sw_inc1_5 X dX4_since_38 trivial ?_ | refine sw_iinc_5 X _ dX4_since_38 rfl trivial ?_
        refine sw_goto X 6 dX4_since_41 (by decide) ?_
        exact ih (r + 1) _ (by omega) hv
  refine sw_iconst X (nI 0) dX4_since_0 (by decide) ?_
  refine sw_istore_4 X dX4_since_1 trivial ?_
  refine sw_iload_2 X dX4_since_3 ?_
  refine sw_istore_5 X dX4_since_4 trivial ?_
  exact L _ _ _ (by omega) rfl
set_option maxHeartbeats 4000000 in
set_option maxRecDepth 100000 in
theorem c_X4_before {G : sv_G} {M : sv_Mem} {q m mq k : Nat} (hq : q < 3) (hk : k < 16) (hm : m ≤ mq + 1) (hmq : M 9 5 0 (27 + q) = nI mq) (hmq2 : mq ≤ 12) : sv_Ct G M_X4_before 1 [.ref (sv_ad G 4 9 0), .int (nI q), .int (nI m), .int (nI k)] M (some (.int (bfR (M 9 5 0) q k (mq + 1 - m) m))) (M) := by
  refine sv_Ct_of (lo := [some (.ref (sv_ad G 4 9 0)), some (.int (nI q)), some (.int (nI m)), some (.int (nI k)), none]) (pn_X4) rfl (Nat.le_of_ble_eq_true rfl) rfl (fun K X Y => ?_)
  replace X : sv_X G K cX4_before RX4 5 1 := X
  replace Y : sv_Y G K (some .int) _ _ := Y
  show sw_W G K 5 0 _ _ _
  have L : ∀ c r, r + c = mq + 1 → bfR (M 9 5 0) q k (mq + 1 - m) m = bfR (M 9 5 0) q k c r → sw_W G K 5 3 [some (.ref (sv_ad G 4 9 0)), some (.int (nI q)), some (.int (nI m)), some (.int (nI k)), some (.int (nI r))] [] M := by
    intro c
    induction c with
    | zero =>
      intro r hr hv
      refine sw_iload_4 X dX4_before_3 ?_
      refine sw_aload_0 X dX4_before_5 ?_
      refine gf_X4_7 X dX4_before_6 ?_
      refine sw_bipush X (nI 27) dX4_before_9 (by decide) ?_
      refine sw_iload_1 X dX4_before_11 ?_
      refine sw_iadd X dX4_before_12 ?_
      try refine sw_tope (nI_add _ _) ?_
      refine ia_5 X rfl (by omega) dX4_before_13 ?_
      refine sw_tope hmq ?_
      refine sw_icmp_gt X 59 dX4_before_14 (by decide) (fun h14 => ?_) (fun h14 => ?_)
      ·
        refine sw_aload_0 X dX4_before_59 ?_
        refine gf_X4_7 X dX4_before_60 ?_
        refine sw_bipush X (nI 8) dX4_before_63 (by decide) ?_
        refine sw_iload_3 X dX4_before_65 ?_
        refine sw_iadd X dX4_before_66 ?_
        try refine sw_tope (nI_add _ _) ?_
        refine ia_5 X rfl (by omega) dX4_before_67 ?_
        exact sw_iret X Y dX4_before_68 (ri_of hv) (rfl)
      ·
        exact absurd ((nI_ltI (by omega) (by omega)).mpr (by omega)) h14
    | succ c ih =>
      intro r hr hv
      refine sw_iload_4 X dX4_before_3 ?_
      refine sw_aload_0 X dX4_before_5 ?_
      refine gf_X4_7 X dX4_before_6 ?_
      refine sw_bipush X (nI 27) dX4_before_9 (by decide) ?_
      refine sw_iload_1 X dX4_before_11 ?_
      refine sw_iadd X dX4_before_12 ?_
      try refine sw_tope (nI_add _ _) ?_
      refine ia_5 X rfl (by omega) dX4_before_13 ?_
      refine sw_tope hmq ?_
      refine sw_icmp_gt X 59 dX4_before_14 (by decide) (fun h14 => ?_) (fun h14 => ?_)
      ·
        exact absurd ((nI_ltI (by omega) (by omega)).mp h14) (by omega)
      ·
        refine sw_aload_0 X dX4_before_17 ?_
        refine gf_X4_7 X dX4_before_18 ?_
        refine sw_iload_1 X dX4_before_21 ?_
        refine sw_iload_4 X dX4_before_22 ?_
        refine ca_X4_48 X (by decide) dX4_before_24 (Nat.le_of_ble_eq_true rfl) c_X4_at ?_
        refine sw_iconst X (nI 0) dX4_before_27 (by decide) ?_
        refine sw_iadd X dX4_before_28 ?_
        try refine sw_tope (nI_add _ _) ?_
        refine ia_5 X rfl (by unfold rAt; omega) dX4_before_29 ?_
        refine sw_iload_3 X dX4_before_30 ?_
        refine ca_X4_40 X (by decide) dX4_before_31 (Nat.le_of_ble_eq_true rfl) (c_X4_has (by omega)) ?_
        refine sw_ifB_eq X 53 dX4_before_34 (by decide) (fun h34 => ?_) (fun h34 => ?_)
        ·
          have hv2 := hv.trans (if_neg h34)
          first | refine sw_inc1_4 X dX4_before_53 trivial ?_ | refine sw_iinc_4 X _ dX4_before_53 rfl trivial ?_
          refine sw_goto X 3 dX4_before_56 (by decide) ?_
          exact ih (r + 1) (by omega) hv2
        ·
          have hv2 := hv.trans (if_pos h34)
          refine sw_aload_0 X dX4_before_37 ?_
          refine gf_X4_7 X dX4_before_38 ?_
          refine sw_iload_1 X dX4_before_41 ?_
          refine sw_iload_4 X dX4_before_42 ?_
          refine ca_X4_48 X (by decide) dX4_before_44 (Nat.le_of_ble_eq_true rfl) c_X4_at ?_
          refine sw_iconst X (nI 3) dX4_before_47 (by decide) ?_
          refine sw_iadd X dX4_before_48 ?_
          try refine sw_tope (nI_add _ _) ?_
          refine sw_iload_3 X dX4_before_49 ?_
          refine sw_iadd X dX4_before_50 ?_
          try refine sw_tope (nI_add _ _) ?_
          refine ia_5 X rfl (by unfold rAt; omega) dX4_before_51 ?_
          exact sw_iret X Y dX4_before_52 (ri_of hv2) (rfl)
  refine sw_iload_2 X dX4_before_0 ?_
  refine sw_istore_4 X dX4_before_1 trivial ?_
  exact L _ _ (by omega) rfl
set_option maxHeartbeats 4000000 in
set_option maxRecDepth 100000 in
theorem c_X4_modeBefore {G : sv_G} {M : sv_Mem} {q m mq k : Nat} (hq : q < 3) (hk : k < 16) (hm : m ≤ mq + 1) (hmq : M 9 5 0 (27 + q) = nI mq) (hmq2 : mq ≤ 12) : sv_Ct G M_X4_modeBefore 1 [.ref (sv_ad G 4 9 0), .int (nI q), .int (nI m), .int (nI k)] M (some (.int (mbR (M 9 5 0) q k (mq + 1 - m) m))) (M) := by
  refine sv_Ct_of (lo := [some (.ref (sv_ad G 4 9 0)), some (.int (nI q)), some (.int (nI m)), some (.int (nI k)), none]) (pn_X4) rfl (Nat.le_of_ble_eq_true rfl) rfl (fun K X Y => ?_)
  replace X : sv_X G K cX4_modeBefore RX4 5 1 := X
  replace Y : sv_Y G K (some .int) _ _ := Y
  show sw_W G K 5 0 _ _ _
  have L : ∀ c r, r + c = mq + 1 → mbR (M 9 5 0) q k (mq + 1 - m) m = mbR (M 9 5 0) q k c r → sw_W G K 5 3 [some (.ref (sv_ad G 4 9 0)), some (.int (nI q)), some (.int (nI m)), some (.int (nI k)), some (.int (nI r))] [] M := by
    intro c
    induction c with
    | zero =>
      intro r hr hv
      refine sw_iload_4 X dX4_modeBefore_3 ?_
      refine sw_aload_0 X dX4_modeBefore_5 ?_
      refine gf_X4_7 X dX4_modeBefore_6 ?_
      refine sw_bipush X (nI 27) dX4_modeBefore_9 (by decide) ?_
      refine sw_iload_1 X dX4_modeBefore_11 ?_
      refine sw_iadd X dX4_modeBefore_12 ?_
      try refine sw_tope (nI_add _ _) ?_
      refine ia_5 X rfl (by omega) dX4_modeBefore_13 ?_
      refine sw_tope hmq ?_
      refine sw_icmp_gt X 63 dX4_modeBefore_14 (by decide) (fun h14 => ?_) (fun h14 => ?_)
      ·
        refine sw_aload_0 X dX4_modeBefore_63 ?_
        refine sw_iload_1 X dX4_modeBefore_64 ?_
        refine sw_iload_3 X dX4_modeBefore_65 ?_
        refine ca_X4_33 X (by decide) dX4_modeBefore_66 (Nat.le_of_ble_eq_true rfl) (c_X4_modeOf hq hk) ?_
        exact sw_iret X Y dX4_modeBefore_69 (ri_of hv) (rfl)
      ·
        exact absurd ((nI_ltI (by omega) (by omega)).mpr (by omega)) h14
    | succ c ih =>
      intro r hr hv
      refine sw_iload_4 X dX4_modeBefore_3 ?_
      refine sw_aload_0 X dX4_modeBefore_5 ?_
      refine gf_X4_7 X dX4_modeBefore_6 ?_
      refine sw_bipush X (nI 27) dX4_modeBefore_9 (by decide) ?_
      refine sw_iload_1 X dX4_modeBefore_11 ?_
      refine sw_iadd X dX4_modeBefore_12 ?_
      try refine sw_tope (nI_add _ _) ?_
      refine ia_5 X rfl (by omega) dX4_modeBefore_13 ?_
      refine sw_tope hmq ?_
      refine sw_icmp_gt X 63 dX4_modeBefore_14 (by decide) (fun h14 => ?_) (fun h14 => ?_)
      ·
        exact absurd ((nI_ltI (by omega) (by omega)).mp h14) (by omega)
      ·
        refine sw_aload_0 X dX4_modeBefore_17 ?_
        refine gf_X4_7 X dX4_modeBefore_18 ?_
        refine sw_iload_1 X dX4_modeBefore_21 ?_
        refine sw_iload_4 X dX4_modeBefore_22 ?_
        refine ca_X4_48 X (by decide) dX4_modeBefore_24 (Nat.le_of_ble_eq_true rfl) c_X4_at ?_
        refine sw_iconst X (nI 1) dX4_modeBefore_27 (by decide) ?_
        refine sw_iadd X dX4_modeBefore_28 ?_
        try refine sw_tope (nI_add _ _) ?_
        refine ia_5 X rfl (by unfold rAt; omega) dX4_modeBefore_29 ?_
        refine sw_iload_3 X dX4_modeBefore_30 ?_
        refine ca_X4_40 X (by decide) dX4_modeBefore_31 (Nat.le_of_ble_eq_true rfl) (c_X4_has (by omega)) ?_
        refine sw_ifB_eq X 57 dX4_modeBefore_34 (by decide) (fun h34 => ?_) (fun h34 => ?_)
        ·
          have hv2 := hv.trans (if_neg h34)
          first | refine sw_inc1_4 X dX4_modeBefore_57 trivial ?_ | refine sw_iinc_4 X _ dX4_modeBefore_57 rfl trivial ?_
          refine sw_goto X 3 dX4_modeBefore_60 (by decide) ?_
          exact ih (r + 1) (by omega) hv2
        ·
          have hv2 := hv.trans (if_pos h34)
          refine sw_aload_0 X dX4_modeBefore_37 ?_
          refine gf_X4_7 X dX4_modeBefore_38 ?_
          refine sw_iload_1 X dX4_modeBefore_41 ?_
          refine sw_iload_4 X dX4_modeBefore_42 ?_
          refine ca_X4_48 X (by decide) dX4_modeBefore_44 (Nat.le_of_ble_eq_true rfl) c_X4_at ?_
          refine sw_iconst X (nI 2) dX4_modeBefore_47 (by decide) ?_
          refine sw_iadd X dX4_modeBefore_48 ?_
          try refine sw_tope (nI_add _ _) ?_
          refine ia_5 X rfl (by unfold rAt; omega) dX4_modeBefore_49 ?_
          refine sw_iconst X (nI 2) dX4_modeBefore_50 (by decide) ?_
          refine sw_iload_3 X dX4_modeBefore_51 ?_
          refine sw_imul X dX4_modeBefore_52 ?_
          try refine sw_tope (pk_mul _ _) ?_
          refine sw_ishr X dX4_modeBefore_53 ?_
          refine sw_iconst X (nI 3) dX4_modeBefore_54 (by decide) ?_
          refine sw_iand X dX4_modeBefore_55 ?_
          exact sw_iret X Y dX4_modeBefore_56 (ri_of hv2) (rfl)
  refine sw_iload_2 X dX4_modeBefore_0 ?_
  refine sw_istore_4 X dX4_modeBefore_1 trivial ?_
  exact L _ _ (by omega) rfl
