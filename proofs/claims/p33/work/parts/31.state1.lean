/-! the class: State's methods -/
theorem nzK {x : Int32} (h : x = nI 0 ∨ x = nI 1) : narrow .boolean (.int x) = .int x ∧ fits .boolean (.int x) = true := by
  rcases h with rfl | rfl <;> exact ⟨rfl, rfl⟩
/-- copies: of a Transaction with c moments, of a State -/
def cpX (T S : sv_T) (j c : Nat) : sv_T := tA (tA (tA (tA (tu (tu T 14 j 0 (nI c)) 14 j 1 (S 14 j 1)) 15 j (va_cpy (S 15 j) (T 15 j) 0 0 c)) 16 j (va_cpy (S 16 j) (T 16 j) 0 0 12)) 17 j (va_cpy (S 17 j) (T 17 j) 0 0 c)) 18 j (va_cpy (S 18 j) (T 18 j) 0 0 (c * 16))
def cpN (T S : sv_T) (cs : Nat → Nat) : Nat → sv_T
  | 0 => tA (tu T 10 0 0 (S 10 0 0)) 11 0 (va_cpy (S 11 0) (T 11 0) 0 0 16)
  | j + 1 => cpX (cpN T S cs j) S j (cs j)
def cpS (T S : sv_T) (cs : Nat → Nat) : sv_T := tA (cpN T S cs 3) 13 0 (va_cpy (S 13 0) (cpN T S cs 3 13 0) 0 0 7)
/-- how many moments the transactions have -/
def csOk (T : sv_T) (cs : Nat → Nat) (b : Nat) : Prop := ∀ j, j < 3 → T 14 j 0 = nI (cs j) ∧ cs j ≤ b
abbrev vaR (T : sv_T) (q k : Nat) (pr : Int32) (c m : Nat) : Int32 := fvR (T 17 q) (fun r => T 18 q (r * 16 + k)) k pr (c - m) m
def vsR (T : sv_T) : Nat → Int32
  | 0 => nI 0
  | k + 1 => if T 11 0 k = -5 then vsR T k else vsR T k + T 11 0 k
def cvR (T : sv_T) (cs : Nat → Nat) (k : Nat) : Nat → Int32
  | 0 => T 11 0 k
  | q + 1 => vaR T q k (cvR T cs k q) (cs q) 0
abbrev busyC (T : sv_T) (q k : Nat) (mode : Int32) : Prop := ¬ mode ≤ md (T 14 q 1) k ∧ ∃ o, o < 3 ∧ o ≠ q ∧ (if mode = nI 1 then nI 1 else nI 0) < md (T 14 o 1) k
def busyM (T : sv_T) (q k : Nat) (b : Int32) (n : Nat) : Prop := ∃ o, o < n ∧ o ≠ q ∧ b < md (T 14 o 1) k
def lkT (T : sv_T) (q k : Nat) (mode : Int32) : sv_T := if md (T 14 q 1) k < mode then tu T 14 q 1 (sm (T 14 q 1) k mode) else T
abbrev difP (T : sv_T) (q m c : Nat) : Nat → Prop := fun k => vaR T q k (T 11 0 k) c m ≠ T 11 0 k
/-- undoToMoment -/
def uvT (T : sv_T) (q m c k : Nat) : sv_T := tA T 11 0 (fun n => if n < k then vaR T q n (T 11 0 n) c m else T 11 0 n)
def ufT (T : sv_T) (q m c : Nat) : sv_T := fcT q (c - m) m (uvT T q m c 16)
def unT (T : sv_T) (q m c : Nat) : sv_T := if T 10 0 0 = nI 0 then tu (ufT T q m c) 14 q 1 (T 15 q m) else ufT T q m c
theorem uvT_0 (T : sv_T) (q m c : Nat) : uvT T q m c 0 = T := by
  unfold uvT tA
  rw [show (fun n => if n < 0 then vaR T q n (T 11 0 n) c m else T 11 0 n) = T 11 0 from funext (fun n => if_neg (by omega)), va_up_id, va_up_id]
theorem uvT_step (T : sv_T) (q m c k : Nat) : uvT T q m c (k + 1) = tu (uvT T q m c k) 11 0 k (vaR T q k (T 11 0 k) c m) := by
  rw [tuA]
  unfold uvT
  rw [tA_at]
  unfold tA
  rw [va_up_self, va_up_up, va_up_up]
  congr 2
  funext n
  unfold va_up
  by_cases h : n = k
  · rw [if_pos (by omega), if_pos h, h]
  · rw [if_neg h]
    by_cases h2 : n < k
    · rw [if_pos (by omega)]; exact (if_pos h2).symm
    · rw [if_neg (by omega)]; exact (if_neg h2).symm
theorem uvT_ne {T : sv_T} {q m c k k2 j2 : Nat} (h : ¬ (k2 = 11 ∧ j2 = 0)) : uvT T q m c k k2 j2 = T k2 j2 := tA_ne _ _ h
theorem uvT_hi {T : sv_T} {q m c k n : Nat} (h : k ≤ n) : uvT T q m c k 11 0 n = T 11 0 n := by
  unfold uvT
  rw [tA_at]
  exact if_neg (by omega)
theorem fcT_14 (j : Nat) (c r : Nat) (T : sv_T) (k2 j2 : Nat) (h : k2 ≠ 17) : fcT j c r T k2 j2 = T k2 j2 := fcT_ne (fun z => h z.1) c r T

set_option maxHeartbeats 4000000 in
set_option maxRecDepth 100000 in
theorem c_X2_copyFrom {G : sv_G} {M : sv_Mem} {i i2 j : Nat} (hi : i < 8) (hi2 : i2 < 8) (hj : j < 3) (hne : i2 ≠ i) {c : Nat} (hc : M i2 14 j 0 = nI c) (hc2 : c ≤ 14) : sv_Ct G M_X2_copyFrom 1 [.ref (sv_ad G 14 i j), .ref (sv_ad G 14 i2 j)] M (none) (sT M i (cpX (M i) (M i2) j c)) := by
  refine sv_Ct_of (lo := [some (.ref (sv_ad G 14 i j)), some (.ref (sv_ad G 14 i2 j)), none]) (pn_X2) rfl (Nat.le_of_ble_eq_true rfl) rfl (fun K X Y => ?_)
  replace X : sv_X G K cX2_copyFrom RX2 3 1 := X
  replace Y : sv_Y G K none _ _ := Y
  show sw_W G K 3 0 _ _ _
  refine sw_aload_1 X dX2_copyFrom_0 ?_
  refine gf_X2_24 X hi2 hj dX2_copyFrom_1 ?_
  refine sw_tope hc ?_
  refine sw_istore_2 X dX2_copyFrom_4 trivial ?_
  refine sw_aload_0 X dX2_copyFrom_5 ?_
  refine sw_iload_2 X dX2_copyFrom_6 ?_
  refine pf_X2_24 X hi hj dX2_copyFrom_7 ?_
  refine sw_aload_0 X dX2_copyFrom_10 ?_
  refine sw_aload_1 X dX2_copyFrom_11 ?_
  refine gf_X2_34 X hi2 hj dX2_copyFrom_12 ?_
  refine pf_X2_34 X hi hj dX2_copyFrom_15 ?_
  refine sw_aload_1 X dX2_copyFrom_18 ?_
  refine gf_X2_9 X hi2 hj dX2_copyFrom_19 ?_
  refine sw_iconst X (nI 0) dX2_copyFrom_22 (by decide) ?_
  refine sw_aload_0 X dX2_copyFrom_23 ?_
  refine gf_X2_9 X hi hj dX2_copyFrom_24 ?_
  refine sw_iconst X (nI 0) dX2_copyFrom_27 (by decide) ?_
  refine sw_iload_2 X dX2_copyFrom_28 ?_
  refine sw_copy X (k := 15) (by omega) (by omega) (fun _ _ _ => rfl) rfl (by omega) (by decide) wl_X2_52 wx_native wx_acs wx_sys (by decide) (Nat.le_of_ble_eq_true rfl) dX2_copyFrom_29 ?_
  refine sw_aload_1 X dX2_copyFrom_32 ?_
  refine gf_X2_15 X hi2 hj dX2_copyFrom_33 ?_
  refine sw_iconst X (nI 0) dX2_copyFrom_36 (by decide) ?_
  refine sw_aload_0 X dX2_copyFrom_37 ?_
  refine gf_X2_15 X hi hj dX2_copyFrom_38 ?_
  refine sw_iconst X (nI 0) dX2_copyFrom_41 (by decide) ?_
  refine sw_bipush X (nI 12) dX2_copyFrom_42 (by decide) ?_
  refine sw_copy X (k := 16) (by omega) (by omega) (fun _ _ _ => rfl) rfl (by omega) (by decide) wl_X2_52 wx_native wx_acs wx_sys (by decide) (Nat.le_of_ble_eq_true rfl) dX2_copyFrom_44 ?_
  refine sw_aload_1 X dX2_copyFrom_47 ?_
  refine gf_X2_18 X hi2 hj dX2_copyFrom_48 ?_
  refine sw_iconst X (nI 0) dX2_copyFrom_51 (by decide) ?_
  refine sw_aload_0 X dX2_copyFrom_52 ?_
  refine gf_X2_18 X hi hj dX2_copyFrom_53 ?_
  refine sw_iconst X (nI 0) dX2_copyFrom_56 (by decide) ?_
  refine sw_iload_2 X dX2_copyFrom_57 ?_
  refine sw_copy X (k := 17) (by omega) (by omega) (fun _ _ _ => rfl) rfl (by omega) (by decide) wl_X2_52 wx_native wx_acs wx_sys (by decide) (Nat.le_of_ble_eq_true rfl) dX2_copyFrom_58 ?_
  refine sw_aload_1 X dX2_copyFrom_61 ?_
  refine gf_X2_21 X hi2 hj dX2_copyFrom_62 ?_
  refine sw_iconst X (nI 0) dX2_copyFrom_65 (by decide) ?_
  refine sw_aload_0 X dX2_copyFrom_66 ?_
  refine gf_X2_21 X hi hj dX2_copyFrom_67 ?_
  refine sw_iconst X (nI 0) dX2_copyFrom_70 (by decide) ?_
  refine sw_iload_2 X dX2_copyFrom_71 ?_
  refine sw_bipush X (nI 16) dX2_copyFrom_72 (by decide) ?_
  refine sw_imul X dX2_copyFrom_74 ?_
  try refine sw_tope (pk_mul _ _) ?_
  refine sw_copy X (k := 18) (by omega) (by omega) (fun _ _ _ => rfl) rfl (by omega) (by decide) wl_X2_52 wx_native wx_acs wx_sys (by decide) (Nat.le_of_ble_eq_true rfl) dX2_copyFrom_75 ?_
  exact sw_vret X Y dX2_copyFrom_78 rfl (by simp (disch := omega) only [upT, upAT, sT_sT, sT_at, sT_ne _ _ hne, tA_ne, tu_ne]; rfl)
set_option maxHeartbeats 4000000 in
set_option maxRecDepth 100000 in
theorem c_X1_copyFrom {G : sv_G} {M : sv_Mem} {i i2 : Nat} (hi : i < 8) (hi2 : i2 < 8) (hne : i2 ≠ i) {cs : Nat → Nat} (hcs : csOk (M i2) cs 14) (hK : M i2 10 0 0 = nI 0 ∨ M i2 10 0 0 = nI 1) : sv_Ct G M_X1_copyFrom 2 [.ref (sv_ad G 10 i 0), .ref (sv_ad G 10 i2 0)] M (none) (sT M i (cpS (M i) (M i2) cs)) := by
  refine sv_Ct_of (lo := [some (.ref (sv_ad G 10 i 0)), some (.ref (sv_ad G 10 i2 0)), none]) (pn_X1) rfl (Nat.le_of_ble_eq_true rfl) rfl (fun K X Y => ?_)
  replace X : sv_X G K cX1_copyFrom RX1 3 2 := X
  replace Y : sv_Y G K none _ _ := Y
  show sw_W G K 3 0 _ _ _
  have L : ∀ r, r ≤ 3 → (fun r => sw_W G K 3 25 [some (.ref (sv_ad G 10 i 0)), some (.ref (sv_ad G 10 i2 0)), some (.int (nI r))] [] (sT M i (cpN (M i) (M i2) cs r))) r := by
    refine up_ind (N := 3) (P := fun r => sw_W G K 3 25 [some (.ref (sv_ad G 10 i 0)), some (.ref (sv_ad G 10 i2 0)), some (.int (nI r))] [] (sT M i (cpN (M i) (M i2) cs r))) ?_
    intro r hr3x ih
    show sw_W _ _ _ _ _ _ _
    refine sw_iload_2 X dX1_copyFrom_25 ?_
    refine sw_iconst X (nI 3) dX1_copyFrom_26 (by decide) ?_
    refine sw_icmp_ge X 51 dX1_copyFrom_27 (by decide) (fun h27 => ?_) (fun h27 => ?_)
    ·
      have e : r = 3 := by have := (nI_leI (by omega) (by omega)).mp h27; omega
      subst e
      refine sw_aload_1 X dX1_copyFrom_51 ?_
      refine gf_X1_21 X hi2 dX1_copyFrom_52 ?_
      refine sw_iconst X (nI 0) dX1_copyFrom_55 (by decide) ?_
      refine sw_aload_0 X dX1_copyFrom_56 ?_
      refine gf_X1_21 X hi dX1_copyFrom_57 ?_
      refine sw_iconst X (nI 0) dX1_copyFrom_60 (by decide) ?_
      refine sw_bipush X (nI 7) dX1_copyFrom_61 (by decide) ?_
      refine sw_copy X (k := 13) (by omega) (by omega) (fun _ _ _ => rfl) rfl (by omega) (by decide) wl_X1_29 wx_native wx_acs wx_sys (by decide) (Nat.le_of_ble_eq_true rfl) dX1_copyFrom_63 ?_
      exact sw_vret X Y dX1_copyFrom_66 rfl (by simp only [upAT, sT_sT, sT_at, sT_ne _ _ hne]; rfl)
    ·
      have hr : r < 3 := by have := mt (nI_leI (by omega) (by omega)).mpr h27; omega
      refine sw_aload_0 X dX1_copyFrom_30 ?_
      refine gf_X1_17 X hi dX1_copyFrom_31 ?_
      refine sw_iload_2 X dX1_copyFrom_34 ?_
      refine sw_aaldT X hi rfl hr dX1_copyFrom_35 ?_
      refine sw_aload_1 X dX1_copyFrom_36 ?_
      refine gf_X1_17 X hi2 dX1_copyFrom_37 ?_
      refine sw_iload_2 X dX1_copyFrom_40 ?_
      refine sw_aaldT X hi2 rfl hr dX1_copyFrom_41 ?_
      refine ca_X1_35 X hi hr (by decide) dX1_copyFrom_42 (Nat.le_of_ble_eq_true rfl) (c_X2_copyFrom hi hi2 hr hne (by rw [sT_ne _ _ hne]; exact (hcs r hr).1) (hcs r hr).2) ?_
      refine sw_mem (M2 := sT M i (cpN (M i) (M i2) cs (r + 1))) (by rw [sT_sT, sT_at, sT_ne _ _ hne]; rfl) ?_
      first | refine sw_inc1_2 X dX1_copyFrom_45 trivial ?_ | refine sw_iinc_2 X _ dX1_copyFrom_45 rfl trivial ?_
      refine sw_goto X 25 dX1_copyFrom_48 (by decide) ?_
      exact ih (r + 1) (by omega) (by omega)
  refine sw_aload_0 X dX1_copyFrom_0 ?_
  refine sw_aload_1 X dX1_copyFrom_1 ?_
  refine gf_X1_25 X hi2 dX1_copyFrom_2 ?_
  refine pf_X1_25 X hi (nzK hK).1 (nzK hK).2 dX1_copyFrom_5 ?_
  refine sw_aload_1 X dX1_copyFrom_8 ?_
  refine gf_X1_9 X hi2 dX1_copyFrom_9 ?_
  refine sw_iconst X (nI 0) dX1_copyFrom_12 (by decide) ?_
  refine sw_aload_0 X dX1_copyFrom_13 ?_
  refine gf_X1_9 X hi dX1_copyFrom_14 ?_
  refine sw_iconst X (nI 0) dX1_copyFrom_17 (by decide) ?_
  refine sw_bipush X (nI 16) dX1_copyFrom_18 (by decide) ?_
  refine sw_copy X (k := 11) (by omega) (by omega) (fun _ _ _ => rfl) rfl (by omega) (by decide) wl_X1_29 wx_native wx_acs wx_sys (by decide) (Nat.le_of_ble_eq_true rfl) dX1_copyFrom_20 ?_
  refine sw_iconst X (nI 0) dX1_copyFrom_23 (by decide) ?_
  refine sw_istore_2 X dX1_copyFrom_24 trivial ?_
  exact sw_mem (by simp (disch := omega) only [upT, upAT, sT_sT, sT_at, sT_ne _ _ hne, tu_ne]; rfl) (L 0 (by omega))
set_option maxHeartbeats 4000000 in
set_option maxRecDepth 100000 in
theorem c_X1_valueCount {G : sv_G} {M : sv_Mem} {i : Nat} (hi : i < 8) : sv_Ct G M_X1_valueCount 0 [.ref (sv_ad G 10 i 0)] M (some (.int (nI (cnt (fun k => M i 11 0 k ≠ -5) 16)))) (M) := by
  refine sv_Ct_of (lo := [some (.ref (sv_ad G 10 i 0)), none, none]) (pn_X1) rfl (Nat.le_of_ble_eq_true rfl) rfl (fun K X Y => ?_)
  replace X : sv_X G K cX1_valueCount RX1 3 0 := X
  replace Y : sv_Y G K (some .int) _ _ := Y
  show sw_W G K 3 0 _ _ _
  have L : ∀ r, r ≤ 16 → (fun r => ∀ x, x = nI (cnt (fun k => M i 11 0 k ≠ -5) r) → sw_W G K 3 4 [some (.ref (sv_ad G 10 i 0)), some (.int x), some (.int (nI r))] [] M) r := by
    refine up_ind (N := 16) (P := fun r => ∀ x, x = nI (cnt (fun k => M i 11 0 k ≠ -5) r) → sw_W G K 3 4 [some (.ref (sv_ad G 10 i 0)), some (.int x), some (.int (nI r))] [] M) ?_
    intro r hr3x ih x hx
    refine sw_iload_2 X dX1_valueCount_4 ?_
    refine sw_bipush X (nI 16) dX1_valueCount_5 (by decide) ?_
    refine sw_icmp_ge X 30 dX1_valueCount_7 (by decide) (fun h7 => ?_) (fun h7 => ?_)
    ·
      have e : r = 16 := by have := (nI_leI (by omega) (by omega)).mp h7; omega
      subst e
      refine sw_iload_1 X dX1_valueCount_30 ?_
      exact sw_iret X Y dX1_valueCount_31 (ri_of hx.symm) (rfl)
    ·
      have hr3 : r < 16 := by have := mt (nI_leI (by omega) (by omega)).mpr h7; omega
      refine sw_aload_0 X dX1_valueCount_10 ?_
      refine gf_X1_9 X hi dX1_valueCount_11 ?_
      refine sw_iload_2 X dX1_valueCount_14 ?_
      refine ia_11 X hi rfl (by omega) dX1_valueCount_15 ?_
      refine sw_bipush X (-5) dX1_valueCount_16 (by decide) ?_
      refine sw_icmp_eq X 24 dX1_valueCount_18 (by decide) (fun h18 => ?_) (fun h18 => ?_)
      ·
        have hx2 := congrArg nI (cnt_f (p := fun k => M i 11 0 k ≠ -5) (n := r) (fun z => z h18)).symm
        rw [hx]
        first | refine sw_inc1_2 X dX1_valueCount_24 trivial ?_ | refine sw_iinc_2 X _ dX1_valueCount_24 rfl trivial ?_
        refine sw_goto X 4 dX1_valueCount_27 (by decide) ?_
        exact ih (r + 1) (by omega) (by omega) _ hx2
      ·
        have hx2 := congrArg nI (cnt_t (p := fun k => M i 11 0 k ≠ -5) (n := r) h18).symm
        rw [hx]
        first | refine sw_inc1_1 X dX1_valueCount_21 trivial ?_ | refine sw_iinc_1 X _ dX1_valueCount_21 rfl trivial ?_
        first | refine sw_inc1_2 X dX1_valueCount_24 trivial ?_ | refine sw_iinc_2 X _ dX1_valueCount_24 rfl trivial ?_
        refine sw_goto X 4 dX1_valueCount_27 (by decide) ?_
        exact ih (r + 1) (by omega) (by omega) _ hx2
  refine sw_iconst X (nI 0) dX1_valueCount_0 (by decide) ?_
  refine sw_istore_1 X dX1_valueCount_1 trivial ?_
  refine sw_iconst X (nI 0) dX1_valueCount_2 (by decide) ?_
  refine sw_istore_2 X dX1_valueCount_3 trivial ?_
  exact L 0 (by omega) _ rfl
set_option maxHeartbeats 4000000 in
set_option maxRecDepth 100000 in
theorem c_X1_valueSum {G : sv_G} {M : sv_Mem} {i : Nat} (hi : i < 8) : sv_Ct G M_X1_valueSum 0 [.ref (sv_ad G 10 i 0)] M (some (.int (vsR (M i) 16))) (M) := by
  refine sv_Ct_of (lo := [some (.ref (sv_ad G 10 i 0)), none, none]) (pn_X1) rfl (Nat.le_of_ble_eq_true rfl) rfl (fun K X Y => ?_)
  replace X : sv_X G K cX1_valueSum RX1 3 0 := X
  replace Y : sv_Y G K (some .int) _ _ := Y
  show sw_W G K 3 0 _ _ _
  have L : ∀ r, r ≤ 16 → (fun r => ∀ x, x = vsR (M i) r → sw_W G K 3 4 [some (.ref (sv_ad G 10 i 0)), some (.int x), some (.int (nI r))] [] M) r := by
    refine up_ind (N := 16) (P := fun r => ∀ x, x = vsR (M i) r → sw_W G K 3 4 [some (.ref (sv_ad G 10 i 0)), some (.int x), some (.int (nI r))] [] M) ?_
    intro r hr3x ih x hx
    refine sw_iload_2 X dX1_valueSum_4 ?_
    refine sw_bipush X (nI 16) dX1_valueSum_5 (by decide) ?_
    refine sw_icmp_ge X 36 dX1_valueSum_7 (by decide) (fun h7 => ?_) (fun h7 => ?_)
    ·
      have e : r = 16 := by have := (nI_leI (by omega) (by omega)).mp h7; omega
      subst e
      refine sw_iload_1 X dX1_valueSum_36 ?_
      exact sw_iret X Y dX1_valueSum_37 (ri_of hx.symm) (rfl)
    ·
      have hr3 : r < 16 := by have := mt (nI_leI (by omega) (by omega)).mpr h7; omega
      refine sw_aload_0 X dX1_valueSum_10 ?_
      refine gf_X1_9 X hi dX1_valueSum_11 ?_
      refine sw_iload_2 X dX1_valueSum_14 ?_
      refine ia_11 X hi rfl (by omega) dX1_valueSum_15 ?_
      refine sw_bipush X (-5) dX1_valueSum_16 (by decide) ?_
      refine sw_icmp_eq X 30 dX1_valueSum_18 (by decide) (fun h18 => ?_) (fun h18 => ?_)
      ·
        have hx2 : x = vsR (M i) (r + 1) := hx.trans (if_pos h18).symm
        first | refine sw_inc1_2 X dX1_valueSum_30 trivial ?_ | refine sw_iinc_2 X _ dX1_valueSum_30 rfl trivial ?_
        refine sw_goto X 4 dX1_valueSum_33 (by decide) ?_
        exact ih (r + 1) (by omega) (by omega) _ hx2
      ·
        have hx2 : x + M i 11 0 r = vsR (M i) (r + 1) := (congrArg (fun z => z + M i 11 0 r) hx).trans (if_neg h18).symm
        refine sw_iload_1 X dX1_valueSum_21 ?_
        refine sw_aload_0 X dX1_valueSum_22 ?_
        refine gf_X1_9 X hi dX1_valueSum_23 ?_
        refine sw_iload_2 X dX1_valueSum_26 ?_
        refine ia_11 X hi rfl (by omega) dX1_valueSum_27 ?_
        refine sw_iadd X dX1_valueSum_28 ?_
        refine sw_istore_1 X dX1_valueSum_29 trivial ?_
        first | refine sw_inc1_2 X dX1_valueSum_30 trivial ?_ | refine sw_iinc_2 X _ dX1_valueSum_30 rfl trivial ?_
        refine sw_goto X 4 dX1_valueSum_33 (by decide) ?_
        exact ih (r + 1) (by omega) (by omega) _ hx2
  refine sw_iconst X (nI 0) dX1_valueSum_0 (by decide) ?_
  refine sw_istore_1 X dX1_valueSum_1 trivial ?_
  refine sw_iconst X (nI 0) dX1_valueSum_2 (by decide) ?_
  refine sw_istore_2 X dX1_valueSum_3 trivial ?_
  exact L 0 (by omega) _ rfl
set_option maxHeartbeats 4000000 in
set_option maxRecDepth 100000 in
theorem c_X1_committedValue {G : sv_G} {M : sv_Mem} {i : Nat} (hi : i < 8) {cs : Nat → Nat} {k : Nat} (hcs : csOk (M i) cs 14) (hk : k < 16) : sv_Ct G M_X1_committedValue 2 [.ref (sv_ad G 10 i 0), .int (nI k)] M (some (.int (cvR (M i) cs k 3))) (M) := by
  refine sv_Ct_of (lo := [some (.ref (sv_ad G 10 i 0)), some (.int (nI k)), none, none]) (pn_X1) rfl (Nat.le_of_ble_eq_true rfl) rfl (fun K X Y => ?_)
  replace X : sv_X G K cX1_committedValue RX1 4 2 := X
  replace Y : sv_Y G K (some .int) _ _ := Y
  show sw_W G K 4 0 _ _ _
  have L : ∀ r, r ≤ 3 → (fun r => ∀ x, x = cvR (M i) cs k r → sw_W G K 4 9 [some (.ref (sv_ad G 10 i 0)), some (.int (nI k)), some (.int x), some (.int (nI r))] [] M) r := by
    refine up_ind (N := 3) (P := fun r => ∀ x, x = cvR (M i) cs k r → sw_W G K 4 9 [some (.ref (sv_ad G 10 i 0)), some (.int (nI k)), some (.int x), some (.int (nI r))] [] M) ?_
    intro r hr3x ih x hx
    refine sw_iload_3 X dX1_committedValue_9 ?_
    refine sw_iconst X (nI 3) dX1_committedValue_10 (by decide) ?_
    refine sw_icmp_ge X 33 dX1_committedValue_11 (by decide) (fun h11 => ?_) (fun h11 => ?_)
    ·
      have e : r = 3 := by have := (nI_leI (by omega) (by omega)).mp h11; omega
      subst e
      refine sw_iload_2 X dX1_committedValue_33 ?_
      exact sw_iret X Y dX1_committedValue_34 (ri_of hx.symm) (rfl)
    ·
      have hr : r < 3 := by have := mt (nI_leI (by omega) (by omega)).mpr h11; omega
      refine sw_aload_0 X dX1_committedValue_14 ?_
      refine gf_X1_17 X hi dX1_committedValue_15 ?_
      refine sw_iload_3 X dX1_committedValue_18 ?_
      refine sw_aaldT X hi rfl hr dX1_committedValue_19 ?_
      refine sw_iconst X (nI 0) dX1_committedValue_20 (by decide) ?_
      refine sw_iload_1 X dX1_committedValue_21 ?_
      refine sw_iload_2 X dX1_committedValue_22 ?_
      refine ca_X1_39 X hi hr (by decide) dX1_committedValue_23 (Nat.le_of_ble_eq_true rfl) (c_X2_valueAt hi hr (hcs r hr).1 (by have := (hcs r hr).2; omega) (by omega) hk) ?_
      refine sw_istore_2 X dX1_committedValue_26 trivial ?_
      first | refine sw_inc1_3 X dX1_committedValue_27 trivial ?_ | refine sw_iinc_3 X _ dX1_committedValue_27 rfl trivial ?_
      refine sw_goto X 9 dX1_committedValue_30 (by decide) ?_
      exact ih (r + 1) (by omega) (by omega) _ (by rw [hx]; rfl)
  refine sw_aload_0 X dX1_committedValue_0 ?_
  refine gf_X1_9 X hi dX1_committedValue_1 ?_
  refine sw_iload_1 X dX1_committedValue_4 ?_
  refine ia_11 X hi rfl (by omega) dX1_committedValue_5 ?_
  refine sw_istore_2 X dX1_committedValue_6 trivial ?_
  refine sw_iconst X (nI 0) dX1_committedValue_7 (by decide) ?_
  refine sw_istore_3 X dX1_committedValue_8 trivial ?_
  exact L 0 (by omega) _ rfl
set_option maxHeartbeats 4000000 in
set_option maxRecDepth 100000 in
theorem c_X1_hasSavepoint {G : sv_G} {M : sv_Mem} {i : Nat} (hi : i < 8) {q c : Nat} (hq : q < 3) (hc : M i 14 q 0 = nI c) (hc2 : c ≤ 14) {p : Int32} : sv_Ct G M_X1_hasSavepoint 2 [.ref (sv_ad G 10 i 0), .int (nI q), .int p] M (some (.int (bI (¬ p < 0 ∧ p < nI (c - 1))))) (M) := by
  refine sv_Ct_of (lo := [some (.ref (sv_ad G 10 i 0)), some (.int (nI q)), some (.int p)]) (pn_X1) rfl (Nat.le_of_ble_eq_true rfl) rfl (fun K X Y => ?_)
  replace X : sv_X G K cX1_hasSavepoint RX1 3 2 := X
  replace Y : sv_Y G K (some .boolean) _ _ := Y
  show sw_W G K 3 0 _ _ _
  refine sw_iload_1 X dX1_hasSavepoint_0 ?_
  refine ca_X1_43 X (by decide) dX1_hasSavepoint_1 (Nat.le_of_ble_eq_true rfl) c_X3_isSession ?_
  refine sw_ifB_eq X 28 dX1_hasSavepoint_4 (by decide) (fun h4 => ?_) (fun h4 => ?_)
  ·
    exact absurd (inR_lt (by omega) (by omega)) h4
  ·
    refine sw_iload_2 X dX1_hasSavepoint_7 ?_
    refine sw_if_lt X 28 dX1_hasSavepoint_8 (by decide) (fun h8 => ?_) (fun h8 => ?_)
    ·
      refine sw_iconst X (nI 0) dX1_hasSavepoint_28 (by decide) ?_
      exact sw_zret X Y dX1_hasSavepoint_29 (by first | rfl | exact sv_nzB) (by first | exact rb_t ⟨h8, Int32.not_le.mp h21⟩ | exact rb_f (fun z => z.1 h8) | exact rb_f (fun z => absurd z.2 (Int32.not_lt.mpr h21))) (rfl)
    ·
      refine sw_iload_2 X dX1_hasSavepoint_11 ?_
      refine sw_aload_0 X dX1_hasSavepoint_12 ?_
      refine gf_X1_17 X hi dX1_hasSavepoint_13 ?_
      refine sw_iload_1 X dX1_hasSavepoint_16 ?_
      refine sw_aaldT X hi rfl hq dX1_hasSavepoint_17 ?_
      refine ca_X1_47 X hi hq (by decide) dX1_hasSavepoint_18 (Nat.le_of_ble_eq_true rfl) (c_X2_savepointCount hi hq hc hc2) ?_
      refine sw_icmp_ge X 28 dX1_hasSavepoint_21 (by decide) (fun h21 => ?_) (fun h21 => ?_)
      ·
        refine sw_iconst X (nI 0) dX1_hasSavepoint_28 (by decide) ?_
        exact sw_zret X Y dX1_hasSavepoint_29 (by first | rfl | exact sv_nzB) (by first | exact rb_t ⟨h8, Int32.not_le.mp h21⟩ | exact rb_f (fun z => z.1 h8) | exact rb_f (fun z => absurd z.2 (Int32.not_lt.mpr h21))) (rfl)
      ·
        refine sw_iconst X (nI 1) dX1_hasSavepoint_24 (by decide) ?_
        refine sw_goto X 29 dX1_hasSavepoint_25 (by decide) ?_
        exact sw_zret X Y dX1_hasSavepoint_29 (by first | rfl | exact sv_nzB) (by first | exact rb_t ⟨h8, Int32.not_le.mp h21⟩ | exact rb_f (fun z => z.1 h8) | exact rb_f (fun z => absurd z.2 (Int32.not_lt.mpr h21))) (rfl)
set_option maxHeartbeats 4000000 in
set_option maxRecDepth 100000 in
theorem c_X1_hasSavepoint_x {G : sv_G} {M : sv_Mem} {v p : Int32} (hv : ¬ inR v (nI 0) (nI 2)) {i : Nat} : sv_Ct G M_X1_hasSavepoint 2 [.ref (sv_ad G 10 i 0), .int v, .int p] M (some (.int (bI False))) (M) := by
  refine sv_Ct_of (lo := [some (.ref (sv_ad G 10 i 0)), some (.int v), some (.int p)]) (pn_X1) rfl (Nat.le_of_ble_eq_true rfl) rfl (fun K X Y => ?_)
  replace X : sv_X G K cX1_hasSavepoint RX1 3 2 := X
  replace Y : sv_Y G K (some .boolean) _ _ := Y
  show sw_W G K 3 0 _ _ _
  refine sw_iload_1 X dX1_hasSavepoint_0 ?_
  refine ca_X1_43 X (by decide) dX1_hasSavepoint_1 (Nat.le_of_ble_eq_true rfl) c_X3_isSession ?_
  refine sw_ifB_eq X 28 dX1_hasSavepoint_4 (by decide) (fun h4 => ?_) (fun h4 => ?_)
  ·
    refine sw_iconst X (nI 0) dX1_hasSavepoint_28 (by decide) ?_
    exact sw_zret X Y dX1_hasSavepoint_29 (rfl) (rfl) (rfl)
  ·
    exact absurd h4 hv
set_option maxHeartbeats 4000000 in
set_option maxRecDepth 100000 in
theorem c_X1_whyImpossible {G : sv_G} {M : sv_Mem} {i : Nat} (hi : i < 8) {q c : Nat} (hq : q < 3) (hc : M i 14 q 0 = nI c) (hc2 : c ≤ 14) {a b : Prop} [Decidable a] [Decidable b] : sv_Ct G M_X1_whyImpossible 1 [.ref (sv_ad G 10 i 0), .int (nI q), .int (bI a), .int (bI b)] M (some (.int (if a then (if b then (if c ≠ 0 then nI 0 else -4) else -2) else -1))) (M) := by
  refine sv_Ct_of (lo := [some (.ref (sv_ad G 10 i 0)), some (.int (nI q)), some (.int (bI a)), some (.int (bI b))]) (pn_X1) rfl (Nat.le_of_ble_eq_true rfl) rfl (fun K X Y => ?_)
  replace X : sv_X G K cX1_whyImpossible RX1 4 1 := X
  replace Y : sv_Y G K (some .int) _ _ := Y
  show sw_W G K 4 0 _ _ _
  refine sw_iload_1 X dX1_whyImpossible_0 ?_
  refine ca_X1_43 X (by decide) dX1_whyImpossible_1 (Nat.le_of_ble_eq_true rfl) c_X3_isSession ?_
  refine sw_ifB_eq X 11 dX1_whyImpossible_4 (by decide) (fun h4 => ?_) (fun h4 => ?_)
  ·
    exact absurd (inR_lt (by omega) (by omega)) h4
  ·
    refine sw_iload_2 X dX1_whyImpossible_7 ?_
    refine sw_ifB_ne X 13 dX1_whyImpossible_8 (by decide) (fun h8 => ?_) (fun h8 => ?_)
    ·
      refine sw_iload_3 X dX1_whyImpossible_13 ?_
      refine sw_ifB_ne X 20 dX1_whyImpossible_14 (by decide) (fun h14 => ?_) (fun h14 => ?_)
      ·
        refine sw_aload_0 X dX1_whyImpossible_20 ?_
        refine gf_X1_17 X hi dX1_whyImpossible_21 ?_
        refine sw_iload_1 X dX1_whyImpossible_24 ?_
        refine sw_aaldT X hi rfl hq dX1_whyImpossible_25 ?_
        refine ca_X1_51 X hi hq (by decide) dX1_whyImpossible_26 (Nat.le_of_ble_eq_true rfl) (c_X2_isOpen hi hq hc hc2) ?_
        refine sw_ifB_eq X 36 dX1_whyImpossible_29 (by decide) (fun h29 => ?_) (fun h29 => ?_)
        ·
          refine sw_bipush X (-4) dX1_whyImpossible_36 (by decide) ?_
          exact sw_iret X Y dX1_whyImpossible_38 (ri_of ((if_pos h8).trans ((if_pos h14).trans (by first | exact if_pos h29 | exact if_neg h29)))) (rfl)
        ·
          refine sw_iconst X (nI 0) dX1_whyImpossible_32 (by decide) ?_
          refine sw_goto X 38 dX1_whyImpossible_33 (by decide) ?_
          exact sw_iret X Y dX1_whyImpossible_38 (ri_of ((if_pos h8).trans ((if_pos h14).trans (by first | exact if_pos h29 | exact if_neg h29)))) (rfl)
      ·
        refine sw_bipush X (-2) dX1_whyImpossible_17 (by decide) ?_
        exact sw_iret X Y dX1_whyImpossible_19 (ri_of ((if_pos h8).trans (if_neg h14))) (rfl)
    ·
      refine sw_iconst X (-1) dX1_whyImpossible_11 (by decide) ?_
      exact sw_iret X Y dX1_whyImpossible_12 (ri_of (if_neg h8)) (rfl)
set_option maxHeartbeats 4000000 in
set_option maxRecDepth 100000 in
theorem c_X1_whyImpossible_x {G : sv_G} {M : sv_Mem} {v a b : Int32} (hv : ¬ inR v (nI 0) (nI 2)) {i : Nat} : sv_Ct G M_X1_whyImpossible 1 [.ref (sv_ad G 10 i 0), .int v, .int a, .int b] M (some (.int (-1))) (M) := by
  refine sv_Ct_of (lo := [some (.ref (sv_ad G 10 i 0)), some (.int v), some (.int a), some (.int b)]) (pn_X1) rfl (Nat.le_of_ble_eq_true rfl) rfl (fun K X Y => ?_)
  replace X : sv_X G K cX1_whyImpossible RX1 4 1 := X
  replace Y : sv_Y G K (some .int) _ _ := Y
  show sw_W G K 4 0 _ _ _
  refine sw_iload_1 X dX1_whyImpossible_0 ?_
  refine ca_X1_43 X (by decide) dX1_whyImpossible_1 (Nat.le_of_ble_eq_true rfl) c_X3_isSession ?_
  refine sw_ifB_eq X 11 dX1_whyImpossible_4 (by decide) (fun h4 => ?_) (fun h4 => ?_)
  ·
    refine sw_iconst X (-1) dX1_whyImpossible_11 (by decide) ?_
    exact sw_iret X Y dX1_whyImpossible_12 (rfl) (rfl)
  ·
    exact absurd h4 hv
