def tkT (T : sv_T) (q k : Nat) (mode : Int32) : sv_T := if busyC T q k mode then T else lkT T q k mode
/-- replaceValue; m is the newest row -/
def rvC (T : sv_T) (q k : Nat) : Int32 := if busyC T q k (nI 2) then -6 else T 11 0 k
def rvT (T : sv_T) (q k m : Nat) (v : Int32) : sv_T := if busyC T q k (nI 2) then T else tu (ncT (lkT T q k (nI 2)) q m k (T 11 0 k)) 11 0 k v
/-- addToValue -/
def avP (T : sv_T) (k : Nat) (ms : Int32) : Int32 := if T 11 0 k = -5 then ms else T 11 0 k
abbrev avX (T : sv_T) (k : Nat) (d ms : Int32) : Prop := avP T k ms = -5 ∨ ¬ inR (avP T k ms + d) (nI 0) (nI 9999)
def avC (T : sv_T) (q k : Nat) (d ms : Int32) : Int32 := if busyC T q k (nI 2) then -6 else if avX T k d ms then -7 else avP T k ms + d
def avT (T : sv_T) (q k m : Nat) (d ms : Int32) : sv_T := if busyC T q k (nI 2) then T else if avX T k d ms then lkT T q k (nI 2) else tu (ncT (lkT T q k (nI 2)) q m k (T 11 0 k)) 11 0 k (avP T k ms + d)
/-- endStatement: the statement's moment is mq + 1 -/
def inc (T : sv_T) (w : Nat) : sv_T := tu T 13 0 w (T 13 0 w + nI 1)
def ewT (T : sv_T) (q mq : Nat) : sv_T := drT (inc T 2) q mq (mq + 2)
def ebT (T : sv_T) (q mq w : Nat) : sv_T := drT (inc (unT T q (mq + 1) (mq + 2)) w) q mq (mq + 2)
def enT (T : sv_T) (q mq : Nat) (a : Int32) : sv_T := if a = -6 then ebT T q mq 3 else if a = -7 then ebT T q mq 4 else ewT T q mq
theorem unT_ne {T : sv_T} {q m c k2 j2 n : Nat} (h1 : ¬ (k2 = 11 ∧ j2 = 0)) (h2 : ¬ (k2 = 17 ∧ j2 = q)) (h3 : ¬ (k2 = 14 ∧ j2 = q ∧ n = 1)) : unT T q m c k2 j2 n = T k2 j2 n := by
  unfold unT
  split
  · by_cases e : k2 = 14 ∧ j2 = q
    · obtain ⟨rfl, rfl⟩ := e
      rw [tu_n _ _ (by omega)]
      unfold ufT
      rw [fcT_ne (by omega), uvT_ne (by omega)]
    · rw [tu_ne _ _ _ e]
      unfold ufT
      rw [fcT_ne (by omega), uvT_ne h1]
  · unfold ufT
    rw [fcT_ne (by omega), uvT_ne h1]
theorem drT_ne {T : sv_T} {j m c k2 j2 n : Nat} (h : ¬ ((k2 = 17 ∨ k2 = 18) ∧ j2 = j)) (h2 : ¬ (k2 = 14 ∧ j2 = j ∧ n = 0)) : drT T j m c k2 j2 n = T k2 j2 n := by
  unfold drT
  by_cases e : k2 = 14 ∧ j2 = j
  · obtain ⟨rfl, rfl⟩ := e
    rw [tu_n _ _ (by omega), drR_ne h]
  · rw [tu_ne _ _ _ e, drR_ne h]
theorem lkT_ne {T : sv_T} {q k k2 j2 : Nat} {mode : Int32} (h : ¬ (k2 = 14 ∧ j2 = q)) : lkT T q k mode k2 j2 = T k2 j2 := by
  unfold lkT
  split
  · exact tu_ne _ _ _ h
  · rfl
theorem lkT_n {T : sv_T} {q k n : Nat} {mode : Int32} (h : n ≠ 1) : lkT T q k mode 14 q n = T 14 q n := by
  unfold lkT
  split
  · exact tu_n _ _ h
  · rfl
theorem inc_ne {T : sv_T} {w k2 j2 : Nat} (h : k2 ≠ 13) : inc T w k2 j2 = T k2 j2 := tu_ne _ _ _ (fun z => h z.1)

set_option maxHeartbeats 4000000 in
set_option maxRecDepth 100000 in
theorem c_X1_isBusy {G : sv_G} {M : sv_Mem} {i : Nat} (hi : i < 8) {q : Nat} (hq : q < 3) {k : Nat} {mode : Int32} (hk : k < 16) : sv_Ct G M_X1_isBusy 1 [.ref (sv_ad G 10 i 0), .int (nI q), .int (nI k), .int mode] M (some (.int (bI (busyC (M i) q k mode)))) (M) := by
  refine sv_Ct_of (lo := [some (.ref (sv_ad G 10 i 0)), some (.int (nI q)), some (.int (nI k)), some (.int mode), none, none]) (pn_X1) rfl (Nat.le_of_ble_eq_true rfl) rfl (fun K X Y => ?_)
  replace X : sv_X G K cX1_isBusy RX1 6 1 := X
  replace Y : sv_Y G K (some .boolean) _ _ := Y
  show sw_W G K 6 0 _ _ _
  refine sw_aload_0 X dX1_isBusy_0 ?_
  refine gf_X1_17 X hi dX1_isBusy_1 ?_
  refine sw_iload_1 X dX1_isBusy_4 ?_
  refine sw_aaldT X hi rfl hq dX1_isBusy_5 ?_
  refine sw_iload_2 X dX1_isBusy_6 ?_
  refine ca_X1_127 X hi hq (by decide) dX1_isBusy_7 (Nat.le_of_ble_eq_true rfl) (c_X2_lockMode hi hq hk) ?_
  refine sw_iload_3 X dX1_isBusy_10 ?_
  refine sw_icmp_lt X 16 dX1_isBusy_11 (by decide) (fun h11 => ?_) (fun h11 => ?_)
  ·
    replace h11 : ¬ mode ≤ md (M i 14 q 1) k := Int32.not_le.mpr h11
    obtain ⟨gb, hgb⟩ : ∃ z : Int32, z = (if mode = nI 1 then nI 1 else nI 0) := ⟨_, rfl⟩
    have L : ∀ r, r ≤ 3 → (fun r => ¬ busyM (M i) q k gb r → sw_W G K 6 31 [some (.ref (sv_ad G 10 i 0)), some (.int (nI q)), some (.int (nI k)), some (.int mode), some (.int gb), some (.int (nI r))] [] M) r := by
      refine up_ind (N := 3) (P := fun r => ¬ busyM (M i) q k gb r → sw_W G K 6 31 [some (.ref (sv_ad G 10 i 0)), some (.int (nI q)), some (.int (nI k)), some (.int mode), some (.int gb), some (.int (nI r))] [] M) ?_
      intro r hr3x ih hb
      show sw_W _ _ _ _ _ _ _
      refine sw_iload_5 X dX1_isBusy_31 ?_
      refine sw_iconst X (nI 3) dX1_isBusy_33 (by decide) ?_
      refine sw_icmp_ge X 67 dX1_isBusy_34 (by decide) (fun h34 => ?_) (fun h34 => ?_)
      ·
        have e : r = 3 := by have := (nI_leI (by omega) (by omega)).mp h34; omega
        subst e
        refine sw_iconst X (nI 0) dX1_isBusy_67 (by decide) ?_
        exact sw_zret X Y dX1_isBusy_68 (by rfl) (rb_f (fun z => hb (by rw [hgb]; exact z.2))) (rfl)
      ·
        have hr : r < 3 := by have := mt (nI_leI (by omega) (by omega)).mpr h34; omega
        refine sw_iload_5 X dX1_isBusy_37 ?_
        refine sw_iload_1 X dX1_isBusy_39 ?_
        refine sw_icmp_eq X 61 dX1_isBusy_40 (by decide) (fun h40 => ?_) (fun h40 => ?_)
        ·
          have hb2 : ¬ busyM (M i) q k gb (r + 1) := fun ⟨o, a, b, c⟩ => hb ⟨o, by have := (nI_eq (by omega) (by omega)).mp h40; omega, b, c⟩
          first | refine sw_inc1_5 X dX1_isBusy_61 trivial ?_ | refine sw_iinc_5 X _ dX1_isBusy_61 rfl trivial ?_
          refine sw_goto X 31 dX1_isBusy_64 (by decide) ?_
          exact ih (r + 1) (by omega) (by omega) hb2
        ·
          refine sw_aload_0 X dX1_isBusy_43 ?_
          refine gf_X1_17 X hi dX1_isBusy_44 ?_
          refine sw_iload_5 X dX1_isBusy_47 ?_
          refine sw_aaldT X hi rfl hr dX1_isBusy_49 ?_
          refine sw_iload_2 X dX1_isBusy_50 ?_
          refine ca_X1_127 X hi hr (by decide) dX1_isBusy_51 (Nat.le_of_ble_eq_true rfl) (c_X2_lockMode hi hr hk) ?_
          refine sw_iload_4 X dX1_isBusy_54 ?_
          refine sw_icmp_le X 61 dX1_isBusy_56 (by decide) (fun h56 => ?_) (fun h56 => ?_)
          ·
            have hb2 : ¬ busyM (M i) q k gb (r + 1) := fun ⟨o, a, b, c⟩ => by
              rcases Nat.lt_or_ge o r with z | z
              · exact hb ⟨o, z, b, c⟩
              · have e : o = r := by omega
                subst e
                exact absurd c (Int32.not_lt.mpr h56)
            first | refine sw_inc1_5 X dX1_isBusy_61 trivial ?_ | refine sw_iinc_5 X _ dX1_isBusy_61 rfl trivial ?_
            refine sw_goto X 31 dX1_isBusy_64 (by decide) ?_
            exact ih (r + 1) (by omega) (by omega) hb2
          ·
            have hbt : busyM (M i) q k gb 3 := ⟨r, hr, fun z => h40 (by rw [z]), Int32.not_le.mp h56⟩
            refine sw_iconst X (nI 1) dX1_isBusy_59 (by decide) ?_
            exact sw_zret X Y dX1_isBusy_60 (by rfl) (rb_t ⟨h11, by rw [hgb] at hbt; exact hbt⟩) (rfl)
    refine sw_iload_3 X dX1_isBusy_16 ?_
    refine sw_iconst X (nI 1) dX1_isBusy_17 (by decide) ?_
    refine sw_icmp_ne X 25 dX1_isBusy_18 (by decide) (fun h18 => ?_) (fun h18 => ?_)
    ·
      refine sw_iconst X (nI 0) dX1_isBusy_25 (by decide) ?_
      refine sw_tope (v2 := gb) (by rw [hgb]; first | (rw [if_neg h18]; done) | (rw [if_pos (by first | exact h18 | exact Decidable.of_not_not h18)]; done)) ?_
      refine sw_istore_4 X dX1_isBusy_26 trivial ?_
      refine sw_iconst X (nI 0) dX1_isBusy_28 (by decide) ?_
      refine sw_istore_5 X dX1_isBusy_29 trivial ?_
      exact L 0 (by omega) (fun ⟨o, a, b, c⟩ => by omega)
    ·
      refine sw_iconst X (nI 1) dX1_isBusy_21 (by decide) ?_
      refine sw_goto X 26 dX1_isBusy_22 (by decide) ?_
      refine sw_tope (v2 := gb) (by rw [hgb]; first | (rw [if_neg h18]; done) | (rw [if_pos (by first | exact h18 | exact Decidable.of_not_not h18)]; done)) ?_
      refine sw_istore_4 X dX1_isBusy_26 trivial ?_
      refine sw_iconst X (nI 0) dX1_isBusy_28 (by decide) ?_
      refine sw_istore_5 X dX1_isBusy_29 trivial ?_
      exact L 0 (by omega) (fun ⟨o, a, b, c⟩ => by omega)
  ·
    replace h11 : mode ≤ md (M i 14 q 1) k := by first | exact h11 | exact Int32.not_lt.mp h11
    refine sw_iconst X (nI 0) dX1_isBusy_14 (by decide) ?_
    exact sw_zret X Y dX1_isBusy_15 (by rfl) (rb_f (fun z => z.1 h11)) (rfl)
set_option maxHeartbeats 4000000 in
set_option maxRecDepth 100000 in
theorem c_X1_takeLock {G : sv_G} {M : sv_Mem} {i : Nat} (hi : i < 8) {q : Nat} (hq : q < 3) {k : Nat} {mode : Int32} (hk : k < 16) : sv_Ct G M_X1_takeLock 2 [.ref (sv_ad G 10 i 0), .int (nI q), .int (nI k), .int mode] M (some (.int (bI (¬ busyC (M i) q k mode)))) (sT M i (tkT (M i) q k mode)) := by
  refine sv_Ct_of (lo := [some (.ref (sv_ad G 10 i 0)), some (.int (nI q)), some (.int (nI k)), some (.int mode)]) (pn_X1) rfl (Nat.le_of_ble_eq_true rfl) rfl (fun K X Y => ?_)
  replace X : sv_X G K cX1_takeLock RX1 4 2 := X
  replace Y : sv_Y G K (some .boolean) _ _ := Y
  show sw_W G K 4 0 _ _ _
  refine sw_aload_0 X dX1_takeLock_0 ?_
  refine sw_iload_1 X dX1_takeLock_1 ?_
  refine sw_iload_2 X dX1_takeLock_2 ?_
  refine sw_iload_3 X dX1_takeLock_3 ?_
  refine ca_X1_124 X hi (by decide) dX1_takeLock_4 (Nat.le_of_ble_eq_true rfl) (c_X1_isBusy hi hq hk) ?_
  refine sw_ifB_eq X 12 dX1_takeLock_7 (by decide) (fun h7 => ?_) (fun h7 => ?_)
  ·
    refine sw_aload_0 X dX1_takeLock_12 ?_
    refine gf_X1_17 X hi dX1_takeLock_13 ?_
    refine sw_iload_1 X dX1_takeLock_16 ?_
    refine sw_aaldT X hi rfl hq dX1_takeLock_17 ?_
    refine sw_iload_2 X dX1_takeLock_18 ?_
    refine ca_X1_127 X hi hq (by decide) dX1_takeLock_19 (Nat.le_of_ble_eq_true rfl) (c_X2_lockMode hi hq hk) ?_
    refine sw_iload_3 X dX1_takeLock_22 ?_
    refine sw_icmp_ge X 37 dX1_takeLock_23 (by decide) (fun h23 => ?_) (fun h23 => ?_)
    ·
      refine sw_iconst X (nI 1) dX1_takeLock_37 (by decide) ?_
      exact sw_zret X Y dX1_takeLock_38 (by first | rfl | exact sv_nzB) (rb_t h7) (by unfold tkT lkT; rw [if_neg h7]; first | (rw [if_pos (by first | exact h23 | exact Int32.not_le.mp h23)]; done) | (rw [if_neg (by first | exact h23 | exact Int32.not_lt.mpr h23), sT_id]; done))
    ·
      refine sw_aload_0 X dX1_takeLock_26 ?_
      refine gf_X1_17 X hi dX1_takeLock_27 ?_
      refine sw_iload_1 X dX1_takeLock_30 ?_
      refine sw_aaldT X hi rfl hq dX1_takeLock_31 ?_
      refine sw_iload_2 X dX1_takeLock_32 ?_
      refine sw_iload_3 X dX1_takeLock_33 ?_
      refine ca_X1_130 X hi hq (by decide) dX1_takeLock_34 (Nat.le_of_ble_eq_true rfl) (c_X2_setLockMode hi hq hk) ?_
      refine sw_iconst X (nI 1) dX1_takeLock_37 (by decide) ?_
      exact sw_zret X Y dX1_takeLock_38 (by first | rfl | exact sv_nzB) (rb_t h7) (by unfold tkT lkT; rw [if_neg h7]; first | (rw [if_pos (by first | exact h23 | exact Int32.not_le.mp h23)]; done) | (rw [if_neg (by first | exact h23 | exact Int32.not_lt.mpr h23), sT_id]; done))
  ·
    refine sw_iconst X (nI 0) dX1_takeLock_10 (by decide) ?_
    exact sw_zret X Y dX1_takeLock_11 (by first | rfl | exact sv_nzB) (rb_f (fun z => z h7)) (by unfold tkT; rw [if_pos h7, sT_id])
set_option maxHeartbeats 4000000 in
set_option maxRecDepth 100000 in
theorem c_X1_undoToMoment {G : sv_G} {M : sv_Mem} {i : Nat} (hi : i < 8) {q : Nat} (hq : q < 3) {c : Nat} (hc : M i 14 q 0 = nI c) (hc2 : c ≤ 14) {m : Nat} (hm : m < c) : sv_Ct G M_X1_undoToMoment 2 [.ref (sv_ad G 10 i 0), .ref (sv_ad G 14 i q), .int (nI m)] M (some (.int (nI (cnt (difP (M i) q m c) 16)))) (sT M i (unT (M i) q m c)) := by
  refine sv_Ct_of (lo := [some (.ref (sv_ad G 10 i 0)), some (.ref (sv_ad G 14 i q)), some (.int (nI m)), none, none, none]) (pn_X1) rfl (Nat.le_of_ble_eq_true rfl) rfl (fun K X Y => ?_)
  replace X : sv_X G K cX1_undoToMoment RX1 6 2 := X
  replace Y : sv_Y G K (some .int) _ _ := Y
  show sw_W G K 6 0 _ _ _
  have L : ∀ r, r ≤ 16 → (fun r => ∀ x l5, x = nI (cnt (difP (M i) q m c) r) → sw_W G K 6 5 [some (.ref (sv_ad G 10 i 0)), some (.ref (sv_ad G 14 i q)), some (.int (nI m)), some (.int x), some (.int (nI r)), l5] [] (sT M i (uvT (M i) q m c r))) r := by
    refine up_ind (N := 16) (P := fun r => ∀ x l5, x = nI (cnt (difP (M i) q m c) r) → sw_W G K 6 5 [some (.ref (sv_ad G 10 i 0)), some (.ref (sv_ad G 14 i q)), some (.int (nI m)), some (.int x), some (.int (nI r)), l5] [] (sT M i (uvT (M i) q m c r))) ?_
    intro r hr3x ih x l5 hx
    show sw_W _ _ _ _ _ _ _
    refine sw_iload_4 X dX1_undoToMoment_5 ?_
    refine sw_bipush X (nI 16) dX1_undoToMoment_7 (by decide) ?_
    refine sw_icmp_ge X 58 dX1_undoToMoment_9 (by decide) (fun h9 => ?_) (fun h9 => ?_)
    ·
      have e : r = 16 := by have := (nI_leI (by omega) (by omega)).mp h9; omega
      subst e
      refine sw_aload_1 X dX1_undoToMoment_58 ?_
      refine sw_iload_2 X dX1_undoToMoment_59 ?_
      refine ca_X1_133 X hi hq (by decide) dX1_undoToMoment_60 (Nat.le_of_ble_eq_true rfl) (c_X2_forgetChangesSince hi hq (by rw [sT_at, uvT_ne (by omega)]; exact hc) hc2 (by omega)) ?_
      refine sw_mem (M2 := sT M i (ufT (M i) q m c)) (by rw [sT_sT, sT_at]; rfl) ?_
      refine sw_aload_0 X dX1_undoToMoment_63 ?_
      refine gf_X1_25 X hi dX1_undoToMoment_64 ?_
      refine sw_tope (v2 := M i 10 0 0) (by rw [sT_at]; unfold ufT; rw [fcT_ne (by omega), uvT_ne (by omega)]) ?_
      refine sw_if_ne X 75 dX1_undoToMoment_67 (by decide) (fun h67 => ?_) (fun h67 => ?_)
      ·
        refine sw_iload_3 X dX1_undoToMoment_75 ?_
        exact sw_iret X Y dX1_undoToMoment_76 (ri_of hx.symm) (by unfold unT; first | (rw [if_pos (by first | exact h67 | exact Decidable.of_not_not h67), sT_sT, sT_at, show ufT (M i) q m c 15 q = M i 15 q from by unfold ufT; rw [fcT_ne (by omega), uvT_ne (by omega)]]; done) | (rw [if_neg (show ¬ M i 10 0 0 = nI 0 from h67)]; done))
      ·
        refine sw_aload_1 X dX1_undoToMoment_70 ?_
        refine sw_iload_2 X dX1_undoToMoment_71 ?_
        refine ca_X1_136 X hi hq (by decide) dX1_undoToMoment_72 (Nat.le_of_ble_eq_true rfl) (c_X2_undoLocks hi hq (by rw [sT_at]; unfold ufT; rw [fcT_ne (by omega), uvT_ne (by omega)]; exact hc) hc2 hm) ?_
        refine sw_iload_3 X dX1_undoToMoment_75 ?_
        exact sw_iret X Y dX1_undoToMoment_76 (ri_of hx.symm) (by unfold unT; first | (rw [if_pos (by first | exact h67 | exact Decidable.of_not_not h67), sT_sT, sT_at, show ufT (M i) q m c 15 q = M i 15 q from by unfold ufT; rw [fcT_ne (by omega), uvT_ne (by omega)]]; done) | (rw [if_neg (show ¬ M i 10 0 0 = nI 0 from h67)]; done))
    ·
      have hr : r < 16 := by have := mt (nI_leI (by omega) (by omega)).mpr h9; omega
      refine sw_aload_1 X dX1_undoToMoment_12 ?_
      refine sw_iload_2 X dX1_undoToMoment_13 ?_
      refine sw_iload_4 X dX1_undoToMoment_14 ?_
      refine sw_aload_0 X dX1_undoToMoment_16 ?_
      refine gf_X1_9 X hi dX1_undoToMoment_17 ?_
      refine sw_iload_4 X dX1_undoToMoment_20 ?_
      refine ia_11 X hi rfl (by omega) dX1_undoToMoment_22 ?_
      refine sw_tope (v2 := M i 11 0 r) (by rw [sT_at, uvT_hi (Nat.le_refl _)]) ?_
      refine ca_X1_39 X hi hq (by decide) dX1_undoToMoment_23 (Nat.le_of_ble_eq_true rfl) (c_X2_valueAt hi hq (by rw [sT_at, uvT_ne (by omega)]; exact hc) hc2 (by omega) hr) ?_
      refine sw_tope (v2 := vaR (M i) q r (M i 11 0 r) c m) (by simp (disch := omega) only [sT_at, uvT_ne]) ?_
      refine sw_istore_5 X dX1_undoToMoment_26 trivial ?_
      refine sw_iload_5 X dX1_undoToMoment_28 ?_
      refine sw_aload_0 X dX1_undoToMoment_30 ?_
      refine gf_X1_9 X hi dX1_undoToMoment_31 ?_
      refine sw_iload_4 X dX1_undoToMoment_34 ?_
      refine ia_11 X hi rfl (by omega) dX1_undoToMoment_36 ?_
      refine sw_tope (v2 := M i 11 0 r) (by rw [sT_at, uvT_hi (Nat.le_refl _)]) ?_
      refine sw_icmp_eq X 43 dX1_undoToMoment_37 (by decide) (fun h37 => ?_) (fun h37 => ?_)
      ·
        have hx2 := congrArg nI (cnt_f (p := difP (M i) q m c) (n := r) (fun z => z h37)).symm
        rw [hx]
        refine sw_aload_0 X dX1_undoToMoment_43 ?_
        refine gf_X1_9 X hi dX1_undoToMoment_44 ?_
        refine sw_iload_4 X dX1_undoToMoment_47 ?_
        refine sw_iload_5 X dX1_undoToMoment_49 ?_
        refine is_11 X hi rfl (by omega) dX1_undoToMoment_51 ?_
        first | refine sw_inc1_4 X dX1_undoToMoment_52 trivial ?_ | refine sw_iinc_4 X _ dX1_undoToMoment_52 rfl trivial ?_
        refine sw_goto X 5 dX1_undoToMoment_55 (by decide) ?_
        refine sw_mem (M2 := sT M i (uvT (M i) q m c (r + 1))) (by rw [upT, sT_sT, sT_at, uvT_step]) ?_
        exact ih (r + 1) (by omega) (by omega) _ _ hx2
      ·
        have hx2 := congrArg nI (cnt_t (p := difP (M i) q m c) (n := r) h37).symm
        rw [hx]
        first | refine sw_inc1_3 X dX1_undoToMoment_40 trivial ?_ | refine sw_iinc_3 X _ dX1_undoToMoment_40 rfl trivial ?_
        refine sw_aload_0 X dX1_undoToMoment_43 ?_
        refine gf_X1_9 X hi dX1_undoToMoment_44 ?_
        refine sw_iload_4 X dX1_undoToMoment_47 ?_
        refine sw_iload_5 X dX1_undoToMoment_49 ?_
        refine is_11 X hi rfl (by omega) dX1_undoToMoment_51 ?_
        first | refine sw_inc1_4 X dX1_undoToMoment_52 trivial ?_ | refine sw_iinc_4 X _ dX1_undoToMoment_52 rfl trivial ?_
        refine sw_goto X 5 dX1_undoToMoment_55 (by decide) ?_
        refine sw_mem (M2 := sT M i (uvT (M i) q m c (r + 1))) (by rw [upT, sT_sT, sT_at, uvT_step]) ?_
        exact ih (r + 1) (by omega) (by omega) _ _ hx2
  refine sw_iconst X (nI 0) dX1_undoToMoment_0 (by decide) ?_
  refine sw_istore_3 X dX1_undoToMoment_1 trivial ?_
  refine sw_iconst X (nI 0) dX1_undoToMoment_2 (by decide) ?_
  refine sw_istore_4 X dX1_undoToMoment_3 trivial ?_
  exact sw_mem (by rw [uvT_0, sT_id]) (L 0 (by omega) _ _ rfl)
set_option maxHeartbeats 4000000 in
set_option maxRecDepth 100000 in
theorem c_X1_endStatement {G : sv_G} {M : sv_Mem} {i : Nat} (hi : i < 8) {q : Nat} (hq : q < 3) {mq : Nat} (hc : M i 14 q 0 = nI (mq + 2)) (hmq : mq ≤ 12) {ans : Int32} : sv_Ct G M_X1_endStatement 3 [.ref (sv_ad G 10 i 0), .int (nI q), .int ans] M (some (.int ans)) (sT M i (enT (M i) q mq ans)) := by
  refine sv_Ct_of (lo := [some (.ref (sv_ad G 10 i 0)), some (.int (nI q)), some (.int ans), none, none]) (pn_X1) rfl (Nat.le_of_ble_eq_true rfl) rfl (fun K X Y => ?_)
  replace X : sv_X G K cX1_endStatement RX1 5 3 := X
  replace Y : sv_Y G K (some .int) _ _ := Y
  show sw_W G K 5 0 _ _ _
  refine sw_aload_0 X dX1_endStatement_0 ?_
  refine gf_X1_17 X hi dX1_endStatement_1 ?_
  refine sw_iload_1 X dX1_endStatement_4 ?_
  refine sw_aaldT X hi rfl hq dX1_endStatement_5 ?_
  refine sw_astore_3 X dX1_endStatement_6 trivial ?_
  refine sw_aload_3 X dX1_endStatement_7 ?_
  refine gf_X1_116 X hi hq dX1_endStatement_8 ?_
  refine sw_tope hc ?_
  refine sw_iconst X (nI 1) dX1_endStatement_11 (by decide) ?_
  refine sw_isub X dX1_endStatement_12 ?_
  refine sw_tope (v2 := nI (mq + 1)) (by rw [pk_sub (by omega)]; congr 1) ?_
  refine sw_istore_4 X dX1_endStatement_13 trivial ?_
  refine sw_iload_2 X dX1_endStatement_15 ?_
  refine sw_bipush X (-6) dX1_endStatement_16 (by decide) ?_
  refine sw_icmp_eq X 27 dX1_endStatement_18 (by decide) (fun h18 => ?_) (fun h18 => ?_)
  ·
    have e6 : ans = -6 := h18
    refine sw_aload_0 X dX1_endStatement_27 ?_
    refine sw_aload_3 X dX1_endStatement_28 ?_
    refine sw_iload_4 X dX1_endStatement_29 ?_
    refine ca_X1_65 X hi (by decide) dX1_endStatement_31 (Nat.le_of_ble_eq_true rfl) (c_X1_undoToMoment hi hq hc (by omega) (by omega)) ?_
    refine sw_pop X dX1_endStatement_34 rfl ?_
    refine sw_aload_0 X dX1_endStatement_35 ?_
    refine gf_X1_21 X hi dX1_endStatement_36 ?_
    refine sw_iload_2 X dX1_endStatement_39 ?_
    refine sw_bipush X (-6) dX1_endStatement_40 (by decide) ?_
    refine sw_icmp_ne X 49 dX1_endStatement_42 (by decide) (fun h42 => ?_) (fun h42 => ?_)
    ·
      have e66 := h42
      refine sw_iconst X (nI 4) dX1_endStatement_49 (by decide) ?_
      refine sw_dup2 X dX1_endStatement_50 rfl rfl ?_
      refine ia_13 X hi rfl (by omega) dX1_endStatement_51 ?_
      refine sw_tope (v2 := (unT (M i) q (mq + 1) (mq + 2)) 13 0 _) (by rw [sT_at]) ?_
      refine sw_iconst X (nI 1) dX1_endStatement_52 (by decide) ?_
      refine sw_iadd X dX1_endStatement_53 ?_
      refine is_13 X hi rfl (by omega) dX1_endStatement_54 ?_
      refine sw_goto X 68 dX1_endStatement_55 (by decide) ?_
      try refine sw_mem (M2 := sT M i (inc (M i) 2)) (by rw [upT]; rfl) ?_
      try refine sw_mem (M2 := sT M i (inc (unT (M i) q (mq + 1) (mq + 2)) 3)) (by rw [upT, sT_sT, sT_at]; rfl) ?_
      try refine sw_mem (M2 := sT M i (inc (unT (M i) q (mq + 1) (mq + 2)) 4)) (by rw [upT, sT_sT, sT_at]; rfl) ?_
      refine sw_aload_3 X dX1_endStatement_68 ?_
      refine sw_iload_4 X dX1_endStatement_69 ?_
      refine sw_iconst X (nI 1) dX1_endStatement_71 (by decide) ?_
      refine sw_isub X dX1_endStatement_72 ?_
      refine sw_tope (v2 := nI mq) (by rw [pk_sub (by omega)]; congr 1) ?_
      refine ca_X1_83 X hi hq (by decide) dX1_endStatement_73 (Nat.le_of_ble_eq_true rfl) (c_X2_dropMomentsAfter hi hq (by rw [sT_at, inc_ne (by omega)]; first | exact hc | (rw [unT_ne (by omega) (by omega) (by omega)]; exact hc)) (by omega) (by omega)) ?_
      refine sw_iload_2 X dX1_endStatement_76 ?_
      exact sw_iret X Y dX1_endStatement_77 (rfl) (by rw [sT_sT, sT_at]; unfold enT; first | (rw [if_pos e66]; rfl) | (rw [if_neg e66, if_pos e7]; rfl) | (rw [if_neg e6, if_neg e7]; rfl) | exact absurd e6 e66)
    ·
      have e66 : ans = -6 := by first | exact h42 | exact Decidable.of_not_not h42
      refine sw_iconst X (nI 3) dX1_endStatement_45 (by decide) ?_
      refine sw_goto X 50 dX1_endStatement_46 (by decide) ?_
      refine sw_dup2 X dX1_endStatement_50 rfl rfl ?_
      refine ia_13 X hi rfl (by omega) dX1_endStatement_51 ?_
      refine sw_tope (v2 := (unT (M i) q (mq + 1) (mq + 2)) 13 0 _) (by rw [sT_at]) ?_
      refine sw_iconst X (nI 1) dX1_endStatement_52 (by decide) ?_
      refine sw_iadd X dX1_endStatement_53 ?_
      refine is_13 X hi rfl (by omega) dX1_endStatement_54 ?_
      refine sw_goto X 68 dX1_endStatement_55 (by decide) ?_
      try refine sw_mem (M2 := sT M i (inc (M i) 2)) (by rw [upT]; rfl) ?_
      try refine sw_mem (M2 := sT M i (inc (unT (M i) q (mq + 1) (mq + 2)) 3)) (by rw [upT, sT_sT, sT_at]; rfl) ?_
      try refine sw_mem (M2 := sT M i (inc (unT (M i) q (mq + 1) (mq + 2)) 4)) (by rw [upT, sT_sT, sT_at]; rfl) ?_
      refine sw_aload_3 X dX1_endStatement_68 ?_
      refine sw_iload_4 X dX1_endStatement_69 ?_
      refine sw_iconst X (nI 1) dX1_endStatement_71 (by decide) ?_
      refine sw_isub X dX1_endStatement_72 ?_
      refine sw_tope (v2 := nI mq) (by rw [pk_sub (by omega)]; congr 1) ?_
      refine ca_X1_83 X hi hq (by decide) dX1_endStatement_73 (Nat.le_of_ble_eq_true rfl) (c_X2_dropMomentsAfter hi hq (by rw [sT_at, inc_ne (by omega)]; first | exact hc | (rw [unT_ne (by omega) (by omega) (by omega)]; exact hc)) (by omega) (by omega)) ?_
      refine sw_iload_2 X dX1_endStatement_76 ?_
      exact sw_iret X Y dX1_endStatement_77 (rfl) (by rw [sT_sT, sT_at]; unfold enT; first | (rw [if_pos e66]; rfl) | (rw [if_neg e66, if_pos e7]; rfl) | (rw [if_neg e6, if_neg e7]; rfl) | exact absurd e6 e66)
  ·
    have e6 : ¬ ans = -6 := h18
    refine sw_iload_2 X dX1_endStatement_21 ?_
    refine sw_bipush X (-7) dX1_endStatement_22 (by decide) ?_
    refine sw_icmp_ne X 58 dX1_endStatement_24 (by decide) (fun h24 => ?_) (fun h24 => ?_)
    ·
      have e7 : ¬ ans = -7 := h24
      refine sw_aload_0 X dX1_endStatement_58 ?_
      refine gf_X1_21 X hi dX1_endStatement_59 ?_
      refine sw_iconst X (nI 2) dX1_endStatement_62 (by decide) ?_
      refine sw_dup2 X dX1_endStatement_63 rfl rfl ?_
      refine ia_13 X hi rfl (by omega) dX1_endStatement_64 ?_
      refine sw_iconst X (nI 1) dX1_endStatement_65 (by decide) ?_
      refine sw_iadd X dX1_endStatement_66 ?_
      refine is_13 X hi rfl (by omega) dX1_endStatement_67 ?_
      try refine sw_mem (M2 := sT M i (inc (M i) 2)) (by rw [upT]; rfl) ?_
      try refine sw_mem (M2 := sT M i (inc (unT (M i) q (mq + 1) (mq + 2)) 3)) (by rw [upT, sT_sT, sT_at]; rfl) ?_
      try refine sw_mem (M2 := sT M i (inc (unT (M i) q (mq + 1) (mq + 2)) 4)) (by rw [upT, sT_sT, sT_at]; rfl) ?_
      refine sw_aload_3 X dX1_endStatement_68 ?_
      refine sw_iload_4 X dX1_endStatement_69 ?_
      refine sw_iconst X (nI 1) dX1_endStatement_71 (by decide) ?_
      refine sw_isub X dX1_endStatement_72 ?_
      refine sw_tope (v2 := nI mq) (by rw [pk_sub (by omega)]; congr 1) ?_
      refine ca_X1_83 X hi hq (by decide) dX1_endStatement_73 (Nat.le_of_ble_eq_true rfl) (c_X2_dropMomentsAfter hi hq (by rw [sT_at, inc_ne (by omega)]; first | exact hc | (rw [unT_ne (by omega) (by omega) (by omega)]; exact hc)) (by omega) (by omega)) ?_
      refine sw_iload_2 X dX1_endStatement_76 ?_
      exact sw_iret X Y dX1_endStatement_77 (rfl) (by rw [sT_sT, sT_at]; unfold enT; first | (rw [if_pos e66]; rfl) | (rw [if_neg e66, if_pos e7]; rfl) | (rw [if_neg e6, if_neg e7]; rfl) | exact absurd e6 e66)
    ·
      have e7 : ans = -7 := by first | exact h24 | exact Decidable.of_not_not h24
      refine sw_aload_0 X dX1_endStatement_27 ?_
      refine sw_aload_3 X dX1_endStatement_28 ?_
      refine sw_iload_4 X dX1_endStatement_29 ?_
      refine ca_X1_65 X hi (by decide) dX1_endStatement_31 (Nat.le_of_ble_eq_true rfl) (c_X1_undoToMoment hi hq hc (by omega) (by omega)) ?_
      refine sw_pop X dX1_endStatement_34 rfl ?_
      refine sw_aload_0 X dX1_endStatement_35 ?_
      refine gf_X1_21 X hi dX1_endStatement_36 ?_
      refine sw_iload_2 X dX1_endStatement_39 ?_
      refine sw_bipush X (-6) dX1_endStatement_40 (by decide) ?_
      refine sw_icmp_ne X 49 dX1_endStatement_42 (by decide) (fun h42 => ?_) (fun h42 => ?_)
      ·
        have e66 := h42
        refine sw_iconst X (nI 4) dX1_endStatement_49 (by decide) ?_
        refine sw_dup2 X dX1_endStatement_50 rfl rfl ?_
        refine ia_13 X hi rfl (by omega) dX1_endStatement_51 ?_
        refine sw_tope (v2 := (unT (M i) q (mq + 1) (mq + 2)) 13 0 _) (by rw [sT_at]) ?_
        refine sw_iconst X (nI 1) dX1_endStatement_52 (by decide) ?_
        refine sw_iadd X dX1_endStatement_53 ?_
        refine is_13 X hi rfl (by omega) dX1_endStatement_54 ?_
        refine sw_goto X 68 dX1_endStatement_55 (by decide) ?_
        try refine sw_mem (M2 := sT M i (inc (M i) 2)) (by rw [upT]; rfl) ?_
        try refine sw_mem (M2 := sT M i (inc (unT (M i) q (mq + 1) (mq + 2)) 3)) (by rw [upT, sT_sT, sT_at]; rfl) ?_
        try refine sw_mem (M2 := sT M i (inc (unT (M i) q (mq + 1) (mq + 2)) 4)) (by rw [upT, sT_sT, sT_at]; rfl) ?_
        refine sw_aload_3 X dX1_endStatement_68 ?_
        refine sw_iload_4 X dX1_endStatement_69 ?_
        refine sw_iconst X (nI 1) dX1_endStatement_71 (by decide) ?_
        refine sw_isub X dX1_endStatement_72 ?_
        refine sw_tope (v2 := nI mq) (by rw [pk_sub (by omega)]; congr 1) ?_
        refine ca_X1_83 X hi hq (by decide) dX1_endStatement_73 (Nat.le_of_ble_eq_true rfl) (c_X2_dropMomentsAfter hi hq (by rw [sT_at, inc_ne (by omega)]; first | exact hc | (rw [unT_ne (by omega) (by omega) (by omega)]; exact hc)) (by omega) (by omega)) ?_
        refine sw_iload_2 X dX1_endStatement_76 ?_
        exact sw_iret X Y dX1_endStatement_77 (rfl) (by rw [sT_sT, sT_at]; unfold enT; first | (rw [if_pos e66]; rfl) | (rw [if_neg e66, if_pos e7]; rfl) | (rw [if_neg e6, if_neg e7]; rfl) | exact absurd e6 e66)
      ·
        have e66 : ans = -6 := by first | exact h42 | exact Decidable.of_not_not h42
        refine sw_iconst X (nI 3) dX1_endStatement_45 (by decide) ?_
        refine sw_goto X 50 dX1_endStatement_46 (by decide) ?_
        refine sw_dup2 X dX1_endStatement_50 rfl rfl ?_
        refine ia_13 X hi rfl (by omega) dX1_endStatement_51 ?_
        refine sw_tope (v2 := (unT (M i) q (mq + 1) (mq + 2)) 13 0 _) (by rw [sT_at]) ?_
        refine sw_iconst X (nI 1) dX1_endStatement_52 (by decide) ?_
        refine sw_iadd X dX1_endStatement_53 ?_
        refine is_13 X hi rfl (by omega) dX1_endStatement_54 ?_
        refine sw_goto X 68 dX1_endStatement_55 (by decide) ?_
        try refine sw_mem (M2 := sT M i (inc (M i) 2)) (by rw [upT]; rfl) ?_
        try refine sw_mem (M2 := sT M i (inc (unT (M i) q (mq + 1) (mq + 2)) 3)) (by rw [upT, sT_sT, sT_at]; rfl) ?_
        try refine sw_mem (M2 := sT M i (inc (unT (M i) q (mq + 1) (mq + 2)) 4)) (by rw [upT, sT_sT, sT_at]; rfl) ?_
        refine sw_aload_3 X dX1_endStatement_68 ?_
        refine sw_iload_4 X dX1_endStatement_69 ?_
        refine sw_iconst X (nI 1) dX1_endStatement_71 (by decide) ?_
        refine sw_isub X dX1_endStatement_72 ?_
        refine sw_tope (v2 := nI mq) (by rw [pk_sub (by omega)]; congr 1) ?_
        refine ca_X1_83 X hi hq (by decide) dX1_endStatement_73 (Nat.le_of_ble_eq_true rfl) (c_X2_dropMomentsAfter hi hq (by rw [sT_at, inc_ne (by omega)]; first | exact hc | (rw [unT_ne (by omega) (by omega) (by omega)]; exact hc)) (by omega) (by omega)) ?_
        refine sw_iload_2 X dX1_endStatement_76 ?_
        exact sw_iret X Y dX1_endStatement_77 (rfl) (by rw [sT_sT, sT_at]; unfold enT; first | (rw [if_pos e66]; rfl) | (rw [if_neg e66, if_pos e7]; rfl) | (rw [if_neg e6, if_neg e7]; rfl) | exact absurd e6 e66)
theorem tkT_t {T : sv_T} {q k : Nat} {mode : Int32} (h : busyC T q k mode) : tkT T q k mode = T := if_pos h
theorem tkT_f {T : sv_T} {q k : Nat} {mode : Int32} (h : ¬ busyC T q k mode) : tkT T q k mode = lkT T q k mode := if_neg h

set_option maxHeartbeats 4000000 in
set_option maxRecDepth 100000 in
theorem c_X1_replaceValue {G : sv_G} {M : sv_Mem} {i : Nat} (hi : i < 8) {q : Nat} (hq : q < 3) {m : Nat} (hc : M i 14 q 0 = nI (m + 1)) (hm : m < 14) {k : Nat} {v : Int32} (hk : k < 16) : sv_Ct G M_X1_replaceValue 3 [.ref (sv_ad G 10 i 0), .int (nI q), .int (nI k), .int v] M (some (.int (rvC (M i) q k))) (sT M i (rvT (M i) q k m v)) := by
  refine sv_Ct_of (lo := [some (.ref (sv_ad G 10 i 0)), some (.int (nI q)), some (.int (nI k)), some (.int v), none]) (pn_X1) rfl (Nat.le_of_ble_eq_true rfl) rfl (fun K X Y => ?_)
  replace X : sv_X G K cX1_replaceValue RX1 5 3 := X
  replace Y : sv_Y G K (some .int) _ _ := Y
  show sw_W G K 5 0 _ _ _
  refine sw_aload_0 X dX1_replaceValue_0 ?_
  refine sw_iload_1 X dX1_replaceValue_1 ?_
  refine sw_iload_2 X dX1_replaceValue_2 ?_
  refine sw_iconst X (nI 2) dX1_replaceValue_3 (by decide) ?_
  refine ca_X1_93 X hi (by decide) dX1_replaceValue_4 (Nat.le_of_ble_eq_true rfl) (c_X1_takeLock hi hq hk) ?_
  refine sw_ifB_ne X 13 dX1_replaceValue_7 (by decide) (fun h7 => ?_) (fun h7 => ?_)
  ·
    refine sw_mem (M2 := sT M i (lkT (M i) q k (nI 2))) (by rw [tkT_f h7]) ?_
    refine sw_aload_0 X dX1_replaceValue_13 ?_
    refine gf_X1_9 X hi dX1_replaceValue_14 ?_
    refine sw_iload_2 X dX1_replaceValue_17 ?_
    refine ia_11 X hi rfl (by omega) dX1_replaceValue_18 ?_
    refine sw_tope (v2 := M i 11 0 k) (by rw [sT_at, lkT_ne (by omega)]) ?_
    refine sw_istore_4 X dX1_replaceValue_19 trivial ?_
    refine sw_aload_0 X dX1_replaceValue_21 ?_
    refine gf_X1_17 X hi dX1_replaceValue_22 ?_
    refine sw_iload_1 X dX1_replaceValue_25 ?_
    refine sw_aaldT X hi rfl hq dX1_replaceValue_26 ?_
    refine sw_iload_2 X dX1_replaceValue_27 ?_
    refine sw_iload_4 X dX1_replaceValue_28 ?_
    refine ca_X1_120 X hi hq (by decide) dX1_replaceValue_30 (Nat.le_of_ble_eq_true rfl) (c_X2_noteChange hi hq (by rw [sT_at, lkT_n (by omega)]; exact hc) hm hk) ?_
    refine sw_aload_0 X dX1_replaceValue_33 ?_
    refine gf_X1_9 X hi dX1_replaceValue_34 ?_
    refine sw_iload_2 X dX1_replaceValue_37 ?_
    refine sw_iload_3 X dX1_replaceValue_38 ?_
    refine is_11 X hi rfl (by omega) dX1_replaceValue_39 ?_
    refine sw_iload_4 X dX1_replaceValue_40 ?_
    exact sw_iret X Y dX1_replaceValue_42 (ri_of (if_neg h7)) (by unfold rvT; rw [if_neg h7]; simp only [upT, sT_sT, sT_at])
  ·
    replace h7 : busyC (M i) q k (nI 2) := Decidable.of_not_not h7
    refine sw_mem (M2 := M) (by rw [tkT_t h7, sT_id]) ?_
    refine sw_bipush X (-6) dX1_replaceValue_10 (by decide) ?_
    exact sw_iret X Y dX1_replaceValue_12 (ri_of (if_pos h7)) (by unfold rvT; rw [if_pos h7, sT_id])
set_option maxHeartbeats 4000000 in
set_option maxRecDepth 100000 in
theorem c_X1_addToValue {G : sv_G} {M : sv_Mem} {i : Nat} (hi : i < 8) {q : Nat} (hq : q < 3) {m : Nat} (hc : M i 14 q 0 = nI (m + 1)) (hm : m < 14) {k : Nat} {d ms : Int32} (hk : k < 16) : sv_Ct G M_X1_addToValue 3 [.ref (sv_ad G 10 i 0), .int (nI q), .int (nI k), .int d, .int ms] M (some (.int (avC (M i) q k d ms))) (sT M i (avT (M i) q k m d ms)) := by
  refine sv_Ct_of (lo := [some (.ref (sv_ad G 10 i 0)), some (.int (nI q)), some (.int (nI k)), some (.int d), some (.int ms), none]) (pn_X1) rfl (Nat.le_of_ble_eq_true rfl) rfl (fun K X Y => ?_)
  replace X : sv_X G K cX1_addToValue RX1 6 3 := X
  replace Y : sv_Y G K (some .int) _ _ := Y
  show sw_W G K 6 0 _ _ _
  refine sw_aload_0 X dX1_addToValue_0 ?_
  refine sw_iload_1 X dX1_addToValue_1 ?_
  refine sw_iload_2 X dX1_addToValue_2 ?_
  refine sw_iconst X (nI 2) dX1_addToValue_3 (by decide) ?_
  refine ca_X1_93 X hi (by decide) dX1_addToValue_4 (Nat.le_of_ble_eq_true rfl) (c_X1_takeLock hi hq hk) ?_
  refine sw_ifB_ne X 13 dX1_addToValue_7 (by decide) (fun h7 => ?_) (fun h7 => ?_)
  ·
    refine sw_mem (M2 := sT M i (lkT (M i) q k (nI 2))) (by rw [tkT_f h7]) ?_
    refine sw_aload_0 X dX1_addToValue_13 ?_
    refine gf_X1_9 X hi dX1_addToValue_14 ?_
    refine sw_iload_2 X dX1_addToValue_17 ?_
    refine ia_11 X hi rfl (by omega) dX1_addToValue_18 ?_
    refine sw_tope (v2 := M i 11 0 k) (by rw [sT_at, lkT_ne (by omega)]) ?_
    refine sw_bipush X (-5) dX1_addToValue_19 (by decide) ?_
    refine sw_icmp_ne X 29 dX1_addToValue_21 (by decide) (fun h21 => ?_) (fun h21 => ?_)
    ·
      have hv : avP (M i) k ms = M i 11 0 k := if_neg h21
      refine sw_aload_0 X dX1_addToValue_29 ?_
      refine gf_X1_9 X hi dX1_addToValue_30 ?_
      refine sw_iload_2 X dX1_addToValue_33 ?_
      refine ia_11 X hi rfl (by omega) dX1_addToValue_34 ?_
      refine sw_tope (v2 := avP (M i) k ms) (by first | (rw [sT_at, lkT_ne (by omega)]; exact hv.symm) | exact hv.symm) ?_
      refine sw_istore_5 X dX1_addToValue_35 trivial ?_
      refine sw_iload_5 X dX1_addToValue_37 ?_
      refine sw_bipush X (-5) dX1_addToValue_39 (by decide) ?_
      refine sw_icmp_eq X 54 dX1_addToValue_41 (by decide) (fun h41 => ?_) (fun h41 => ?_)
      ·
        have hX : avX (M i) k d ms := Or.inl (by first | exact h41 | exact Decidable.of_not_not h41)
        refine sw_bipush X (-7) dX1_addToValue_54 (by decide) ?_
        exact sw_iret X Y dX1_addToValue_56 (ri_of ((if_neg h7).trans (if_pos hX))) (by unfold avT; rw [if_neg h7, if_pos hX])
      ·
        refine sw_iload_5 X dX1_addToValue_44 ?_
        refine sw_iload_3 X dX1_addToValue_46 ?_
        refine sw_iadd X dX1_addToValue_47 ?_
        refine ca_X1_100 X (by decide) dX1_addToValue_48 (Nat.le_of_ble_eq_true rfl) c_X3_isValue ?_
        refine sw_ifB_ne X 57 dX1_addToValue_51 (by decide) (fun h51 => ?_) (fun h51 => ?_)
        ·
          have hX : ¬ avX (M i) k d ms := fun z => z.elim h41 (fun z => z h51)
          refine sw_aload_0 X dX1_addToValue_57 ?_
          refine gf_X1_17 X hi dX1_addToValue_58 ?_
          refine sw_iload_1 X dX1_addToValue_61 ?_
          refine sw_aaldT X hi rfl hq dX1_addToValue_62 ?_
          refine sw_iload_2 X dX1_addToValue_63 ?_
          refine sw_aload_0 X dX1_addToValue_64 ?_
          refine gf_X1_9 X hi dX1_addToValue_65 ?_
          refine sw_iload_2 X dX1_addToValue_68 ?_
          refine ia_11 X hi rfl (by omega) dX1_addToValue_69 ?_
          refine sw_tope (v2 := M i 11 0 k) (by rw [sT_at, lkT_ne (by omega)]) ?_
          refine ca_X1_120 X hi hq (by decide) dX1_addToValue_70 (Nat.le_of_ble_eq_true rfl) (c_X2_noteChange hi hq (by rw [sT_at, lkT_n (by omega)]; exact hc) hm hk) ?_
          refine sw_mem (M2 := sT M i (ncT (lkT (M i) q k (nI 2)) q m k (M i 11 0 k))) (by rw [sT_sT, sT_at]) ?_
          refine sw_aload_0 X dX1_addToValue_73 ?_
          refine gf_X1_9 X hi dX1_addToValue_74 ?_
          refine sw_iload_2 X dX1_addToValue_77 ?_
          refine sw_iload_5 X dX1_addToValue_78 ?_
          refine sw_iload_3 X dX1_addToValue_80 ?_
          refine sw_iadd X dX1_addToValue_81 ?_
          refine is_11 X hi rfl (by omega) dX1_addToValue_82 ?_
          refine sw_aload_0 X dX1_addToValue_83 ?_
          refine gf_X1_9 X hi dX1_addToValue_84 ?_
          refine sw_iload_2 X dX1_addToValue_87 ?_
          refine ia_11 X hi rfl (by omega) dX1_addToValue_88 ?_
          refine sw_tope (v2 := avP (M i) k ms + d) (by rw [upT, sT_sT, sT_at, sT_at, tu_self]) ?_
          exact sw_iret X Y dX1_addToValue_89 (ri_of ((if_neg h7).trans (if_neg hX))) (by unfold avT; rw [if_neg h7, if_neg hX, upT, sT_sT, sT_at])
        ·
          have hX : avX (M i) k d ms := Or.inr h51
          refine sw_bipush X (-7) dX1_addToValue_54 (by decide) ?_
          exact sw_iret X Y dX1_addToValue_56 (ri_of ((if_neg h7).trans (if_pos hX))) (by unfold avT; rw [if_neg h7, if_pos hX])
    ·
      have hv : avP (M i) k ms = ms := if_pos (by first | exact h21 | exact Decidable.of_not_not h21)
      refine sw_iload_4 X dX1_addToValue_24 ?_
      refine sw_goto X 35 dX1_addToValue_26 (by decide) ?_
      refine sw_tope (v2 := avP (M i) k ms) (by first | (rw [sT_at, lkT_ne (by omega)]; exact hv.symm) | exact hv.symm) ?_
      refine sw_istore_5 X dX1_addToValue_35 trivial ?_
      refine sw_iload_5 X dX1_addToValue_37 ?_
      refine sw_bipush X (-5) dX1_addToValue_39 (by decide) ?_
      refine sw_icmp_eq X 54 dX1_addToValue_41 (by decide) (fun h41 => ?_) (fun h41 => ?_)
      ·
        have hX : avX (M i) k d ms := Or.inl (by first | exact h41 | exact Decidable.of_not_not h41)
        refine sw_bipush X (-7) dX1_addToValue_54 (by decide) ?_
        exact sw_iret X Y dX1_addToValue_56 (ri_of ((if_neg h7).trans (if_pos hX))) (by unfold avT; rw [if_neg h7, if_pos hX])
      ·
        refine sw_iload_5 X dX1_addToValue_44 ?_
        refine sw_iload_3 X dX1_addToValue_46 ?_
        refine sw_iadd X dX1_addToValue_47 ?_
        refine ca_X1_100 X (by decide) dX1_addToValue_48 (Nat.le_of_ble_eq_true rfl) c_X3_isValue ?_
        refine sw_ifB_ne X 57 dX1_addToValue_51 (by decide) (fun h51 => ?_) (fun h51 => ?_)
        ·
          have hX : ¬ avX (M i) k d ms := fun z => z.elim h41 (fun z => z h51)
          refine sw_aload_0 X dX1_addToValue_57 ?_
          refine gf_X1_17 X hi dX1_addToValue_58 ?_
          refine sw_iload_1 X dX1_addToValue_61 ?_
          refine sw_aaldT X hi rfl hq dX1_addToValue_62 ?_
          refine sw_iload_2 X dX1_addToValue_63 ?_
          refine sw_aload_0 X dX1_addToValue_64 ?_
          refine gf_X1_9 X hi dX1_addToValue_65 ?_
          refine sw_iload_2 X dX1_addToValue_68 ?_
          refine ia_11 X hi rfl (by omega) dX1_addToValue_69 ?_
          refine sw_tope (v2 := M i 11 0 k) (by rw [sT_at, lkT_ne (by omega)]) ?_
          refine ca_X1_120 X hi hq (by decide) dX1_addToValue_70 (Nat.le_of_ble_eq_true rfl) (c_X2_noteChange hi hq (by rw [sT_at, lkT_n (by omega)]; exact hc) hm hk) ?_
          refine sw_mem (M2 := sT M i (ncT (lkT (M i) q k (nI 2)) q m k (M i 11 0 k))) (by rw [sT_sT, sT_at]) ?_
          refine sw_aload_0 X dX1_addToValue_73 ?_
          refine gf_X1_9 X hi dX1_addToValue_74 ?_
          refine sw_iload_2 X dX1_addToValue_77 ?_
          refine sw_iload_5 X dX1_addToValue_78 ?_
          refine sw_iload_3 X dX1_addToValue_80 ?_
          refine sw_iadd X dX1_addToValue_81 ?_
          refine is_11 X hi rfl (by omega) dX1_addToValue_82 ?_
          refine sw_aload_0 X dX1_addToValue_83 ?_
          refine gf_X1_9 X hi dX1_addToValue_84 ?_
          refine sw_iload_2 X dX1_addToValue_87 ?_
          refine ia_11 X hi rfl (by omega) dX1_addToValue_88 ?_
          refine sw_tope (v2 := avP (M i) k ms + d) (by rw [upT, sT_sT, sT_at, sT_at, tu_self]) ?_
          exact sw_iret X Y dX1_addToValue_89 (ri_of ((if_neg h7).trans (if_neg hX))) (by unfold avT; rw [if_neg h7, if_neg hX, upT, sT_sT, sT_at])
        ·
          have hX : avX (M i) k d ms := Or.inr h51
          refine sw_bipush X (-7) dX1_addToValue_54 (by decide) ?_
          exact sw_iret X Y dX1_addToValue_56 (ri_of ((if_neg h7).trans (if_pos hX))) (by unfold avT; rw [if_neg h7, if_pos hX])
  ·
    replace h7 : busyC (M i) q k (nI 2) := Decidable.of_not_not h7
    refine sw_mem (M2 := M) (by rw [tkT_t h7, sT_id]) ?_
    refine sw_bipush X (-6) dX1_addToValue_10 (by decide) ?_
    exact sw_iret X Y dX1_addToValue_12 (ri_of (if_pos h7)) (by unfold avT; rw [if_pos h7, sT_id])
