theorem mv_t {s n : Nat → Int32} {q a b : Nat} {amt : Int32} (h : adC s q a (-amt) (nI 1) = 0) : mvP s n q a b amt = (adS (adS s q a (-amt) (nI 1)) q b amt (nI 0), adN (adS s q a (-amt) (nI 1)) (adN s n q a (-amt) (nI 1)) q b amt (nI 0), adC (adS s q a (-amt) (nI 1)) q b amt (nI 0)) := if_pos h
theorem mv_f {s n : Nat → Int32} {q a b : Nat} {amt : Int32} (h : ¬ adC s q a (-amt) (nI 1) = 0) : mvP s n q a b amt = (adS s q a (-amt) (nI 1), adN s n q a (-amt) (nI 1), adC s q a (-amt) (nI 1)) := if_neg h
theorem mv_0 {s n s1 n1 : Nat → Int32} {q a b : Nat} (mq : Nat) {amt e1 : Int32} (h : mvP s n q a b amt = (s1, n1, e1)) (he : e1 = 0) : mvC s n q a b amt = s1 (8 + b) ∧ mvS s n q mq a b amt = ewS s1 n1 q mq ∧ mvN s n q a b amt = n1 := by
  unfold mvC mvS mvN
  rw [h]
  exact ⟨if_pos he, if_pos he, if_pos he⟩
theorem mv_1 {s n s1 n1 : Nat → Int32} {q a b : Nat} (mq : Nat) {amt e1 : Int32} (h : mvP s n q a b amt = (s1, n1, e1)) (he : ¬ e1 = 0) : mvC s n q a b amt = e1 ∧ mvS s n q mq a b amt = ebS s1 n1 q mq e1 ∧ mvN s n q a b amt = ebN s1 n1 := by
  unfold mvC mvS mvN
  rw [h]
  exact ⟨if_neg he, if_neg he, if_neg he⟩
/-- the reference's snapshot, text -/
def mP (M : sv_Mem) (h : Nat → Int32) : sv_Mem := sv_upA M 9 7 0 h
def mT (M : sv_Mem) (h : Nat → Int32) : sv_Mem := sv_upA M 9 8 0 h
theorem up7 (M : sv_Mem) (n : Nat) (v : Int32) : sv_up M 9 7 0 n v = mP M (va_up (M 9 7 0) n v) := rfl
theorem up8 (M : sv_Mem) (n : Nat) (v : Int32) : sv_up M 9 8 0 n v = mT M (va_up (M 9 8 0) n v) := rfl
theorem mP_p (M : sv_Mem) (h : Nat → Int32) : mP M h 9 7 0 = h := sv_upA_at ..
theorem mP_P (M : sv_Mem) (s t : Nat → Int32) : mP (mP M s) t = mP M t := sv_upA_upA ..
theorem mP_s (M : sv_Mem) (h : Nat → Int32) : mP M h 9 5 0 = M 9 5 0 := sv_upA_get M h (by omega)
theorem mP_f (M : sv_Mem) (h : Nat → Int32) : mP M h 9 4 0 = M 9 4 0 := sv_upA_get M h (by omega)
theorem mP_id (M : sv_Mem) : mP M (M 9 7 0) = M := sv_upA_id ..
theorem mS_p (M : sv_Mem) (s : Nat → Int32) : mS M s 9 7 0 = M 9 7 0 := mS_o M s (by omega)
theorem mS_h (M : sv_Mem) (s : Nat → Int32) : mS M s 9 6 0 = M 9 6 0 := mS_o M s (by omega)
theorem mT_f (M : sv_Mem) (h : Nat → Int32) : mT M h 9 4 0 = M 9 4 0 := sv_upA_get M h (by omega)
theorem mF_S (M : sv_Mem) (n : Nat) (v : Int32) (s : Nat → Int32) : mS (mF M n v) s = mF (mS M s) n v := by
  unfold mF
  rw [mS_f]
  exact sv_upA_comm M _ s (by omega)
theorem mF_P (M : sv_Mem) (n : Nat) (v : Int32) (s : Nat → Int32) : mP (mF M n v) s = mF (mP M s) n v := by
  unfold mF
  rw [mP_f]
  exact sv_upA_comm M _ s (by omega)
theorem rc_p (M : sv_Mem) (t : Nat) : rcM M t 9 7 0 = M 9 7 0 := by
  unfold rcM mF mH
  rw [sv_upA_get _ _ (by omega), sv_upA_get _ _ (by omega)]
/-- the first k of s come from h, from a on -/
def cpK (s h : Nat → Int32) (a k : Nat) : Nat → Int32 := fun n => if n < k then h (a + n) else s n
theorem cpK_0 (s h : Nat → Int32) (a : Nat) : cpK s h a 0 = s := by
  funext n
  unfold cpK
  rw [if_neg (by omega)]
theorem cpK_step (s h : Nat → Int32) (a k : Nat) : cpK s h a (k + 1) = va_up (cpK s h a k) k (h (a + k)) := by
  funext n
  unfold cpK va_up
  by_cases h1 : n = k
  · rw [if_pos (by omega), if_pos h1, h1]
  · rw [if_neg h1]
    by_cases h2 : n < k
    · rw [if_pos (by omega)]; exact (if_pos h2).symm
    · rw [if_neg (by omega)]; exact (if_neg h2).symm

set_option maxHeartbeats 4000000 in
set_option maxRecDepth 100000 in
theorem c_X4_move_y {G : sv_G} {M : sv_Mem} {q t mq a b : Nat} {amt : Int32} (hmq : M 9 5 0 (27 + q) = nI mq) (hmq2 : mq ≤ 12) (hq : q < 3) (hk1 : a < 16) (hk2 : b < 16) (hab : a ≠ b) (ham : inR amt (nI 1) (nI 9999)) (ho : M 9 5 0 (24 + q) = nI 1) (hkp : M 9 4 0 2 = nI t) (ht : t ≤ 5) : sv_Ct G M_X4_move 4 [.ref (sv_ad G 4 9 0), .int (nI q), .int (nI a), .int (nI b), .int amt] M (some (.int (mvC (M 9 5 0) (fg1 (M 9 9 0) 0) q a b amt))) (mS (mN (rcM M t) (mvN (M 9 5 0) (fg1 (M 9 9 0) 0) q a b amt)) (mvS (M 9 5 0) (fg1 (M 9 9 0) 0) q mq a b amt)) := by
  refine sv_Ct_of (lo := [some (.ref (sv_ad G 4 9 0)), some (.int (nI q)), some (.int (nI a)), some (.int (nI b)), some (.int amt), none]) (pn_X4) rfl (Nat.le_of_ble_eq_true rfl) rfl (fun K X Y => ?_)
  replace X : sv_X G K cX4_move RX4 6 4 := X
  replace Y : sv_Y G K (some .int) _ _ := Y
  show sw_W G K 6 0 _ _ _
  have LE : ∀ s1 n1 e1, mvP (M 9 5 0) (fg1 (M 9 9 0) 0) q a b amt = (s1, n1, e1) → sw_W G K 6 95 [some (.ref (sv_ad G 4 9 0)), some (.int (nI q)), some (.int (nI a)), some (.int (nI b)), some (.int amt), some (.int e1)] [] (mS (mN (rcM M t) n1) s1) := by
    intro s1 n1 e1 hP
    have h27 : s1 (27 + q) = M 9 5 0 (27 + q) := by have := mvP_lo (s := M 9 5 0) (n := fg1 (M 9 9 0) 0) (q := q) (a := a) (b := b) (i := 27 + q) (amt := amt) (by omega) (by omega) (by omega); rw [hP] at this; exact this
    refine sw_iload_5 X dX4_move_95 ?_
    refine sw_if_ne X 117 dX4_move_97 (by decide) (fun h97 => ?_) (fun h97 => ?_)
    ·
      obtain ⟨e7, e8, e9⟩ := mv_1 mq hP h97
      refine sw_aload_0 X dX4_move_117 ?_
      refine sw_iload_1 X dX4_move_118 ?_
      refine sw_iload_5 X dX4_move_119 ?_
      refine ca_X4_141 X (by decide) dX4_move_121 (Nat.le_of_ble_eq_true rfl) (c_X4_endBadly hq (by rw [mS_s, h27]; exact hmq) hmq2) ?_
      exact sw_iret X Y dX4_move_124 (ri_of e7) (by rw [e8, e9]; simp only [up5, up9, mN_mS, mS_mS, mN_mN, mS_s, mN_n, mS_n, mN_s, mS_id, mN_id, rc_s, rc_n])
    ·
      obtain ⟨e7, e8, e9⟩ := mv_0 mq hP h97
      refine sw_aload_0 X dX4_move_100 ?_
      refine sw_iload_1 X dX4_move_101 ?_
      refine sw_aload_0 X dX4_move_102 ?_
      refine gf_X4_7 X dX4_move_103 ?_
      refine sw_bipush X (nI 8) dX4_move_106 (by decide) ?_
      refine sw_iload_3 X dX4_move_108 ?_
      refine sw_iadd X dX4_move_109 ?_
      try refine sw_tope (nI_add _ _) ?_
      refine ia_5 X rfl (by omega) dX4_move_110 ?_
      refine sw_tope (v2 := s1 (8 + b)) (by rw [mS_s]) ?_
      refine ca_X4_138 X (by decide) dX4_move_111 (Nat.le_of_ble_eq_true rfl) (c_X4_endWell hq (by rw [mS_s, h27]; exact hmq) hmq2) ?_
      refine sw_goto X 124 dX4_move_114 (by decide) ?_
      exact sw_iret X Y dX4_move_124 (ri_of e7) (by rw [e8, e9]; simp only [up5, up9, mN_mS, mS_mS, mN_mN, mS_s, mN_n, mS_n, mN_s, mS_id, mN_id, rc_s, rc_n])
  refine sw_iload_1 X dX4_move_0 ?_
  refine ca_X4_68 X (by decide) dX4_move_1 (Nat.le_of_ble_eq_true rfl) c_X4_isSession ?_
  refine sw_ifB_eq X 21 dX4_move_4 (by decide) (fun h4 => ?_) (fun h4 => ?_)
  ·
    exact absurd (inR_lt (by omega) (by omega)) h4
  ·
    refine sw_iload_2 X dX4_move_7 ?_
    refine ca_X4_129 X (by decide) dX4_move_8 (Nat.le_of_ble_eq_true rfl) c_X4_isKey ?_
    refine sw_ifB_eq X 21 dX4_move_11 (by decide) (fun h11 => ?_) (fun h11 => ?_)
    ·
      exact absurd (inR_lt (by omega) (by omega)) h11
    ·
      refine sw_iload_3 X dX4_move_14 ?_
      refine ca_X4_129 X (by decide) dX4_move_15 (Nat.le_of_ble_eq_true rfl) c_X4_isKey ?_
      refine sw_ifB_ne X 23 dX4_move_18 (by decide) (fun h18 => ?_) (fun h18 => ?_)
      ·
        refine sw_iload_4 X dX4_move_23 ?_
        refine sw_iconst X (nI 1) dX4_move_25 (by decide) ?_
        refine sw_sipush X (nI 9999) dX4_move_26 (by decide) ?_
        refine ca_X4_25 X (by decide) dX4_move_29 (Nat.le_of_ble_eq_true rfl) c_X4_in ?_
        refine sw_ifB_eq X 40 dX4_move_32 (by decide) (fun h32 => ?_) (fun h32 => ?_)
        ·
          exact absurd ham h32
        ·
          refine sw_iload_2 X dX4_move_35 ?_
          refine sw_iload_3 X dX4_move_36 ?_
          refine sw_icmp_ne X 43 dX4_move_37 (by decide) (fun h37 => ?_) (fun h37 => ?_)
          ·
            refine sw_aload_0 X dX4_move_43 ?_
            refine sw_iload_1 X dX4_move_44 ?_
            refine ca_X4_72 X (by decide) dX4_move_45 (Nat.le_of_ble_eq_true rfl) (c_X4_isOpen hq) ?_
            refine sw_ifB_ne X 54 dX4_move_48 (by decide) (fun h48 => ?_) (fun h48 => ?_)
            ·
              refine sw_aload_0 X dX4_move_54 ?_
              refine ca_X4_65 X (by decide) dX4_move_55 (Nat.le_of_ble_eq_true rfl) (c_X4_record hkp ht) ?_
              refine sw_aload_0 X dX4_move_58 ?_
              refine ca_X4_132 X (by decide) dX4_move_59 (Nat.le_of_ble_eq_true rfl) c_X4_beginStatement ?_
              refine sw_aload_0 X dX4_move_62 ?_
              refine sw_iload_1 X dX4_move_63 ?_
              refine sw_iload_2 X dX4_move_64 ?_
              refine sw_iload_4 X dX4_move_65 ?_
              refine sw_ineg X dX4_move_67 ?_
              refine sw_iconst X (nI 1) dX4_move_68 (by decide) ?_
              refine ca_X4_157 X (by decide) dX4_move_69 (Nat.le_of_ble_eq_true rfl) (c_X4_add hq hk1) ?_
              refine sw_mem (M2 := mS (mN (rcM M t) (adN (M 9 5 0) (fg1 (M 9 9 0) 0) q a (-amt) (nI 1))) (adS (M 9 5 0) q a (-amt) (nI 1))) (by simp only [up5, up9, mN_mS, mS_mS, mN_mN, mS_s, mN_n, mS_n, mN_s, mS_id, mN_id, rc_s, rc_n]) ?_
              refine sw_tope (v2 := adC (M 9 5 0) q a (-amt) (nI 1)) (by rw [mN_s, rc_s]) ?_
              refine sw_istore_5 X dX4_move_72 trivial ?_
              refine sw_iload_5 X dX4_move_74 ?_
              refine sw_if_ne X 91 dX4_move_76 (by decide) (fun h76 => ?_) (fun h76 => ?_)
              ·
                have hP := mv_f (n := fg1 (M 9 9 0) 0) (b := b) h76
                refine sw_iload_5 X dX4_move_91 ?_
                refine sw_istore_5 X dX4_move_93 trivial ?_
                exact LE _ _ _ hP
              ·
                have hP := mv_t (n := fg1 (M 9 9 0) 0) (b := b) h76
                refine sw_aload_0 X dX4_move_79 ?_
                refine sw_iload_1 X dX4_move_80 ?_
                refine sw_iload_3 X dX4_move_81 ?_
                refine sw_iload_4 X dX4_move_82 ?_
                refine sw_iconst X (nI 0) dX4_move_84 (by decide) ?_
                refine ca_X4_157 X (by decide) dX4_move_85 (Nat.le_of_ble_eq_true rfl) (c_X4_add hq hk2) ?_
                simp only [mS_s, mS_n, mN_n, mN_mS, mN_mN, mS_mS]
                refine sw_goto X 93 dX4_move_88 (by decide) ?_
                refine sw_istore_5 X dX4_move_93 trivial ?_
                exact LE _ _ _ hP
            ·
              exact absurd ho h48
          ·
            exact absurd ((nI_eq (by omega) (by omega)).mp h37) hab
      ·
        exact absurd (inR_lt (by omega) (by omega)) h18
set_option maxHeartbeats 4000000 in
set_option maxRecDepth 100000 in
theorem c_X4_move_n {G : sv_G} {M : sv_Mem} {q a b : Nat} {amt : Int32} (hq : q < 3) (hk1 : a < 16) (hk2 : b < 16) (hab : a ≠ b) (ham : inR amt (nI 1) (nI 9999)) (ho : ¬ M 9 5 0 (24 + q) = nI 1) : sv_Ct G M_X4_move 4 [.ref (sv_ad G 4 9 0), .int (nI q), .int (nI a), .int (nI b), .int amt] M (some (.int (-4))) (M) := by
  refine sv_Ct_of (lo := [some (.ref (sv_ad G 4 9 0)), some (.int (nI q)), some (.int (nI a)), some (.int (nI b)), some (.int amt), none]) (pn_X4) rfl (Nat.le_of_ble_eq_true rfl) rfl (fun K X Y => ?_)
  replace X : sv_X G K cX4_move RX4 6 4 := X
  replace Y : sv_Y G K (some .int) _ _ := Y
  show sw_W G K 6 0 _ _ _
  refine sw_iload_1 X dX4_move_0 ?_
  refine ca_X4_68 X (by decide) dX4_move_1 (Nat.le_of_ble_eq_true rfl) c_X4_isSession ?_
  refine sw_ifB_eq X 21 dX4_move_4 (by decide) (fun h4 => ?_) (fun h4 => ?_)
  ·
    exact absurd (inR_lt (by omega) (by omega)) h4
  ·
    refine sw_iload_2 X dX4_move_7 ?_
    refine ca_X4_129 X (by decide) dX4_move_8 (Nat.le_of_ble_eq_true rfl) c_X4_isKey ?_
    refine sw_ifB_eq X 21 dX4_move_11 (by decide) (fun h11 => ?_) (fun h11 => ?_)
    ·
      exact absurd (inR_lt (by omega) (by omega)) h11
    ·
      refine sw_iload_3 X dX4_move_14 ?_
      refine ca_X4_129 X (by decide) dX4_move_15 (Nat.le_of_ble_eq_true rfl) c_X4_isKey ?_
      refine sw_ifB_ne X 23 dX4_move_18 (by decide) (fun h18 => ?_) (fun h18 => ?_)
      ·
        refine sw_iload_4 X dX4_move_23 ?_
        refine sw_iconst X (nI 1) dX4_move_25 (by decide) ?_
        refine sw_sipush X (nI 9999) dX4_move_26 (by decide) ?_
        refine ca_X4_25 X (by decide) dX4_move_29 (Nat.le_of_ble_eq_true rfl) c_X4_in ?_
        refine sw_ifB_eq X 40 dX4_move_32 (by decide) (fun h32 => ?_) (fun h32 => ?_)
        ·
          exact absurd ham h32
        ·
          refine sw_iload_2 X dX4_move_35 ?_
          refine sw_iload_3 X dX4_move_36 ?_
          refine sw_icmp_ne X 43 dX4_move_37 (by decide) (fun h37 => ?_) (fun h37 => ?_)
          ·
            refine sw_aload_0 X dX4_move_43 ?_
            refine sw_iload_1 X dX4_move_44 ?_
            refine ca_X4_72 X (by decide) dX4_move_45 (Nat.le_of_ble_eq_true rfl) (c_X4_isOpen hq) ?_
            refine sw_ifB_ne X 54 dX4_move_48 (by decide) (fun h48 => ?_) (fun h48 => ?_)
            ·
              exact absurd h48 ho
            ·
              refine sw_bipush X (-4) dX4_move_51 (by decide) ?_
              exact sw_iret X Y dX4_move_53 (rfl) (rfl)
          ·
            exact absurd ((nI_eq (by omega) (by omega)).mp h37) hab
      ·
        exact absurd (inR_lt (by omega) (by omega)) h18
set_option maxHeartbeats 4000000 in
set_option maxRecDepth 100000 in
theorem c_X4_move_b {G : sv_G} {M : sv_Mem} {q a b : Nat} {amt : Int32} (hq : q < 3) (hk1 : a < 16) (hk2 : b < 16) (hb : ¬ inR amt (nI 1) (nI 9999) ∨ a = b) : sv_Ct G M_X4_move 4 [.ref (sv_ad G 4 9 0), .int (nI q), .int (nI a), .int (nI b), .int amt] M (some (.int (-2))) (M) := by
  refine sv_Ct_of (lo := [some (.ref (sv_ad G 4 9 0)), some (.int (nI q)), some (.int (nI a)), some (.int (nI b)), some (.int amt), none]) (pn_X4) rfl (Nat.le_of_ble_eq_true rfl) rfl (fun K X Y => ?_)
  replace X : sv_X G K cX4_move RX4 6 4 := X
  replace Y : sv_Y G K (some .int) _ _ := Y
  show sw_W G K 6 0 _ _ _
  refine sw_iload_1 X dX4_move_0 ?_
  refine ca_X4_68 X (by decide) dX4_move_1 (Nat.le_of_ble_eq_true rfl) c_X4_isSession ?_
  refine sw_ifB_eq X 21 dX4_move_4 (by decide) (fun h4 => ?_) (fun h4 => ?_)
  ·
    exact absurd (inR_lt (by omega) (by omega)) h4
  ·
    refine sw_iload_2 X dX4_move_7 ?_
    refine ca_X4_129 X (by decide) dX4_move_8 (Nat.le_of_ble_eq_true rfl) c_X4_isKey ?_
    refine sw_ifB_eq X 21 dX4_move_11 (by decide) (fun h11 => ?_) (fun h11 => ?_)
    ·
      exact absurd (inR_lt (by omega) (by omega)) h11
    ·
      refine sw_iload_3 X dX4_move_14 ?_
      refine ca_X4_129 X (by decide) dX4_move_15 (Nat.le_of_ble_eq_true rfl) c_X4_isKey ?_
      refine sw_ifB_ne X 23 dX4_move_18 (by decide) (fun h18 => ?_) (fun h18 => ?_)
      ·
        refine sw_iload_4 X dX4_move_23 ?_
        refine sw_iconst X (nI 1) dX4_move_25 (by decide) ?_
        refine sw_sipush X (nI 9999) dX4_move_26 (by decide) ?_
        refine ca_X4_25 X (by decide) dX4_move_29 (Nat.le_of_ble_eq_true rfl) c_X4_in ?_
        refine sw_ifB_eq X 40 dX4_move_32 (by decide) (fun h32 => ?_) (fun h32 => ?_)
        ·
          refine sw_bipush X (-2) dX4_move_40 (by decide) ?_
          exact sw_iret X Y dX4_move_42 (rfl) (rfl)
        ·
          refine sw_iload_2 X dX4_move_35 ?_
          refine sw_iload_3 X dX4_move_36 ?_
          refine sw_icmp_ne X 43 dX4_move_37 (by decide) (fun h37 => ?_) (fun h37 => ?_)
          ·
            exact absurd hb (fun z => z.elim (fun w => w h32) (fun w => h37 (by rw [w])))
          ·
            refine sw_bipush X (-2) dX4_move_40 (by decide) ?_
            exact sw_iret X Y dX4_move_42 (rfl) (rfl)
      ·
        exact absurd (inR_lt (by omega) (by omega)) h18
set_option maxHeartbeats 4000000 in
set_option maxRecDepth 100000 in
theorem c_X4_move_x {G : sv_G} {M : sv_Mem} {v kv kw amt : Int32} (h : ¬ inR v (nI 0) (nI 2) ∨ ¬ inR kv (nI 0) (nI 15) ∨ ¬ inR kw (nI 0) (nI 15)) : sv_Ct G M_X4_move 4 [.ref (sv_ad G 4 9 0), .int v, .int kv, .int kw, .int amt] M (some (.int (-1))) (M) := by
  refine sv_Ct_of (lo := [some (.ref (sv_ad G 4 9 0)), some (.int v), some (.int kv), some (.int kw), some (.int amt), none]) (pn_X4) rfl (Nat.le_of_ble_eq_true rfl) rfl (fun K X Y => ?_)
  replace X : sv_X G K cX4_move RX4 6 4 := X
  replace Y : sv_Y G K (some .int) _ _ := Y
  show sw_W G K 6 0 _ _ _
  refine sw_iload_1 X dX4_move_0 ?_
  refine ca_X4_68 X (by decide) dX4_move_1 (Nat.le_of_ble_eq_true rfl) c_X4_isSession ?_
  refine sw_ifB_eq X 21 dX4_move_4 (by decide) (fun h4 => ?_) (fun h4 => ?_)
  ·
    refine sw_iconst X (-1) dX4_move_21 (by decide) ?_
    exact sw_iret X Y dX4_move_22 (rfl) (rfl)
  ·
    refine sw_iload_2 X dX4_move_7 ?_
    refine ca_X4_129 X (by decide) dX4_move_8 (Nat.le_of_ble_eq_true rfl) c_X4_isKey ?_
    refine sw_ifB_eq X 21 dX4_move_11 (by decide) (fun h11 => ?_) (fun h11 => ?_)
    ·
      refine sw_iconst X (-1) dX4_move_21 (by decide) ?_
      exact sw_iret X Y dX4_move_22 (rfl) (rfl)
    ·
      refine sw_iload_3 X dX4_move_14 ?_
      refine ca_X4_129 X (by decide) dX4_move_15 (Nat.le_of_ble_eq_true rfl) c_X4_isKey ?_
      refine sw_ifB_ne X 23 dX4_move_18 (by decide) (fun h18 => ?_) (fun h18 => ?_)
      ·
        exact absurd h (fun z => z.elim (fun w => w h4) (fun w => w.elim (fun u => u h11) (fun u => u h18)))
      ·
        refine sw_iconst X (-1) dX4_move_21 (by decide) ?_
        exact sw_iret X Y dX4_move_22 (rfl) (rfl)
set_option maxHeartbeats 4000000 in
set_option maxRecDepth 100000 in
theorem c_X4_undo_y {G : sv_G} {M : sv_Mem} {t : Nat} (hkp : M 9 4 0 2 = nI (t + 1)) (ht : t + 1 ≤ 5) : sv_Ct G M_X4_undo 0 [.ref (sv_ad G 4 9 0)] M (some (.int (nI t))) (mF (mS M (cpK (M 9 5 0) (M 9 6 0) (810 * t) 810)) 2 (nI t)) := by
  refine sv_Ct_of (lo := [some (.ref (sv_ad G 4 9 0)), none]) (pn_X4) rfl (Nat.le_of_ble_eq_true rfl) rfl (fun K X Y => ?_)
  replace X : sv_X G K cX4_undo RX4 2 0 := X
  replace Y : sv_Y G K (some .int) _ _ := Y
  show sw_W G K 2 0 _ _ _
  have L : ∀ r, r ≤ 810 → (fun r => sw_W G K 2 22 [some (.ref (sv_ad G 4 9 0)), some (.int (nI r))] [] (mF (mS M (cpK (M 9 5 0) (M 9 6 0) (810 * t) r)) 2 (nI t))) r := by
    refine up_ind (N := 810) (P := fun r => sw_W G K 2 22 [some (.ref (sv_ad G 4 9 0)), some (.int (nI r))] [] (mF (mS M (cpK (M 9 5 0) (M 9 6 0) (810 * t) r)) 2 (nI t))) ?_
    intro r hr ih
    show sw_W _ _ _ _ _ _ _
    refine sw_iload_1 X dX4_undo_22 ?_
    refine sw_sipush X (nI 810) dX4_undo_23 (by decide) ?_
    refine sw_icmp_ge X 56 dX4_undo_26 (by decide) (fun h26 => ?_) (fun h26 => ?_)
    ·
      have e : r = 810 := by have := (nI_leI (by omega) (by omega)).mp h26; omega
      subst e
      refine sw_aload_0 X dX4_undo_56 ?_
      refine gf_X4_29 X dX4_undo_57 ?_
      refine sw_tope (v2 := nI t) (by rw [mF_f, va_up_self]) ?_
      exact sw_iret X Y dX4_undo_60 (rfl) (rfl)
    ·
      have hr3 : r < 810 := by have := mt (nI_leI (by omega) (by omega)).mpr h26; omega
      refine sw_aload_0 X dX4_undo_29 ?_
      refine gf_X4_7 X dX4_undo_30 ?_
      refine sw_iload_1 X dX4_undo_33 ?_
      refine sw_aload_0 X dX4_undo_34 ?_
      refine gf_X4_13 X dX4_undo_35 ?_
      refine sw_sipush X (nI 810) dX4_undo_38 (by decide) ?_
      refine sw_aload_0 X dX4_undo_41 ?_
      refine gf_X4_29 X dX4_undo_42 ?_
      refine sw_tope (v2 := nI t) (by rw [mF_f, va_up_self]) ?_
      refine sw_imul X dX4_undo_45 ?_
      try refine sw_tope (pk_mul _ _) ?_
      refine sw_iload_1 X dX4_undo_46 ?_
      refine sw_iadd X dX4_undo_47 ?_
      try refine sw_tope (nI_add _ _) ?_
      refine ia_6 X rfl (by omega) dX4_undo_48 ?_
      refine sw_tope (v2 := (M 9 6 0) (810 * t + r)) (by rw [mF_h, mS_h]) ?_
      refine is_5 X rfl (by omega) dX4_undo_49 ?_
      refine sw_mem (M2 := mF (mS M (cpK (M 9 5 0) (M 9 6 0) (810 * t) (r + 1))) 2 (nI t)) (by rw [cpK_step, up5, mF_s, mS_s, mF_S, mS_mS]) ?_
      first | refine sw_inc1_1 X dX4_undo_50 trivial ?_ | refine sw_iinc_1 X _ dX4_undo_50 rfl trivial ?_
      refine sw_goto X 22 dX4_undo_53 (by decide) ?_
      exact ih (r + 1) (by omega) (by omega)
  refine sw_aload_0 X dX4_undo_0 ?_
  refine gf_X4_29 X dX4_undo_1 ?_
  rw [hkp]
  refine sw_if_ne X 10 dX4_undo_4 (by decide) (fun h4 => ?_) (fun h4 => ?_)
  ·
    refine sw_aload_0 X dX4_undo_10 ?_
    refine sw_dup X dX4_undo_11 rfl ?_
    refine gf_X4_29 X dX4_undo_12 ?_
    rw [hkp]
    refine sw_iconst X (nI 1) dX4_undo_15 (by decide) ?_
    refine sw_isub X dX4_undo_16 ?_
    refine sw_tope (v2 := nI t) (nI_pred t) ?_
    refine pf_X4_29 X dX4_undo_17 ?_
    refine sw_iconst X (nI 0) dX4_undo_20 (by decide) ?_
    refine sw_istore_1 X dX4_undo_21 trivial ?_
    exact sw_mem (by rw [cpK_0, mS_id, up4]) (L 0 (by omega))
  ·
    exact absurd h4 (nI_ne0 (by omega) (by omega))
set_option maxHeartbeats 4000000 in
set_option maxRecDepth 100000 in
theorem c_X4_undo_n {G : sv_G} {M : sv_Mem} (hkp : M 9 4 0 2 = nI 0) : sv_Ct G M_X4_undo 0 [.ref (sv_ad G 4 9 0)] M (some (.int (-5))) (M) := by
  refine sv_Ct_of (lo := [some (.ref (sv_ad G 4 9 0)), none]) (pn_X4) rfl (Nat.le_of_ble_eq_true rfl) rfl (fun K X Y => ?_)
  replace X : sv_X G K cX4_undo RX4 2 0 := X
  replace Y : sv_Y G K (some .int) _ _ := Y
  show sw_W G K 2 0 _ _ _
  refine sw_aload_0 X dX4_undo_0 ?_
  refine gf_X4_29 X dX4_undo_1 ?_
  rw [hkp]
  refine sw_if_ne X 10 dX4_undo_4 (by decide) (fun h4 => ?_) (fun h4 => ?_)
  ·
    exact absurd rfl h4
  ·
    refine sw_bipush X (-5) dX4_undo_7 (by decide) ?_
    exact sw_iret X Y dX4_undo_9 (rfl) (rfl)
set_option maxHeartbeats 4000000 in
set_option maxRecDepth 100000 in
theorem c_X4_save {G : sv_G} {M : sv_Mem}  : sv_Ct G M_X4_save 1 [.ref (sv_ad G 4 9 0)] M (some (.int (nI (vlR (M 9 5 0))))) (mF (mP M (cpK (M 9 7 0) (M 9 5 0) 0 810)) 4 (nI 1)) := by
  refine sv_Ct_of (lo := [some (.ref (sv_ad G 4 9 0)), none]) (pn_X4) rfl (Nat.le_of_ble_eq_true rfl) rfl (fun K X Y => ?_)
  replace X : sv_X G K cX4_save RX4 2 1 := X
  replace Y : sv_Y G K (some .int) _ _ := Y
  show sw_W G K 2 0 _ _ _
  have L : ∀ r, r ≤ 810 → (fun r => sw_W G K 2 2 [some (.ref (sv_ad G 4 9 0)), some (.int (nI r))] [] (mP M (cpK (M 9 7 0) (M 9 5 0) 0 r))) r := by
    refine up_ind (N := 810) (P := fun r => sw_W G K 2 2 [some (.ref (sv_ad G 4 9 0)), some (.int (nI r))] [] (mP M (cpK (M 9 7 0) (M 9 5 0) 0 r))) ?_
    intro r hr ih
    show sw_W _ _ _ _ _ _ _
    refine sw_iload_1 X dX4_save_2 ?_
    refine sw_sipush X (nI 810) dX4_save_3 (by decide) ?_
    refine sw_icmp_ge X 27 dX4_save_6 (by decide) (fun h6 => ?_) (fun h6 => ?_)
    ·
      have e : r = 810 := by have := (nI_leI (by omega) (by omega)).mp h6; omega
      subst e
      refine sw_aload_0 X dX4_save_27 ?_
      refine sw_iconst X (nI 1) dX4_save_28 (by decide) ?_
      refine pf_X4_215 X rfl rfl dX4_save_29 ?_
      refine sw_aload_0 X dX4_save_32 ?_
      refine ca_X4_219 X (by decide) dX4_save_33 (Nat.le_of_ble_eq_true rfl) (c_X4_valued) ?_
      exact sw_iret X Y dX4_save_36 (by rw [up4, mF_s, mP_s]) (rfl)
    ·
      have hr3 : r < 810 := by have := mt (nI_leI (by omega) (by omega)).mpr h6; omega
      refine sw_aload_0 X dX4_save_9 ?_
      refine gf_X4_16 X dX4_save_10 ?_
      refine sw_iload_1 X dX4_save_13 ?_
      refine sw_aload_0 X dX4_save_14 ?_
      refine gf_X4_7 X dX4_save_15 ?_
      refine sw_iload_1 X dX4_save_18 ?_
      refine ia_5 X rfl (by omega) dX4_save_19 ?_
      refine sw_tope (v2 := (M 9 5 0) (0 + r)) (by rw [mP_s, Nat.zero_add]) ?_
      refine is_7 X rfl (by omega) dX4_save_20 ?_
      refine sw_mem (M2 := mP M (cpK (M 9 7 0) (M 9 5 0) 0 (r + 1))) (by rw [cpK_step, up7, mP_p, mP_P]) ?_
      first | refine sw_inc1_1 X dX4_save_21 trivial ?_ | refine sw_iinc_1 X _ dX4_save_21 rfl trivial ?_
      refine sw_goto X 2 dX4_save_24 (by decide) ?_
      exact ih (r + 1) (by omega) (by omega)
  refine sw_iconst X (nI 0) dX4_save_0 (by decide) ?_
  refine sw_istore_1 X dX4_save_1 trivial ?_
  exact sw_mem (by rw [cpK_0, mP_id]) (L 0 (by omega))
set_option maxHeartbeats 4000000 in
set_option maxRecDepth 100000 in
theorem c_X4_restore_y {G : sv_G} {M : sv_Mem} {t : Nat} (hk : M 9 4 0 4 = nI 1) (hkp : M 9 4 0 2 = nI t) (ht : t ≤ 5) : sv_Ct G M_X4_restore 1 [.ref (sv_ad G 4 9 0)] M (some (.int (nI (vlR (cpK (M 9 5 0) (M 9 7 0) 0 810))))) (mS (rcM M t) (cpK (M 9 5 0) (M 9 7 0) 0 810)) := by
  refine sv_Ct_of (lo := [some (.ref (sv_ad G 4 9 0)), none]) (pn_X4) rfl (Nat.le_of_ble_eq_true rfl) rfl (fun K X Y => ?_)
  replace X : sv_X G K cX4_restore RX4 2 1 := X
  replace Y : sv_Y G K (some .int) _ _ := Y
  show sw_W G K 2 0 _ _ _
  have L : ∀ r, r ≤ 810 → (fun r => sw_W G K 2 16 [some (.ref (sv_ad G 4 9 0)), some (.int (nI r))] [] (mS (rcM M t) (cpK (M 9 5 0) (M 9 7 0) 0 r))) r := by
    refine up_ind (N := 810) (P := fun r => sw_W G K 2 16 [some (.ref (sv_ad G 4 9 0)), some (.int (nI r))] [] (mS (rcM M t) (cpK (M 9 5 0) (M 9 7 0) 0 r))) ?_
    intro r hr ih
    show sw_W _ _ _ _ _ _ _
    refine sw_iload_1 X dX4_restore_16 ?_
    refine sw_sipush X (nI 810) dX4_restore_17 (by decide) ?_
    refine sw_icmp_ge X 41 dX4_restore_20 (by decide) (fun h20 => ?_) (fun h20 => ?_)
    ·
      have e : r = 810 := by have := (nI_leI (by omega) (by omega)).mp h20; omega
      subst e
      refine sw_aload_0 X dX4_restore_41 ?_
      refine ca_X4_219 X (by decide) dX4_restore_42 (Nat.le_of_ble_eq_true rfl) (c_X4_valued) ?_
      exact sw_iret X Y dX4_restore_45 (by rw [mS_s]) (rfl)
    ·
      have hr3 : r < 810 := by have := mt (nI_leI (by omega) (by omega)).mpr h20; omega
      refine sw_aload_0 X dX4_restore_23 ?_
      refine gf_X4_7 X dX4_restore_24 ?_
      refine sw_iload_1 X dX4_restore_27 ?_
      refine sw_aload_0 X dX4_restore_28 ?_
      refine gf_X4_16 X dX4_restore_29 ?_
      refine sw_iload_1 X dX4_restore_32 ?_
      refine ia_7 X rfl (by omega) dX4_restore_33 ?_
      refine sw_tope (v2 := (M 9 7 0) (0 + r)) (by rw [mS_p, rc_p, Nat.zero_add]) ?_
      refine is_5 X rfl (by omega) dX4_restore_34 ?_
      refine sw_mem (M2 := mS (rcM M t) (cpK (M 9 5 0) (M 9 7 0) 0 (r + 1))) (by rw [cpK_step, up5, mS_s, mS_mS]) ?_
      first | refine sw_inc1_1 X dX4_restore_35 trivial ?_ | refine sw_iinc_1 X _ dX4_restore_35 rfl trivial ?_
      refine sw_goto X 16 dX4_restore_38 (by decide) ?_
      exact ih (r + 1) (by omega) (by omega)
  refine sw_aload_0 X dX4_restore_0 ?_
  refine gf_X4_215 X dX4_restore_1 ?_
  rw [hk]
  refine sw_if_ne X 10 dX4_restore_4 (by decide) (fun h4 => ?_) (fun h4 => ?_)
  ·
    refine sw_aload_0 X dX4_restore_10 ?_
    refine ca_X4_65 X (by decide) dX4_restore_11 (Nat.le_of_ble_eq_true rfl) (c_X4_record hkp ht) ?_
    refine sw_iconst X (nI 0) dX4_restore_14 (by decide) ?_
    refine sw_istore_1 X dX4_restore_15 trivial ?_
    exact sw_mem (by rw [cpK_0, ← rc_s M t, mS_id]) (L 0 (by omega))
  ·
    exact absurd h4 (by decide)
set_option maxHeartbeats 4000000 in
set_option maxRecDepth 100000 in
theorem c_X4_restore_n {G : sv_G} {M : sv_Mem} (hk : M 9 4 0 4 = nI 0) : sv_Ct G M_X4_restore 1 [.ref (sv_ad G 4 9 0)] M (some (.int (-4))) (M) := by
  refine sv_Ct_of (lo := [some (.ref (sv_ad G 4 9 0)), none]) (pn_X4) rfl (Nat.le_of_ble_eq_true rfl) rfl (fun K X Y => ?_)
  replace X : sv_X G K cX4_restore RX4 2 1 := X
  replace Y : sv_Y G K (some .int) _ _ := Y
  show sw_W G K 2 0 _ _ _
  refine sw_aload_0 X dX4_restore_0 ?_
  refine gf_X4_215 X dX4_restore_1 ?_
  rw [hk]
  refine sw_if_ne X 10 dX4_restore_4 (by decide) (fun h4 => ?_) (fun h4 => ?_)
  ·
    exact absurd rfl h4
  ·
    refine sw_bipush X (-4) dX4_restore_7 (by decide) ?_
    exact sw_iret X Y dX4_restore_9 (rfl) (rfl)
