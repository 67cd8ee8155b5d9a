theorem snc_acc {f : Nat → Int32} {k : Nat} : ∀ (c m : Nat) (acc : Int32), bt (sncR f c m acc) k = (bt acc k || bt (sncR f c m (nI 0)) k)
  | 0, m, acc => by
    show bt acc k = (bt acc k || bt (nI 0) k)
    rw [bt_0, Bool.or_false]
  | c + 1, m, acc => by
    show bt (sncR f c (m + 1) (acc ||| f m)) k = (bt acc k || bt (sncR f c (m + 1) (nI 0 ||| f m)) k)
    rw [snc_acc c (m + 1) (acc ||| f m), snc_acc c (m + 1) (nI 0 ||| f m), bt_or, bt_or, bt_0, Bool.false_or, Bool.or_assoc]
theorem fv_t {f v : Nat → Int32} {k : Nat} {d d2 : Int32} : ∀ (c m : Nat), bt (sncR f c m (nI 0)) k = true → fvR f v k d c m = fvR f v k d2 c m
  | 0, m, h => by
    rw [show sncR f 0 m (nI 0) = nI 0 from rfl, bt_0] at h
    cases h
  | c + 1, m, h => by
    unfold fvR
    by_cases hb : bt (f m) k = true
    · rw [if_pos hb, if_pos hb]
    · rw [if_neg hb, if_neg hb]
      refine fv_t c (m + 1) ?_
      rw [show sncR f (c + 1) m (nI 0) = sncR f c (m + 1) (nI 0 ||| f m) from rfl, snc_acc, bt_or, bt_0, bt_true.mp hb] at h
      exact h
theorem fv_f {f v : Nat → Int32} {k : Nat} {d : Int32} : ∀ (c m : Nat), ¬ bt (sncR f c m (nI 0)) k = true → fvR f v k d c m = d
  | 0, m, h => rfl
  | c + 1, m, h => by
    rw [show sncR f (c + 1) m (nI 0) = sncR f c (m + 1) (nI 0 ||| f m) from rfl, snc_acc, bt_or, bt_0, Bool.false_or, Bool.or_eq_true] at h
    unfold fvR
    rw [if_neg (fun z => h (Or.inl z))]
    exact fv_f c (m + 1) (fun z => h (Or.inr z))
theorem snc_congr {f g : Nat → Int32} : ∀ {c m : Nat} {acc : Int32}, (∀ r, m ≤ r → r < m + c → f r = g r) → sncR f c m acc = sncR g c m acc
  | 0, _, _, _ => rfl
  | c + 1, m, acc, h => by
    show sncR f c (m + 1) (acc ||| f m) = sncR g c (m + 1) (acc ||| g m)
    rw [h m (by omega) (by omega)]
    exact snc_congr (fun r h1 h2 => h r (by omega) (by omega))
/-- the sets of changed keys are the same -/
theorem sn_ses {T : sv_T} {s : Nat → Int32} {q c m : Nat} (h : sesB T s q c) (hm : m ≤ c) : sncR (T 17 q) (c - m) m (nI 0) = sncR (fun r => s (rAt q r + 0)) (c - m) m (nI 0) := snc_congr (fun r h1 h2 => (h.2.2.2.2.2.2.2.1 r (by omega)).1.1)
theorem sn_ses0 {T : sv_T} {s : Nat → Int32} {q c : Nat} (h : sesB T s q c) : sncR (T 17 q) c 0 (nI 0) = sncR (fun r => s (rAt q r + 0)) (c - 1 + 1) 0 (nI 0) := by
  have := sn_ses h (m := 0) (by omega)
  rw [Nat.sub_zero] at this
  rw [this]
  by_cases hz : c = 0
  · subst hz
    show nI 0 = nI 0 ||| s (rAt q 0 + 0)
    rw [(h.2.2.2.2.2.2.2.2 0 (by omega) (by omega)).1, or_0]
  · rw [show c - 1 + 1 = c by omega]
theorem sn_hi0 {T : sv_T} {s : Nat → Int32} {q c : Nat} (h : sesB T s q c) (m : Nat) : hi0 (sncR (T 17 q) (c - m) m (nI 0)) := sn_hi _ _ _ hi0_0 (fun r h1 h2 => by
  by_cases hr : r < c
  · obtain ⟨⟨b1, b2, -⟩, -⟩ := h.2.2.2.2.2.2.2.1 r hr
    rw [b1]
    exact b2
  · omega)
theorem cm_rel {T : sv_T} {s : Nat → Int32} {cs : Nat → Nat} {k : Nat} (h : RR T s cs) (hk : k < 16) : ∀ j, j ≤ 3 → cvR T cs k j = outs (cmR s (fun q => cs q - 1) k j) ∧ vok (cmR s (fun q => cs q - 1) k j)
  | 0, _ => h.2.1 k hk
  | j + 1, hj => by
    obtain ⟨ih1, ih2⟩ := cm_rel h hk j (by omega)
    have hs := h.2.2.2 j (by omega)
    have e0 := sn_ses0 hs
    have hf := fun pr pr2 (hp : pr = outs pr2) (hv : vok pr2) => fv_rel (rw_ := rwS s j) (fun r hr => (hs.2.2.2.2.2.2.2.1 r hr).1) hk hp hv (cs j) 0 (by omega)
    unfold cvR cmR
    by_cases hb : bt (sncR (fun r => s (rAt j r + 0)) (cs j - 1 + 1) 0 (nI 0)) k = true
    · rw [if_pos hb, bfR_eq]
      have hb2 : bt (sncR (fun r => rwS s j r 0) (cs j - 1 + 1) 0 (nI 0)) k = true := hb
      have hz : cs j ≠ 0 := fun z => by
        rw [← e0, z] at hb
        rw [show sncR (T 17 j) 0 0 (nI 0) = nI 0 from rfl, bt_0] at hb
        cases hb
      rw [show cs j - 1 + 1 = cs j by omega] at hb2 ⊢
      have g := hf _ _ ih1 ih2
      rw [fv_t (d2 := s (8 + k)) (cs j) 0 hb2] at g
      exact g
    · rw [if_neg hb]
      have hb2 : ¬ bt (sncR (T 17 j) (cs j) 0 (nI 0)) k = true := by rw [e0]; exact hb
      have := fv_f (v := fun r => T 18 j (r * 16 + k)) (d := cvR T cs k j) (cs j) 0 hb2
      show fvR (T 17 j) (fun r => T 18 j (r * 16 + k)) k (cvR T cs k j) (cs j) 0 = _ ∧ _
      rw [this]
      exact ⟨ih1, ih2⟩
theorem inR_pm (p : Int32) (m : Nat) (hm : m ≤ 12) : inR p (nI 0) (nI m - nI 1) ↔ (¬ p < 0 ∧ p < nI m) := by
  cases m with
  | zero =>
    constructor
    · rintro ⟨a, b⟩
      exact absurd (Int32.lt_of_lt_of_le (show nI 0 - nI 1 < nI 0 by decide) (Int32.not_lt.mp a)) b
    · rintro ⟨a, b⟩
      exact absurd b a
  | succ j =>
    rw [pk_sub (by omega), show j + 1 - 1 = j by omega]
    constructor
    · rintro ⟨a, b⟩
      exact ⟨a, Int32.not_le.mp (fun z => b ((le_lt (a := j) p (by omega)).mp z))⟩
    · rintro ⟨a, b⟩
      exact ⟨a, fun z => absurd ((le_lt (a := j) p (by omega)).mpr z) (Int32.not_le.mpr b)⟩
theorem md_xor (x y : Int32) {k : Nat} (hk : k < 16) : md (x ^^^ y) k = nI 0 ↔ md x k = md y k := by
  have hb : ∀ i, i < 2 → bt (x ^^^ y) (2 * k + i) = (bt x (2 * k + i) ^^ bt y (2 * k + i)) := fun i hi => by
    unfold bt
    rw [Int32.toBitVec_xor, BitVec.getLsbD_xor]
  constructor
  · intro h
    apply bt_ext
    intro i hi
    rw [md_bt _ hk hi, md_bt _ hk hi]
    by_cases h2 : i < 2
    · have z := congrArg (fun z => bt z i) h
      simp only [md_bt _ hk hi, bt_0, h2, decide_true, Bool.true_and, hb i h2] at z
      simp only [h2, decide_true, Bool.true_and]
      cases hx : bt x (2 * k + i) <;> cases hy : bt y (2 * k + i) <;> simp [hx, hy] at z ⊢
    · simp [h2]
  · intro h
    apply bt_ext
    intro i hi
    rw [md_bt _ hk hi, bt_0]
    by_cases h2 : i < 2
    · have z := congrArg (fun z => bt z i) h
      simp only [md_bt _ hk hi, h2, decide_true, Bool.true_and] at z
      rw [hb i h2, z]
      simp
    · simp [h2]
theorem lcS_bt (d : Int32) : ∀ (c : Nat), c ≤ 16 → ∀ i, i < 32 → bt (lcS d c) i = (decide (i < c) && decide (¬ md d i = nI 0))
  | 0, _, i, hi => by
    show bt (nI 0) i = _
    rw [bt_0]
    simp
  | c + 1, hc, i, hi => by
    have ih := lcS_bt d c (by omega) i hi
    unfold lcS
    by_cases h : md d c = nI 0
    · rw [if_pos h, ih]
      by_cases e : i = c
      · subst e
        simp [h]
      · simp [show (i < c + 1) = (i < c) by simp; omega]
    · rw [if_neg h, bt_sb _ (by omega) hi, ih]
      by_cases e : i = c
      · subst e
        simp [h]
      · simp [e, show (i < c + 1) = (i < c) by simp; omega]
theorem lc_rel {T : sv_T} {s : Nat → Int32} {q c m : Nat} (h : sesB T s q c) (hm : m < c) : lcS (T 15 q m ^^^ T 14 q 1) 16 = sncR (fun r => s (rAt q r + 1)) (c - m) m (nI 0) := by
  have hL : ∀ r, r < c → rowL (rwS s q r) (LA T q c r) (LA T q c (r + 1)) := fun r hr => (h.2.2.2.2.2.2.2.1 r hr).2
  apply bt_ext
  intro i hi
  rw [lcS_bt _ 16 (by omega) i hi]
  by_cases h16 : i < 16
  · have z := sn_rel (L := LA T q c) h16 hL (c - m) m (nI 0) (by omega)
    rw [show m + (c - m) = c by omega, LA_lt hm, LA_ge (Nat.le_refl _), bt_0] at z
    have z2 : bt (sncR (fun r => s (rAt q r + 1)) (c - m) m (nI 0)) i = true ↔ ¬ md (T 15 q m) i = md (T 14 q 1) i := z.trans (by simp)
    simp only [h16, decide_true, Bool.true_and]
    rw [show (decide (¬ md (T 15 q m ^^^ T 14 q 1) i = nI 0)) = decide (¬ md (T 15 q m) i = md (T 14 q 1) i) by simp only [md_xor _ _ h16]]
    by_cases g : md (T 15 q m) i = md (T 14 q 1) i
    · have := bt_true.mp (fun y => (z2.mp y) g)
      rw [this]
      simp [g]
    · rw [z2.mpr g]
      simp [g]
  · have := sn_hi (f := fun r => s (rAt q r + 1)) (c - m) m (nI 0) hi0_0 (fun r h1 h2 => (hL r (by omega)).1) i (by omega) hi
    rw [this]
    simp [h16]
theorem sm_rel {T : sv_T} {s : Nat → Int32} (h : valOk T s) : ∀ c, c ≤ 16 → vsR T c = smR s c
  | 0, _ => rfl
  | c + 1, hc => by
    obtain ⟨a, b⟩ := h c (by omega)
    unfold vsR smR
    rw [sm_rel h c (by omega), a]
    by_cases e : s (8 + c) = -1
    · rw [if_pos ((outs_5 b).mpr e), if_pos e, show smR s c + nI 0 = smR s c from by rw [show nI 0 = 0 from rfl, Int32.add_zero]]
    · rw [if_neg (fun z => e ((outs_5 b).mp z)), if_neg e, outs_v (b.resolve_left e)]
theorem bc_rel {T : sv_T} {s : Nat → Int32} {k : Nat} {mode : Int32} (h : ∀ o, o < 3 → T 14 o 1 = s (30 + o)) (hm : mode = nI 1 ∨ mode = nI 2) : ∀ c, c ≤ 3 → bcS T k mode c = bsR s k mode c
  | 0, _ => rfl
  | c + 1, hc => by
    unfold bcS bsR
    rw [bc_rel h hm c (by omega)]
    have := busy_iff (q := c) (k := k) h (by omega) hm
    by_cases e : busyR s c k mode
    · rw [if_pos (this.mpr e), if_pos e]
    · rw [if_neg (fun z => e (this.mp z)), if_neg e]

set_option maxHeartbeats 1000000 in
theorem act_value {G : sv_G} {M : sv_Mem} (I0 : INV M) (v : Int32) : ActOk G M_X3_value 1 M_X4_value 2 [.int v] M := by
  obtain ⟨cs, o, t, n, I⟩ := id I0
  obtain ⟨h1, h2, h3, h4⟩ := id I.1
  by_cases hv : inR v (nI 0) (nI 15)
  · obtain ⟨k, hk, rfl⟩ := inR_ex (by omega) hv
    exact qry I0 (qri (h2 k (by omega)).1) (c_X3_value_y (by omega)) (c_X4_value_y (by omega))
  · exact qry I0 rfl (c_X3_value_x hv) (c_X4_value_x hv)
set_option maxHeartbeats 1000000 in
theorem act_committed {G : sv_G} {M : sv_Mem} (I0 : INV M) (v : Int32) : ActOk G M_X3_committed 3 M_X4_committed 2 [.int v] M := by
  obtain ⟨cs, o, t, n, I⟩ := id I0
  obtain ⟨h1, h2, h3, h4⟩ := id I.1
  by_cases hv : inR v (nI 0) (nI 15)
  · obtain ⟨k, hk, rfl⟩ := inR_ex (by omega) hv
    exact qry I0 (qri (cm_rel I.1 (by omega) 3 (Nat.le_refl _)).1) (c_X3_committed_y (RR_cs I.1).1 (by omega)) (c_X4_committed_y (mqs := fun q => cs q - 1) (by omega) (fun q hq => ⟨(h4 q hq).2.2.2.1, by have := (h4 q hq).1; show cs q - 1 ≤ 12; omega⟩))
  · exact qry I0 rfl (c_X3_committed_x hv) (c_X4_committed_x hv)
set_option maxHeartbeats 1000000 in
theorem act_mode {G : sv_G} {M : sv_Mem} (I0 : INV M) (v w : Int32) : ActOk G M_X3_mode 1 M_X4_mode 2 [.int v, .int w] M := by
  obtain ⟨cs, o, t, n, I⟩ := id I0
  obtain ⟨h1, h2, h3, h4⟩ := id I.1
  by_cases hv : inR v (nI 0) (nI 2)
  · by_cases hw : inR w (nI 0) (nI 15)
    · obtain ⟨q, hq, rfl⟩ := inR_ex (by omega) hv
      obtain ⟨k, hk, rfl⟩ := inR_ex (by omega) hw
      exact qry I0 (qri (by rw [RR_modes I.1 q (by omega)])) (c_X3_mode_y (by omega) (by omega)) (c_X4_mode_y (by omega) (by omega))
    · exact qry I0 rfl (c_X3_mode_x (Or.inr hw)) (c_X4_mode_x (Or.inr hw))
  · exact qry I0 rfl (c_X3_mode_x (Or.inl hv)) (c_X4_mode_x (Or.inl hv))
set_option maxHeartbeats 1000000 in
theorem act_busyFor {G : sv_G} {M : sv_Mem} (I0 : INV M) (v w : Int32) : ActOk G M_X3_busyFor 2 M_X4_busyFor 2 [.int v, .int w] M := by
  obtain ⟨cs, o, t, n, I⟩ := id I0
  obtain ⟨h1, h2, h3, h4⟩ := id I.1
  by_cases hv : inR v (nI 0) (nI 15)
  · obtain ⟨k, hk, rfl⟩ := inR_ex (by omega) hv
    have hm : inR w (nI 1) (nI 2) ↔ (w = nI 1 ∨ w = nI 2) := by
      constructor
      · intro h
        obtain ⟨j, hj, rfl⟩ := nI_of2 (M := nI 2) (nI_toInt (by omega)) (fun z => h.1 (Int32.lt_trans z (by decide))) (Int32.not_lt.mp h.2)
        rcases (show j = 0 ∨ j = 1 ∨ j = 2 by omega) with rfl | rfl | rfl
        · exact absurd (show nI 0 < nI 1 by decide) h.1
        · exact Or.inl rfl
        · exact Or.inr rfl
      · rintro (rfl | rfl) <;> decide
    by_cases hw : inR w (nI 1) (nI 2)
    · exact qry I0 (qri (bc_rel (RR_modes I.1) (hm.mp hw) 3 (Nat.le_refl _))) (c_X3_busyFor_y (by omega) (hm.mp hw)) (c_X4_busyFor_y (by omega) hw)
    · exact qry I0 rfl (c_X3_busyFor_b (by omega) (fun z => hw (hm.mpr z))) (c_X4_busyFor_b (by omega) hw)
  · exact qry I0 rfl (c_X3_busyFor_x hv) (c_X4_busyFor_x hv)
set_option maxHeartbeats 1000000 in
theorem act_session {G : sv_G} {M : sv_Mem} (I0 : INV M) (v w : Int32) : ActOk G M_X3_session 2 M_X4_session 2 [.int v, .int w] M := by
  obtain ⟨cs, o, t, n, I⟩ := id I0
  obtain ⟨h1, h2, h3, h4⟩ := id I.1
  by_cases hv : inR v (nI 0) (nI 2)
  · obtain ⟨q, hq, rfl⟩ := inR_ex (by omega) hv
    have hq3 : q < 3 := by omega
    have hs := h4 q hq3
    have hc : M 0 14 q 0 = nI (cs q) := hs.2.1
    have hc13 := hs.1
    have hmq : M 9 5 0 (27 + q) = nI (cs q - 1) := hs.2.2.2.1
    have hm12 : cs q - 1 ≤ 12 := by omega
    have hmd := RR_modes I.1 q hq3
    by_cases w0 : w = nI 0
    · subst w0
      refine qry I0 (qri ?_) (c_X3_session_0 hq3 hc hc13) (c_X4_session_0 hq3)
      rw [hs.2.2.1]
      by_cases hz : cs q = 0
      · rw [bI_f (fun z => z hz), if_pos hz]
      · rw [bI_t hz, if_neg hz]
    by_cases w1 : w = nI 1
    · subst w1
      exact qry I0 (qri hmq.symm) (c_X3_session_1 hq3 hc hc13) (c_X4_session_1 hq3)
    by_cases w2 : w = nI 2
    · subst w2
      have e0 := sn_ses0 hs
      obtain ⟨kn, k1, k2⟩ := hi0_nI (sn_hi0 hs 0)
      rw [Nat.sub_zero] at k2
      refine qry I0 (qri ?_) (c_X3_session_2 hq3 hc hc13 k2 k1) (c_X4_session_2 hq3 hmq hm12)
      rw [← k2, e0]
    by_cases w3 : w = nI 3
    · subst w3
      refine qry I0 (qri ?_) (c_X3_session_3 hq3 hc hc13) (c_X4_session_3 hq3)
      rw [hmd]
    by_cases w4 : w = nI 4
    · subst w4
      refine qry I0 (qri ?_) (c_X3_session_4 hq3 hc hc13) (c_X4_session_4 hq3)
      rw [hmd]
    have hw : ∀ i, i < 5 → w ≠ nI i := fun i hi e => by
      rcases (show i = 0 ∨ i = 1 ∨ i = 2 ∨ i = 3 ∨ i = 4 by omega) with rfl | rfl | rfl | rfl | rfl
      · exact w0 e
      · exact w1 e
      · exact w2 e
      · exact w3 e
      · exact w4 e
    exact qry I0 rfl (c_X3_session_b hq3 hw) (c_X4_session_b hq3 hw)
  · exact qry I0 rfl (c_X3_session_x hv) (c_X4_session_x hv)
set_option maxHeartbeats 1000000 in
theorem act_nameOf {G : sv_G} {M : sv_Mem} (I0 : INV M) (v w : Int32) : ActOk G M_X3_nameOf 3 M_X4_nameOf 3 [.int v, .int w] M := by
  obtain ⟨cs, o, t, n, I⟩ := id I0
  obtain ⟨h1, h2, h3, h4⟩ := id I.1
  by_cases hv : inR v (nI 0) (nI 2)
  · obtain ⟨q, hq, rfl⟩ := inR_ex (by omega) hv
    have hq3 : q < 3 := by omega
    have hs := h4 q hq3
    have hc : M 0 14 q 0 = nI (cs q) := hs.2.1
    have hc13 := hs.1
    have hmq : M 9 5 0 (27 + q) = nI (cs q - 1) := hs.2.2.2.1
    have hm12 : cs q - 1 ≤ 12 := by omega
    have hpm := inR_pm w (cs q - 1) hm12
    by_cases hp : ¬ w < 0 ∧ w < nI (cs q - 1)
    · obtain ⟨p, hp31, rfl⟩ := nI_of hp.1
      have hpl : p < cs q - 1 := by
        rcases Nat.lt_or_ge p (cs q - 1) with z | z
        · exact z
        · exact absurd hp.2 (nI_nlt z hp31)
      exact qry I0 (qri (hs.2.2.2.2.2.2.1 p (by omega))) (c_X3_nameOf_y hq3 hc hc13 hpl) (c_X4_nameOf_y hq3 hmq hm12 hpl)
    · exact qry I0 rfl (c_X3_nameOf_n hq3 hc hc13 hp) (c_X4_nameOf_n hq3 hmq hm12 (fun z => hp (hpm.mp z)))
  · exact qry I0 rfl (c_X3_nameOf_x hv) (c_X4_nameOf_x hv)
set_option maxHeartbeats 1000000 in
theorem act_nearest {G : sv_G} {M : sv_Mem} (I0 : INV M) (v w : Int32) : ActOk G M_X3_nearest 3 M_X4_nearest 2 [.int v, .int w] M := by
  obtain ⟨cs, o, t, n, I⟩ := id I0
  obtain ⟨h1, h2, h3, h4⟩ := id I.1
  by_cases hv : inR v (nI 0) (nI 2)
  · obtain ⟨q, hq, rfl⟩ := inR_ex (by omega) hv
    have hq3 : q < 3 := by omega
    have hs := h4 q hq3
    have hc : M 0 14 q 0 = nI (cs q) := hs.2.1
    have hc13 := hs.1
    have hmq : M 9 5 0 (27 + q) = nI (cs q - 1) := hs.2.2.2.1
    have hm12 : cs q - 1 ≤ 12 := by omega
    by_cases hn : inR w (nI 0) (nI 7)
    · exact qry I0 (qri (nrR_congr (fun p hp => hs.2.2.2.2.2.2.1 p (by omega)))) (c_X3_nearest_y hq3 hn hc hc13) (c_X4_nearest_y hq3 hn hmq hm12)
    · exact qry I0 rfl (c_X3_nearest_b hq3 hn) (c_X4_nearest_b hq3 hn)
  · exact qry I0 rfl (c_X3_nearest_x hv) (c_X4_nearest_x hv)
set_option maxHeartbeats 1000000 in
theorem act_changedSince {G : sv_G} {M : sv_Mem} (I0 : INV M) (v w : Int32) (b : Prop) [Decidable b] : ActOk G M_X3_changedSince 3 M_X4_changedSince 3 [.int v, .int w, .int (bI b)] M := by
  obtain ⟨cs, o, t, n, I⟩ := id I0
  obtain ⟨h1, h2, h3, h4⟩ := id I.1
  by_cases hv : inR v (nI 0) (nI 2)
  · obtain ⟨q, hq, rfl⟩ := inR_ex (by omega) hv
    have hq3 : q < 3 := by omega
    have hs := h4 q hq3
    have hc : M 0 14 q 0 = nI (cs q) := hs.2.1
    have hc13 := hs.1
    have hmq : M 9 5 0 (27 + q) = nI (cs q - 1) := hs.2.2.2.1
    have hm12 : cs q - 1 ≤ 12 := by omega
    have hpm := inR_pm w (cs q - 1) hm12
    by_cases hp : ¬ w < 0 ∧ w < nI (cs q - 1)
    · obtain ⟨p, hp31, rfl⟩ := nI_of hp.1
      have hpl : p < cs q - 1 := by
        rcases Nat.lt_or_ge p (cs q - 1) with z | z
        · exact z
        · exact absurd hp.2 (nI_nlt z hp31)
      have e : cs q - 1 + 1 = cs q := by omega
      have z := c_X4_changedSince_y (G := G) (M := M) (b := b) hq3 hmq hm12 hpl
      rw [e] at z
      refine qry I0 (qri ?_) (c_X3_changedSince_y (b := b) hq3 hc hc13 hpl) z
      by_cases hb : b
      · rw [if_pos hb, if_pos hb]
        exact lc_rel hs (by omega)
      · rw [if_neg hb, if_neg hb]
        exact sn_ses hs (by omega)
    · exact qry I0 rfl (c_X3_changedSince_n hq3 hc hc13 hp) (c_X4_changedSince_n hq3 hmq hm12 (fun z => hp (hpm.mp z)))
  · exact qry I0 rfl (c_X3_changedSince_x hv) (c_X4_changedSince_x hv)
set_option maxHeartbeats 1000000 in
theorem act_ifUndone {G : sv_G} {M : sv_Mem} (I0 : INV M) (v w u : Int32) : ActOk G M_X3_ifUndone 4 M_X4_ifUndone 3 [.int v, .int w, .int u] M := by
  obtain ⟨cs, o, t, n, I⟩ := id I0
  obtain ⟨h1, h2, h3, h4⟩ := id I.1
  by_cases hu : inR u (nI 0) (nI 15)
  · obtain ⟨k, hk, rfl⟩ := inR_ex (by omega) hu
    have hk16 : k < 16 := by omega
    by_cases hv : inR v (nI 0) (nI 2)
    · obtain ⟨q, hq, rfl⟩ := inR_ex (by omega) hv
      have hq3 : q < 3 := by omega
      have hs := h4 q hq3
      have hc : M 0 14 q 0 = nI (cs q) := hs.2.1
      have hc13 := hs.1
      have hmq0 : M 9 5 0 (27 + q) = nI (cs q - 1) := hs.2.2.2.1
      have hm12 : cs q - 1 ≤ 12 := by omega
      by_cases hn : inR w (nI 0) (nI 7)
      · by_cases hz : cs q = 0
        · refine qry I0 (qri (nmE_n hn (ses_c hs hz).2).symm) (c_X3_ifUndone_e hk16 (by decide) (spo_n (T := M 0) hq3 hc hc13 hn hz M rfl)) (c_X4_ifUndone_n hq3 hk16 hmq0 hm12 (by rw [nmE_n hn (ses_c hs hz).2]; decide))
        · obtain ⟨mq, hm, hmm, ho, hmq⟩ := ses_o hs hz
          have hc1 : M 0 14 q 0 = nI (mq + 1) := by rw [hc, hm]
          have hs1 : sesB (M 0) (M 9 5 0) q (mq + 1) := hm ▸ hs
          have hnr := nm_rel (nm := w) hs1
          rcases nrR_or (M 0 16 q) w mq with hp | ⟨p, hp1, hp⟩
          · have e4 := nmE_0 (mq := mq) hn (hnr.symm.trans hp)
            refine qry I0 (qri e4.symm) (c_X3_ifUndone_e hk16 (by decide) (spo_0 (T := M 0) hq3 hc1 (by omega) hn (by omega) hp M rfl)) (c_X4_ifUndone_n hq3 hk16 hmq hmm (by rw [e4]; decide))
          · have hp9 := hnr.symm.trans hp
            refine qry I0 (qri (dif_rel h2 hs1 (m := p + 1) (by omega) k hk16).1) (c_X3_ifUndone_y hq3 hk16 hc1 (by omega) (by omega) (spo_y (T := M 0) (p := p) hq3 hc1 (by omega) hn (by omega) hp (by omega) M rfl)) (c_X4_ifUndone_y hq3 hk16 hmq hmm (nmE_y hn ho hp9 (by omega)) hp9 hp1)
      · refine qry I0 (qri (nmE_b hn).symm) (c_X3_ifUndone_e hk16 (by decide) (spo_b (T := M 0) hq3 hc hc13 hn M rfl)) (c_X4_ifUndone_n hq3 hk16 hmq0 hm12 (by rw [nmE_b hn]; decide))
    · exact qry I0 rfl (c_X3_ifUndone_e hk16 (by decide) (spo_x (T := M 0) hv M rfl)) (c_X4_ifUndone_x (Or.inl hv))
  · exact qry I0 rfl (c_X3_ifUndone_x hu) (c_X4_ifUndone_x (Or.inr hu))
set_option maxHeartbeats 1000000 in
theorem act_total {G : sv_G} {M : sv_Mem} (I0 : INV M) (v : Int32) : ActOk G M_X3_total 0 M_X4_total 1 [.int v] M := by
  obtain ⟨cs, o, t, n, I⟩ := id I0
  obtain ⟨h1, h2, h3, h4⟩ := id I.1
  by_cases hv : inR v (nI 0) (nI 6)
  · obtain ⟨w, hw, rfl⟩ := inR_ex (by omega) hv
    exact qry I0 (qri (h3 w (by omega))) (c_X3_total_y (by omega)) (c_X4_total_y (by omega))
  · exact qry I0 rfl (c_X3_total_x hv) (c_X4_total_x hv)
theorem act_mean {G : sv_G} {M : sv_Mem} (I0 : INV M) : ∃ (r : UInt64) (M1 M2 : sv_Mem), sv_Ct G M_X3_mean 1 [.ref (sv_ad G 0 8 0)] M (some (.double r)) M1 ∧ sv_Ct G M_X4_mean 1 [.ref (sv_ad G 4 9 0)] M1 (some (.double r)) M2 ∧ INV M2 := by
  obtain ⟨cs, o, t, n, I⟩ := id I0
  obtain ⟨h1, h2, h3, h4⟩ := id I.1
  have z := c_X3_mean (G := G) (M := M)
  rw [vl_rel h2, sm_rel h2 16 (Nat.le_refl _)] at z
  exact ⟨_, M, M, z, c_X4_mean, I0⟩
