theorem dif_rel {T : sv_T} {s : Nat → Int32} {q mq m : Nat} (hv : valOk T s) (h : sesB T s q (mq + 1)) (hm : m ≤ mq + 1) : ∀ k, k < 16 → vaR T q k (T 11 0 k) (mq + 1) m = outs (bfR s q k (mq + 1 - m) m) ∧ vok (bfR s q k (mq + 1 - m) m) := by
  intro k hk
  rw [bfR_eq]
  exact fv_rel (rw_ := rwS s q) (fun r hr => (h.2.2.2.2.2.2.2.1 r hr).1) hk (hv k hk).1 (hv k hk).2 _ _ (by omega)
theorem oth_rel {T : sv_T} {s : Nat → Int32} {q mq m : Nat} (hv : valOk T s) (h : sesB T s q (mq + 1)) (hm : m ≤ mq + 1) : cnt (difP T q m (mq + 1)) 16 = othR s q m mq := by
  refine cnt_congr (fun k hk => ?_)
  obtain ⟨h1, h2⟩ := dif_rel hv h hm k hk
  obtain ⟨h3, h4⟩ := hv k hk
  show (vaR T q k (T 11 0 k) (mq + 1) m ≠ T 11 0 k) ↔ bfR s q k (mq + 1 - m) m ≠ s (8 + k)
  rw [h1, h3]
  exact ⟨fun z e => z (by rw [e]), fun z e => z (outs_inj h2 h4 e)⟩
theorem mbR_rel {T : sv_T} {s : Nat → Int32} {q mq m : Nat} (h : sesB T s q (mq + 1)) (hm : m ≤ mq) : ∀ k, k < 16 → mbR s q k (mq + 1 - m) m = md (T 15 q m) k := by
  intro k hk
  have hL : ∀ r, r < mq + 1 → rowL (rwS s q r) (LA T q (mq + 1) r) (LA T q (mq + 1) (r + 1)) := fun r hr => (h.2.2.2.2.2.2.2.1 r hr).2
  have := mb_rel (L := LA T q (mq + 1)) hk hL (mq + 1 - m) m (by omega)
  rw [show m + (mq + 1 - m) = mq + 1 by omega, LA_ge (Nat.le_refl _), LA_lt (by omega), h.2.2.2.2.1] at this
  exact this
theorem open_sim {T : sv_T} {s : Nat → Int32} {cs : Nat → Nat} {q : Nat} (h : RR T s cs) (hq : q < 3) (h0 : cs q = 0) : RR (aM T q 0) (bgF s q) (va_up cs q 1) ∧ nI (cnt (fun j => va_up cs q 1 j ≠ 0) 3) = bgF s q 24 + bgF s q 25 + bgF s q 26 := by
  obtain ⟨h1, h2, h3, h4⟩ := id h
  have hs := h4 q hq
  rw [h0] at hs
  obtain ⟨a1, a2, a3, a4, a5, a6, a7, a8, a9⟩ := hs
  constructor
  · refine RR_upd h ?_ ?_ ?_ ?_ ?_ ?_
    · unfold setOk bgF
      rw [aM_ne (by omega) (by omega), va_up_ne _ _ (by omega)]
      exact h1
    · intro k hk
      unfold bgF
      rw [aM_ne (by omega) (by omega), va_up_ne _ _ (by omega)]
      exact h2 k hk
    · intro w hw
      unfold bgF
      rw [aM_ne (by omega) (by omega), va_up_ne _ _ (by omega)]
      exact h3 w hw
    · have z := a9 0 (by omega) (by omega)
      have e14 : aM T q 0 14 q 1 = T 14 q 1 := aM_ne (by omega) (by omega)
      have e15 : aM T q 0 15 q 0 = T 14 q 1 := by unfold aM; rw [tu_ne _ _ _ (by omega), tu_ne _ _ _ (by omega), tu_self]
      have e17 : aM T q 0 17 q 0 = nI 0 := by unfold aM; rw [tu_ne _ _ _ (by omega), tu_self]
      refine ⟨by omega, aM_14 T q 0, by unfold bgF; rw [va_up_self]; rfl, by unfold bgF; rw [va_up_ne _ _ (by omega)]; exact a4, by rw [e14]; unfold bgF; rw [va_up_ne _ _ (by omega)]; exact a5, fun z => absurd z (by omega), fun p hp => absurd hp (by omega), fun r hr => ?_, fun r h1 h2 => by unfold bgF; rw [va_up_ne _ _ (by unfold rAt; omega), va_up_ne _ _ (by unfold rAt; omega)]; exact a9 r (by omega) h2⟩
      have hr0 : r = 0 := by omega
      subst hr0
      have s0 : rwS (bgF s q) q 0 0 = nI 0 := by show bgF s q (rAt q 0 + 0) = _; unfold bgF; rw [va_up_ne _ _ (by unfold rAt; omega)]; exact z.1
      have s1 : rwS (bgF s q) q 0 1 = nI 0 := by show bgF s q (rAt q 0 + 1) = _; unfold bgF; rw [va_up_ne _ _ (by unfold rAt; omega)]; exact z.2
      refine ⟨⟨by rw [e17, s0], by rw [s0]; exact hi0_0, fun k hk hb => by rw [s0, bt_0] at hb; cases hb⟩, ?_⟩
      rw [LA_lt (by omega), LA_ge (by omega), e15, e14]
      exact ⟨by rw [s1]; exact hi0_0, fun k hk => by rw [s1, bt_0]; exact ⟨by simp, by simp, Int32.le_refl _⟩⟩
    · intro k j n hk hj
      exact aM_ne (by omega) (by omega)
    · intro q2 a hq2 hn ha
      unfold own at ha
      exact va_up_ne _ _ (by omega)
  · have key : ∀ j, j < 3 → bgF s q (24 + j) = nI (if va_up cs q 1 j = 0 then 0 else 1) := by
      intro j hj
      unfold bgF
      by_cases e : j = q
      · subst e
        rw [va_up_self, va_up_self]
        rfl
      · rw [va_up_ne _ _ (by omega), va_up_ne _ _ e]
        exact (h4 j hj).2.2.1
    rw [show bgF s q 24 = _ from key 0 (by omega), show bgF s q 25 = _ from key 1 (by omega), show bgF s q 26 = _ from key 2 (by omega), nI_add, nI_add]
    have c3 : ∀ p : Nat → Prop, ∀ [DecidablePred p], cnt p 3 = 0 + (if p 0 then 1 else 0) + (if p 1 then 1 else 0) + (if p 2 then 1 else 0) := fun p _ => rfl
    rw [c3]
    congr 1
    by_cases e0 : va_up cs q 1 0 = 0 <;> by_cases e1 : va_up cs q 1 1 = 0 <;> by_cases e2 : va_up cs q 1 2 = 0 <;> simp [e0, e1, e2]
theorem clF_v (s : Nat → Int32) (q mq : Nat) {a : Nat} (h : a < 24 ∨ (a < 69 ∧ a ≠ 24 + q ∧ a ≠ 27 + q ∧ a ≠ 30 + q)) (hq : q < 3) : clF s q mq a = s a := by
  unfold clF
  rw [va_up_ne _ _ (by omega), va_up_ne _ _ (by omega), va_up_ne _ _ (by omega), fgt_lo (by omega)]
/-- a transaction is closed -/
theorem close_sim {T : sv_T} {s : Nat → Int32} {cs : Nat → Nat} {q mq : Nat} (h : RR T s cs) (hq : q < 3) (hc : cs q = mq + 1) : RR (clT T q) (clF s q mq) (va_up cs q 0) := by
  obtain ⟨h1, h2, h3, h4⟩ := id h
  have hs := h4 q hq
  rw [hc] at hs
  obtain ⟨a1, a2, a3, a4, a5, a6, a7, a8, a9⟩ := hs
  have eT : ∀ k j n, ¬ (k = 14 ∧ j = q) → clT T q k j n = T k j n := fun k j n hk => by unfold clT; rw [tu_ne _ _ _ hk, tu_ne _ _ _ hk]
  refine RR_upd h ?_ ?_ ?_ ?_ (fun k j n hk hj => eT k j n (by omega)) ?_
  · unfold setOk
    rw [eT _ _ _ (by omega), clF_v s q mq (by omega) hq]
    exact h1
  · intro k hk
    rw [eT _ _ _ (by omega), clF_v s q mq (by omega) hq]
    exact h2 k hk
  · intro w hw
    rw [eT _ _ _ (by omega), clF_v s q mq (by omega) hq]
    exact h3 w hw
  · have e0 : clT T q 14 q 0 = nI 0 := by unfold clT; rw [tu_n _ _ (by omega), tu_self]
    have e1 : clT T q 14 q 1 = nI 0 := by unfold clT; rw [tu_self]
    have f24 : clF s q mq (24 + q) = nI 0 := by unfold clF; rw [va_up_ne _ _ (by omega), va_up_ne _ _ (by omega), va_up_self]
    have f27 : clF s q mq (27 + q) = nI 0 := by unfold clF; rw [va_up_ne _ _ (by omega), va_up_self]
    have f30 : clF s q mq (30 + q) = nI 0 := by unfold clF; rw [va_up_self]
    refine ⟨by omega, e0, f24, f27, by rw [e1, f30], fun _ => f30, fun p hp => absurd hp (by omega), fun r hr => absurd hr (by omega), fun r _ hr => ?_⟩
    have o : ∀ f, f < 19 → clF s q mq (rAt q r + f) = fgt q (mq + 1) 0 s (rAt q r + f) := fun f hf => by
      unfold clF
      rw [va_up_ne _ _ (by unfold rAt; omega), va_up_ne _ _ (by unfold rAt; omega), va_up_ne _ _ (by unfold rAt; omega)]
    rw [o 0 (by omega), o 1 (by omega)]
    by_cases hr2 : r < mq + 1
    · exact fgt_0 (by omega) (by omega)
    · rw [fgt_out (by unfold rAt; omega), fgt_out (by unfold rAt; omega)]
      exact a9 r (by omega) hr
  · intro q2 a hq2 hn ha
    unfold own at ha
    unfold clF
    rw [va_up_ne _ _ (by omega), va_up_ne _ _ (by omega), va_up_ne _ _ (by omega)]
    exact fgt_out (by unfold rAt; omega)
theorem commit_sim {T : sv_T} {s : Nat → Int32} {cs : Nat → Nat} {q mq : Nat} (h : RR T s cs) (hq : q < 3) (hc : cs q = mq + 1) : RR (inc (clT T q) 0) (cmF s q mq) (va_up cs q 0) ∧ cnt (difP T q 0 (mq + 1)) 16 = othR s q 0 mq := by
  refine ⟨RR_inc (w := 0) (close_sim h hq hc) (by omega), ?_⟩
  have hs := h.2.2.2 q hq
  rw [hc] at hs
  exact oth_rel h.2.1 hs (by omega)
/-- where gbF changes something -/
theorem gbF_lo (s : Nat → Int32) {q m mq a : Nat} (hq : q < 3) (h : a < 69) (h27 : a ≠ 27 + q) : gbF s q m mq a = gbV s q (mq + 1 - m) m 16 a := by
  unfold gbF gbE
  rw [va_up_ne _ _ h27, va_up_ne _ _ (by unfold rAt; omega), va_up_ne _ _ (by unfold rAt; omega), mrg_lo h]
theorem gbF_out (s : Nat → Int32) {q m mq a : Nat} (hq : q < 3) (hm : m ≤ mq) (hm2 : mq ≤ 12) (h8 : ¬ (8 ≤ a ∧ a < 24)) (h27 : a ≠ 27 + q) (h30 : a ≠ 30 + q) (hr : ¬ (rAt q m ≤ a ∧ a < rAt q (mq + 1))) : gbF s q m mq a = s a := by
  unfold gbF gbE
  rw [va_up_ne _ _ h27, va_up_ne _ _ (by unfold rAt at *; omega), va_up_ne _ _ (by unfold rAt at *; omega), mrg_out (by unfold rAt at *; omega) (by unfold rAt at *; omega)]
  exact gbV_hi (by omega) h30
theorem gbV_in (s : Nat → Int32) {q c m k : Nat} (hk : k < 16) : gbV s q c m 16 (8 + k) = bfR s q k c m := by
  unfold gbV
  rw [if_pos (by omega), show 8 + k - 8 = k by omega]
theorem gbV_row (s : Nat → Int32) {q c m r f : Nat} (hq : q < 3) : gbV s q c m 16 (rAt q r + f) = s (rAt q r + f) := gbV_hi (by unfold rAt; omega) (by unfold rAt; omega)
theorem gbF_r0 (s : Nat → Int32) {q m mq : Nat} (hq : q < 3) : gbF s q m mq (rAt q m + 0) = nI 0 := by
  unfold gbF gbE
  rw [va_up_ne _ _ (by unfold rAt; omega), va_up_ne _ _ (by omega), va_up_self]
theorem gbF_rk (s : Nat → Int32) {q m mq f : Nat} (hq : q < 3) (hf : f ≠ 0) (h1 : f ≠ 1 ∨ ¬ s 0 = 0) : gbF s q m mq (rAt q m + f) = mrg q m (mq - m) (m + 1) (gbV s q (mq + 1 - m) m 16) (rAt q m + f) := by
  unfold gbF gbE
  rw [va_up_ne _ _ (by unfold rAt; omega)]
  by_cases e : f = 1
  · subst e
    have h0 : ¬ mrg q m (mq - m) (m + 1) (gbV s q (mq + 1 - m) m 16) 0 = 0 := by
      rw [mrg_lo (by omega), gbV_hi (by omega) (by omega)]
      exact h1.resolve_left (by omega)
    rw [va_up_self, if_neg h0]
  · rw [va_up_ne _ _ (by omega), va_up_ne _ _ (by omega)]
theorem gbF_r1 (s : Nat → Int32) {q m mq : Nat} (hq : q < 3) (h0 : s 0 = 0) : gbF s q m mq (rAt q m + 1) = nI 0 := by
  unfold gbF gbE
  rw [va_up_ne _ _ (by unfold rAt; omega), va_up_self, if_pos (by rw [mrg_lo (by omega), gbV_hi (by omega) (by omega)]; exact h0)]
theorem go_sim {T : sv_T} {s : Nat → Int32} {cs : Nat → Nat} {q m mq : Nat} (h : RR T s cs) (hq : q < 3) (hc : cs q = mq + 1) (hm : m ≤ mq) : RR (drT (unT T q m (mq + 1)) q m (mq + 1)) (gbF s q m mq) (va_up cs q (m + 1)) := by
  obtain ⟨h1, h2, h3, h4⟩ := id h
  have hs := h4 q hq
  rw [hc] at hs
  have hmb := mbR_rel hs hm
  have hdf := dif_rel h2 hs (m := m) (by omega)
  obtain ⟨a1, a2, a3, a4, a5, a6, a7, a8, a9⟩ := hs
  have u17 : ∀ r, unT T q m (mq + 1) 17 q r = if m ≤ r ∧ r < mq + 1 then nI 0 else T 17 q r := fun r => by
    have e : unT T q m (mq + 1) 17 q r = ufT T q m (mq + 1) 17 q r := by
      unfold unT
      split
      · rw [tu_ne _ _ _ (by omega)]
      · rfl
    rw [e]
    unfold ufT
    rw [fcT_17, uvT_ne (by omega), show m + (mq + 1 - m) = mq + 1 by omega]
  have eDR : drR q m (mq + 1 - (m + 1)) (m + 1) (unT T q m (mq + 1)) = unT T q m (mq + 1) := drR_z _ _ _ (fun r2 g1 g2 => by rw [u17, if_pos (by omega)])
  have eT : ∀ k j n, ¬ (k = 11 ∧ j = 0) → ¬ (k = 17 ∧ j = q) → ¬ (k = 14 ∧ j = q) → drT (unT T q m (mq + 1)) q m (mq + 1) k j n = T k j n := fun k j n g1 g2 g3 => by
    unfold drT
    rw [eDR, tu_ne _ _ _ g3, unT_ne g1 g2 (fun z => g3 ⟨z.1, z.2.1⟩)]
  have eT17 : ∀ r, drT (unT T q m (mq + 1)) q m (mq + 1) 17 q r = if m ≤ r ∧ r < mq + 1 then nI 0 else T 17 q r := fun r => by
    unfold drT
    rw [eDR, tu_ne _ _ _ (by omega), u17]
  have eT0 : drT (unT T q m (mq + 1)) q m (mq + 1) 14 q 0 = nI (m + 1) := by
    unfold drT
    rw [tu_self]
  have eT1 : drT (unT T q m (mq + 1)) q m (mq + 1) 14 q 1 = if s 0 = 0 then T 15 q m else T 14 q 1 := by
    unfold drT
    rw [eDR, tu_n _ _ (by omega)]
    unfold unT
    rw [h1.1]
    by_cases e : s 0 = 0
    · rw [if_pos (show s 0 = nI 0 from e), if_pos e, tu_self]
    · rw [if_neg (show ¬ s 0 = nI 0 from e), if_neg e]
      unfold ufT
      rw [fcT_ne (by omega), uvT_ne (by omega)]
  have eT11 : ∀ k, k < 16 → drT (unT T q m (mq + 1)) q m (mq + 1) 11 0 k = vaR T q k (T 11 0 k) (mq + 1) m := fun k hk => by
    unfold drT
    rw [eDR, tu_ne _ _ _ (by omega)]
    have e : unT T q m (mq + 1) 11 0 k = ufT T q m (mq + 1) 11 0 k := by
      unfold unT
      split
      · rw [tu_ne _ _ _ (by omega)]
      · rfl
    rw [e]
    unfold ufT
    rw [fcT_ne (by omega)]
    unfold uvT
    rw [tA_at]
    exact if_pos hk
  have s30 : gbF s q m mq (30 + q) = if s 0 = 0 then T 15 q m else T 14 q 1 := by
    rw [gbF_lo s hq (by omega) (by omega), gbV_30 (by omega)]
    by_cases e : s 0 = 0
    · rw [if_pos e, if_pos e]
      refine md_ext (fun k hk => ?_)
      rw [gbM_in s q _ _ 16 (by omega) k hk, hmb k hk]
    · rw [if_neg e, if_neg e, a5]
  have L : ∀ r, r < mq + 1 → rowL (rwS s q r) (LA T q (mq + 1) r) (LA T q (mq + 1) (r + 1)) := fun r hr => (a8 r hr).2
  refine RR_upd h ?_ ?_ ?_ ?_ (fun k j n hk hj => eT k j n (by omega) (by omega) (by omega)) (fun q2 a hq2 hn ha => ?_)
  · unfold setOk
    rw [eT 10 0 0 (by omega) (by omega) (by omega), gbF_out s hq hm (by omega) (by omega) (by omega) (by omega) (by unfold rAt; omega)]
    exact h1
  · intro k hk
    rw [eT11 k hk, gbF_lo s hq (by omega) (by omega), gbV_in s hk]
    exact hdf k hk
  · intro w hw
    rw [eT 13 0 w (by omega) (by omega) (by omega), gbF_out s hq hm (by omega) (by omega) (by omega) (by omega) (by unfold rAt; omega)]
    exact h3 w hw
  · have gs : ∀ a, ¬ (8 ≤ a ∧ a < 24) → a ≠ 27 + q → a ≠ 30 + q → ¬ (rAt q m ≤ a ∧ a < rAt q (mq + 1)) → gbF s q m mq a = s a := fun a g1 g2 g3 g4 => gbF_out s hq hm (by omega) g1 g2 g3 g4
    refine ⟨by omega, eT0, ?_, ?_, by rw [eT1, s30], fun z => absurd z (by omega), fun p hp => ?_, fun r hr => ?_, fun r g1 g2 => ?_⟩
    · rw [gs _ (by omega) (by omega) (by omega) (by unfold rAt; omega), a3, if_neg (by omega), if_neg (by omega)]
    · unfold gbF gbE
      rw [va_up_self]
      rfl
    · rw [eT 16 q p (by omega) (by omega) (by omega), gs _ (by omega) (by omega) (by omega) (by unfold rAt; omega)]
      exact a7 p (by omega)
    · by_cases e : r = m
      · subst e
        refine ⟨⟨?_, ?_, fun k hk hb => ?_⟩, ?_⟩
        · rw [eT17, if_pos (by omega)]
          exact (gbF_r0 s hq).symm
        · rw [show rwS (gbF s q r mq) q r 0 = nI 0 from gbF_r0 s hq]
          exact hi0_0
        · rw [show rwS (gbF s q r mq) q r 0 = nI 0 from gbF_r0 s hq, bt_0] at hb
          cases hb
        · rw [LA_lt (by omega), LA_ge (by omega), eT 15 q r (by omega) (by omega) (by omega), eT1]
          by_cases h0 : s 0 = 0
          · rw [if_pos h0]
            have z1 : rwS (gbF s q r mq) q r 1 = nI 0 := gbF_r1 s hq h0
            exact ⟨by rw [z1]; exact hi0_0, fun k hk => by rw [z1, bt_0]; exact ⟨by simp, by simp, Int32.le_refl _⟩⟩
          · rw [if_neg h0]
            have hM := mrg_L (q := q) (m := r) (Lm := LA T q (mq + 1) r) (L := LA T q (mq + 1)) (mq - r) (r + 1) (gbV s q (mq + 1 - r) r 16) (by omega) (rowL_congr (L r (by omega)) (fun f hf => gbV_row s hq)) (fun r2 g1 g2 => rowL_congr (L r2 (by omega)) (fun f hf => gbV_row s hq))
            rw [show r + 1 + (mq - r) = mq + 1 by omega, LA_lt (by omega), LA_ge (Nat.le_refl _)] at hM
            unfold rowL at hM ⊢
            rw [show rwS (gbF s q r mq) q r 1 = rwS (mrg q r (mq - r) (r + 1) (gbV s q (mq + 1 - r) r 16)) q r 1 from gbF_rk s hq (by omega) (Or.inr h0), show rwS (gbF s q r mq) q r 2 = rwS (mrg q r (mq - r) (r + 1) (gbV s q (mq + 1 - r) r 16)) q r 2 from gbF_rk s hq (by omega) (Or.inl (by omega))]
            exact hM
      · have hrm : r < m := by omega
        obtain ⟨b1, b2⟩ := a8 r (by omega)
        have gr : ∀ f, f < 19 → rwS (gbF s q m mq) q r f = rwS s q r f := fun f hf => gs _ (by unfold rAt; omega) (by unfold rAt; omega) (by unfold rAt; omega) (by unfold rAt; omega)
        refine ⟨rowV_congr b1 (by rw [eT17, if_neg (by omega)]) (fun k hk => eT 18 q _ (by omega) (by omega) (by omega)) gr, ?_⟩
        rw [LA_lt (by omega), LA_lt (by omega)] at b2
        rw [LA_lt (by omega), LA_lt (by omega), eT 15 q r (by omega) (by omega) (by omega), eT 15 q (r + 1) (by omega) (by omega) (by omega)]
        exact rowL_congr b2 gr
    · by_cases e : r < mq + 1
      · have g : ∀ f, f < 2 → gbF s q m mq (rAt q r + f) = mrg q m (mq - m) (m + 1) (gbV s q (mq + 1 - m) m 16) (rAt q r + f) := fun f hf => by
          unfold gbF gbE
          rw [va_up_ne _ _ (by unfold rAt; omega), va_up_ne _ _ (by unfold rAt; omega), va_up_ne _ _ (by unfold rAt; omega)]
        rw [g 0 (by omega), g 1 (by omega)]
        exact mrg_0 (by omega) (by omega) (by omega)
      · rw [gs _ (by unfold rAt; omega) (by unfold rAt; omega) (by unfold rAt; omega) (by unfold rAt; omega), gs _ (by unfold rAt; omega) (by unfold rAt; omega) (by unfold rAt; omega) (by unfold rAt; omega)]
        exact a9 r (by omega) g2
  · unfold own at ha
    exact gbF_out s hq hm (by omega) (by omega) (by omega) (by omega) (by unfold rAt; omega)
theorem undo_sim {T : sv_T} {s : Nat → Int32} {cs : Nat → Nat} {q m mq : Nat} (h : RR T s cs) (hq : q < 3) (hc : cs q = mq + 1) (hm : m ≤ mq) : RR (inc (drT (unT T q m (mq + 1)) q m (mq + 1)) 5) (utF s q m mq) (va_up cs q (m + 1)) ∧ cnt (difP T q m (mq + 1)) 16 = othR s q m mq := by
  refine ⟨RR_inc (w := 5) (go_sim h hq hc hm) (by omega), ?_⟩
  have hs := h.2.2.2 q hq
  rw [hc] at hs
  exact oth_rel h.2.1 hs (by omega)
/-- of a closed session only its two ints and its locks count -/
theorem RR_cl {T T2 : sv_T} {s : Nat → Int32} {cs : Nat → Nat} {q : Nat} (h : RR T s cs) (hq : q < 3) (hc : cs q = 0) (hT : ∀ k j n, ¬ (j = q ∧ 15 ≤ k) → T2 k j n = T k j n) : RR T2 s cs := by
  obtain ⟨h1, h2, h3, h4⟩ := id h
  refine ⟨by unfold setOk; rw [hT _ _ _ (by omega)]; exact h1, fun k hk => by rw [hT _ _ _ (by omega)]; exact h2 k hk, fun w hw => by rw [hT _ _ _ (by omega)]; exact h3 w hw, fun q2 hq2 => ?_⟩
  by_cases e : q2 = q
  · subst e
    have hs := h4 q2 hq2
    rw [hc] at hs ⊢
    exact ses_frame hs hq2 (hT _ _ _ (by omega)) (hT _ _ _ (by omega)) (fun r hr => absurd hr (by omega)) (fun p hp => absurd hp (by omega)) (fun r hr => absurd hr (by omega)) (fun n hn => absurd hn (by omega)) (fun _ _ => rfl)
  · exact ses_frame (h4 q2 hq2) hq2 (hT _ _ _ (by omega)) (hT _ _ _ (by omega)) (fun r hr => hT _ _ _ (by omega)) (fun p hp => hT _ _ _ (by omega)) (fun r hr => hT _ _ _ (by omega)) (fun n hn => hT _ _ _ (by omega)) (fun _ _ => rfl)
theorem roll_sim {T : sv_T} {s : Nat → Int32} {cs : Nat → Nat} {q mq : Nat} (h : RR T s cs) (hq : q < 3) (hc : cs q = mq + 1) : RR (inc (clT (unT T q 0 (mq + 1)) q) 1) (rbF s q mq) (va_up cs q 0) ∧ cnt (difP T q 0 (mq + 1)) 16 = othR s q 0 mq := by
  have hs := h.2.2.2 q hq
  rw [hc] at hs
  refine ⟨?_, oth_rel h.2.1 hs (by omega)⟩
  have h1 := close_sim (mq := 0) (go_sim h hq hc (Nat.zero_le _)) hq (by rw [va_up_self])
  have h2 := RR_inc (w := 1) h1 (by omega)
  rw [va_up_up] at h2
  refine RR_cl h2 hq (by rw [va_up_self]) (fun k j n hk => ?_)
  unfold inc
  have e : ∀ k j n, ¬ (j = q ∧ 15 ≤ k) → clT (unT T q 0 (mq + 1)) q k j n = clT (drT (unT T q 0 (mq + 1)) q 0 (mq + 1)) q k j n := by
    intro k j n hk
    unfold clT
    by_cases e : k = 14 ∧ j = q
    · obtain ⟨rfl, rfl⟩ := e
      rcases (show n = 1 ∨ n = 0 ∨ (n ≠ 1 ∧ n ≠ 0) by omega) with rfl | rfl | ⟨n1, n0⟩
      · rw [tu_self, tu_self]
      · have t : ∀ Z : sv_T, tu (tu Z 14 j 0 (nI 0)) 14 j 1 (nI 0) 14 j 0 = nI 0 := fun Z => by rw [tu_n _ _ (by omega), tu_self]
        rw [t, t]
      · rw [tu_n _ _ n1, tu_n _ _ n1, tu_n _ _ n0, tu_n _ _ n0, drT_ne (by omega) (by omega)]
    · rw [tu_ne _ _ _ e, tu_ne _ _ _ e, tu_ne _ _ _ e, tu_ne _ _ _ e, drT_ne (by omega) (by omega)]
  by_cases h13 : k = 13 ∧ j = 0
  · obtain ⟨rfl, rfl⟩ := h13
    by_cases hn : n = 1
    · subst hn
      rw [tu_self, tu_self, e 13 0 1 (by omega)]
    · rw [tu_n _ _ hn, tu_n _ _ hn, e 13 0 n (by omega)]
  · rw [tu_ne _ _ _ h13, tu_ne _ _ _ h13, e k j n hk]
theorem rel_sim {T : sv_T} {s : Nat → Int32} {cs : Nat → Nat} {q p mq : Nat} (h : RR T s cs) (hq : q < 3) (hc : cs q = mq + 1) (hp : p ≤ mq) : RR (drT T q p (mq + 1)) (rlF s q p mq) (va_up cs q (p + 1)) := by
  obtain ⟨h1, h2, h3, h4⟩ := id h
  have hs := h4 q hq
  rw [hc] at hs
  obtain ⟨a1, a2, a3, a4, a5, a6, a7, a8, a9⟩ := hs
  have eT : ∀ k j n, ¬ ((k = 17 ∨ k = 18) ∧ j = q) → ¬ (k = 14 ∧ j = q ∧ n = 0) → drT T q p (mq + 1) k j n = T k j n := fun k j n g1 g2 => drT_ne g1 g2
  have eT0 : drT T q p (mq + 1) 14 q 0 = nI (p + 1) := by unfold drT; rw [tu_self]
  have gs : ∀ a, a ≠ 27 + q → ¬ (rAt q p ≤ a ∧ a < rAt q (mq + 1)) → rlF s q p mq a = s a := fun a g2 g4 => by
    unfold rlF
    rw [va_up_ne _ _ g2, mrg_out (by unfold rAt at *; omega) (by unfold rAt at *; omega)]
  have gr : ∀ r f, rlF s q p mq (rAt q r + f) = mrg q p (mq - p) (p + 1) s (rAt q r + f) := fun r f => by
    unfold rlF
    rw [va_up_ne _ _ (by unfold rAt; omega)]
  refine RR_upd h ?_ ?_ ?_ ?_ (fun k j n hk hj => eT k j n (by omega) (by omega)) (fun q2 a hq2 hn ha => by unfold own at ha; exact gs a (by omega) (by unfold rAt; omega))
  · unfold setOk
    rw [eT 10 0 0 (by omega) (by omega), gs _ (by omega) (by unfold rAt; omega)]
    exact h1
  · intro k hk
    rw [eT 11 0 k (by omega) (by omega), gs _ (by omega) (by unfold rAt; omega)]
    exact h2 k hk
  · intro w hw
    rw [eT 13 0 w (by omega) (by omega), gs _ (by omega) (by unfold rAt; omega)]
    exact h3 w hw
  · refine ⟨by omega, eT0, ?_, ?_, ?_, fun z => absurd z (by omega), fun p2 hp2 => ?_, fun r hr => ?_, fun r g1 g2 => ?_⟩
    · rw [gs _ (by omega) (by unfold rAt; omega), a3, if_neg (by omega), if_neg (by omega)]
    · unfold rlF
      rw [va_up_self]
      rfl
    · rw [eT 14 q 1 (by omega) (by omega), gs _ (by omega) (by unfold rAt; omega)]
      exact a5
    · rw [eT 16 q p2 (by omega) (by omega), gs _ (by omega) (by unfold rAt; omega)]
      exact a7 p2 (by omega)
    · by_cases e : r = p
      · subst e
        constructor
        · have hV := mrg_V (q := q) (m := r) (mq - r) (r + 1) s T (by omega) (a8 r (by omega)).1 (fun r2 g1 g2 => (a8 r2 (by omega)).1)
          refine rowV_congr hV ?_ (fun k hk => ?_) (fun f hf => gr r f)
          · unfold drT
            rw [tu_ne _ _ _ (by omega), show mq + 1 - (r + 1) = mq - r by omega]
          · unfold drT
            rw [tu_ne _ _ _ (by omega), show mq + 1 - (r + 1) = mq - r by omega]
        · have hM := mrg_L (q := q) (m := r) (Lm := LA T q (mq + 1) r) (L := LA T q (mq + 1)) (mq - r) (r + 1) s (by omega) (a8 r (by omega)).2 (fun r2 g1 g2 => (a8 r2 (by omega)).2)
          rw [show r + 1 + (mq - r) = mq + 1 by omega, LA_lt (by omega), LA_ge (Nat.le_refl _)] at hM
          rw [LA_lt (by omega), LA_ge (by omega), eT 15 q r (by omega) (by omega), eT 14 q 1 (by omega) (by omega)]
          exact rowL_congr hM (fun f hf => gr r f)
      · obtain ⟨b1, b2⟩ := a8 r (by omega)
        have g : ∀ f, f < 19 → rwS (rlF s q p mq) q r f = rwS s q r f := fun f hf => gs _ (by unfold rAt; omega) (by unfold rAt; omega)
        refine ⟨rowV_congr b1 ?_ (fun k hk => ?_) g, ?_⟩
        · unfold drT
          rw [tu_ne _ _ _ (by omega), drR_17 e]
        · unfold drT
          rw [tu_ne _ _ _ (by omega), drR_18 (by omega)]
        · rw [LA_lt (by omega), LA_lt (by omega)] at b2
          rw [LA_lt (by omega), LA_lt (by omega), eT 15 q r (by omega) (by omega), eT 15 q (r + 1) (by omega) (by omega)]
          exact rowL_congr b2 g
    · rw [gr r 0, gr r 1]
      by_cases e : r < mq + 1
      · exact mrg_0 (by omega) (by omega) (by omega)
      · rw [mrg_out (by unfold rAt; omega) (by unfold rAt; omega), mrg_out (by unfold rAt; omega) (by unfold rAt; omega)]
        exact a9 r (by omega) g2
/-- a new moment behind the last one: the rows stay, a row without changes comes -/
theorem save_sim {T : sv_T} {s : Nat → Int32} {cs : Nat → Nat} {q mq : Nat} {nm : Int32} (h : RR T s cs) (hq : q < 3) (hc : cs q = mq + 1) (hmq : mq < 12) : RR (inc (aM (tu T 16 q mq nm) q (mq + 1)) 6) (spF s q mq nm) (va_up cs q (mq + 2)) := by
  obtain ⟨h1, h2, h3, h4⟩ := id h
  have hs := h4 q hq
  rw [hc] at hs
  obtain ⟨a1, a2, a3, a4, a5, a6, a7, a8, a9⟩ := hs
  have hR : RR (aM (tu T 16 q mq nm) q (mq + 1)) (va_up (va_up s (33 + 12 * q + mq) nm) (27 + q) (nI (mq + 1))) (va_up cs q (mq + 2)) := by
    have eT : ∀ k j n, ¬ ((k = 15 ∨ k = 17) ∧ j = q) → ¬ (k = 14 ∧ j = q ∧ n = 0) → ¬ (k = 16 ∧ j = q ∧ n = mq) → aM (tu T 16 q mq nm) q (mq + 1) k j n = T k j n := fun k j n g1 g2 g3 => by
      rw [aM_ne g1 g2]
      by_cases e : k = 16 ∧ j = q
      · obtain ⟨rfl, rfl⟩ := e
        exact tu_n _ _ (by omega)
      · rw [tu_ne _ _ _ e]
    have e15 : ∀ r, aM (tu T 16 q mq nm) q (mq + 1) 15 q r = if r = mq + 1 then T 14 q 1 else T 15 q r := fun r => by
      unfold aM
      rw [tu_ne _ _ _ (by omega), tu_ne _ _ _ (by omega)]
      by_cases e : r = mq + 1
      · subst e
        rw [tu_self, if_pos rfl, tu_ne _ _ _ (by omega)]
      · rw [tu_n _ _ e, if_neg e, tu_ne _ _ _ (by omega)]
    have e17 : ∀ r, aM (tu T 16 q mq nm) q (mq + 1) 17 q r = if r = mq + 1 then nI 0 else T 17 q r := fun r => by
      unfold aM
      rw [tu_ne _ _ _ (by omega)]
      by_cases e : r = mq + 1
      · subst e
        rw [tu_self, if_pos rfl]
      · rw [tu_n _ _ e, if_neg e, tu_ne _ _ _ (by omega), tu_ne _ _ _ (by omega)]
    have gs : ∀ a, a ≠ 27 + q → a ≠ 33 + 12 * q + mq → va_up (va_up s (33 + 12 * q + mq) nm) (27 + q) (nI (mq + 1)) a = s a := fun a g1 g2 => by rw [va_up_ne _ _ g1, va_up_ne _ _ g2]
    refine RR_upd h ?_ ?_ ?_ ?_ (fun k j n hk hj => eT k j n (by omega) (by omega) (by omega)) (fun q2 a hq2 hn ha => by unfold own at ha; exact gs a (by omega) (by omega))
    · unfold setOk
      rw [eT 10 0 0 (by omega) (by omega) (by omega), gs _ (by omega) (by omega)]
      exact h1
    · intro k hk
      rw [eT 11 0 k (by omega) (by omega) (by omega), gs _ (by omega) (by omega)]
      exact h2 k hk
    · intro w hw
      rw [eT 13 0 w (by omega) (by omega) (by omega), gs _ (by omega) (by omega)]
      exact h3 w hw
    · have z := a9 (mq + 1) (by omega) (by omega)
      refine ⟨by omega, aM_14 _ _ _, ?_, ?_, ?_, fun z => absurd z (by omega), fun p2 hp2 => ?_, fun r hr => ?_, fun r g1 g2 => ?_⟩
      · rw [gs _ (by omega) (by omega), a3, if_neg (by omega), if_neg (by omega)]
      · rw [va_up_self]
        rfl
      · rw [eT 14 q 1 (by omega) (by omega) (by omega), gs _ (by omega) (by omega)]
        exact a5
      · by_cases e : p2 = mq
        · subst e
          rw [aM_ne (by omega) (by omega), tu_self, va_up_ne _ _ (by omega), va_up_self]
        · rw [eT 16 q p2 (by omega) (by omega) (by omega), gs _ (by omega) (by omega)]
          exact a7 p2 (by omega)
      · have g : ∀ f, f < 19 → rwS (va_up (va_up s (33 + 12 * q + mq) nm) (27 + q) (nI (mq + 1))) q r f = rwS s q r f := fun f hf => gs _ (by unfold rAt; omega) (by unfold rAt; omega)
        by_cases e : r = mq + 1
        · subst e
          have s0 := (g 0 (by omega)).trans z.1
          have s1 := (g 1 (by omega)).trans z.2
          refine ⟨⟨by rw [e17, if_pos rfl, s0], by rw [s0]; exact hi0_0, fun k hk hb => by rw [s0, bt_0] at hb; cases hb⟩, ?_⟩
          rw [LA_lt (by omega), LA_ge (by omega), e15, if_pos rfl, eT 14 q 1 (by omega) (by omega) (by omega)]
          exact ⟨by rw [s1]; exact hi0_0, fun k hk => by rw [s1, bt_0]; exact ⟨by simp, by simp, Int32.le_refl _⟩⟩
        · obtain ⟨b1, b2⟩ := a8 r (by omega)
          refine ⟨rowV_congr b1 (by rw [e17, if_neg e]) (fun k hk => eT 18 q _ (by omega) (by omega) (by omega)) g, ?_⟩
          have eL : ∀ r2, r2 ≤ mq + 1 → LA (aM (tu T 16 q mq nm) q (mq + 1)) q (mq + 2) r2 = LA T q (mq + 1) r2 := fun r2 hr2 => by
            rw [LA_lt (by omega), e15]
            by_cases e2 : r2 = mq + 1
            · rw [if_pos e2, LA_ge (by omega)]
            · rw [if_neg e2, LA_lt (by omega)]
          rw [eL r (by omega), eL (r + 1) (by omega)]
          exact rowL_congr b2 g
      · rw [gs _ (by unfold rAt; omega) (by unfold rAt; omega), gs _ (by unfold rAt; omega) (by unfold rAt; omega)]
        exact a9 r (by omega) g2
  have := RR_inc (w := 6) hR (by omega)
  rw [show (va_up (va_up s (33 + 12 * q + mq) nm) (27 + q) (nI (mq + 1))) (1 + 6) = s 7 by rw [va_up_ne _ _ (by omega), va_up_ne _ _ (by omega)]] at this
  exact this
