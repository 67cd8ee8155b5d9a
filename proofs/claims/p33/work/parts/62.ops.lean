/-! what the statements and the other actions answer and leave, of a State's ints -/
theorem in_n67 {v : Int32} (h : inR v (nI 0) (nI 9999)) : v ≠ -6 ∧ v ≠ -7 ∧ ¬ isEr v ∧ v ≠ -5 := by
  have h0 : ¬ v < 0 := h.1
  refine ⟨fun z => h0 (by rw [z]; decide), fun z => h0 (by rw [z]; decide), fun z => h0 z.1, fun z => h0 (by rw [z]; decide)⟩
theorem vo_n67 {v : Int32} (h : vo v) : v ≠ -6 ∧ v ≠ -7 ∧ ¬ isEr v := by
  rcases h with rfl | h
  · decide
  · exact ⟨(in_n67 h).1, (in_n67 h).2.1, (in_n67 h).2.2.1⟩
/-- a statement of session q with the answer r, from T to D -/
def StR (T D : sv_T) (cs : Nat → Nat) (q : Nat) (r : Int32) : Prop :=
  SI D cs ∧ (∀ j, j ≠ q → D 14 j 1 = T 14 j 1) ∧ (∀ j, D 14 j 0 = T 14 j 0) ∧ D 10 = T 10 ∧ ¬ isEr r ∧
  ((r = -6 ∨ r = -7) → (∀ k, k < 16 → D 11 0 k = T 11 0 k) ∧ (T 10 0 0 = nI 0 → D 14 q 1 = T 14 q 1)) ∧
  (∀ w, D 13 0 w = if w = (if r = -6 then 3 else if r = -7 then 4 else 2) then T 13 0 w + nI 1 else T 13 0 w)
theorem st_end {T U : sv_T} {cs : Nat → Nat} {q mq : Nat} (h : SI T cs) (hS : StI T U q mq) (hq : q < 3) (hc : cs q = mq + 1) (r : Int32) (hr : ¬ isEr r) : StR T (enT U q mq r) cs q r ∧ (r ≠ -6 → r ≠ -7 → (∀ k, enT U q mq r 11 0 k = U 11 0 k) ∧ enT U q mq r 14 q 1 = U 14 q 1) := by
  by_cases h6 : r = -6
  · subst h6
    rw [enT_6]
    obtain ⟨a1, a2, a3, a4, a5, a6⟩ := st_bad (w0 := 3) h hS hq hc
    refine ⟨⟨a1, fun j hj => a3 j (Or.inl hj), a4, a6, hr, fun _ => ⟨a2, fun z => a3 q (Or.inr z)⟩, fun w => ?_⟩, fun z => absurd rfl z⟩
    rw [a5, if_pos rfl]
    split
    · rename_i e; rw [e]
    · rfl
  · by_cases h7 : r = -7
    · subst h7
      rw [enT_7]
      obtain ⟨a1, a2, a3, a4, a5, a6⟩ := st_bad (w0 := 4) h hS hq hc
      refine ⟨⟨a1, fun j hj => a3 j (Or.inl hj), a4, a6, hr, fun _ => ⟨a2, fun z => a3 q (Or.inr z)⟩, fun w => ?_⟩, fun _ z => absurd rfl z⟩
      rw [if_neg (show ¬ ((-7 : Int32) = -6) by decide), if_pos (show (-7 : Int32) = -7 from rfl), a5]
      split
      · rename_i e; rw [e]
      · rfl
    · rw [enT_w h6 h7]
      obtain ⟨a1, a2, a3, a4, a5, a6⟩ := st_well h hS hq hc
      refine ⟨⟨a1, fun j hj => ?_, a4, a6, hr, fun z => absurd z (fun w => w.elim h6 h7), fun w => ?_⟩, fun _ _ => ⟨a2, a3 q⟩⟩
      · rw [a3, hS.2.2.2.2.2.1 14 j 1 (by omega) hj]
      · rw [a5, if_neg h6, if_neg h7]
        split
        · rename_i e; rw [e]
        · rfl
theorem bs_m {T : sv_T} {q mq j : Nat} : bsT T q mq 14 j 1 = T 14 j 1 := bsT_ne (by omega) (by omega)
theorem bs_busy {T : sv_T} {q mq k : Nat} {mode : Int32} : busyC (bsT T q mq) q k mode ↔ busyC T q k mode := by
  unfold busyC
  simp only [bs_m]
theorem read_R {T : sv_T} {cs : Nat → Nat} {q mq k : Nat} (h : SI T cs) (hq : q < 3) (hc : cs q = mq + 1) (hk : k < 16) (r : Int32) (hr : r = rdC (bsT T q mq) q k) (D : sv_T) (hD : D = enT (tkT (bsT T q mq) q k (nI 1)) q mq (rdC (bsT T q mq) q k)) : StR T D cs q r ∧ r ≠ -7 ∧ (r = -6 ↔ busyC T q k (nI 1)) ∧ (r ≠ -6 → r = T 11 0 k ∧ (∀ k, D 11 0 k = T 11 0 k) ∧ 0 < mm (D 14 q 1) k) := by
  subst hr
  subst hD
  have hv := vo_n67 (h.2.1 k hk)
  have hb := st_begin h hq hc
  by_cases hB : busyC T q k (nI 1)
  · have hB2 := bs_busy (mq := mq).mpr hB
    have er : rdC (bsT T q mq) q k = -6 := if_pos hB2
    have et : tkT (bsT T q mq) q k (nI 1) = bsT T q mq := tkT_t hB2
    rw [er, et]
    exact ⟨(st_end h hb hq hc (-6) er_67.1).1, by decide, ⟨fun _ => hB, fun _ => rfl⟩, fun z => absurd rfl z⟩
  · have hB2 := mt (bs_busy (mq := mq)).mp hB
    have er : rdC (bsT T q mq) q k = T 11 0 k := (if_neg hB2).trans bs_11
    have et : tkT (bsT T q mq) q k (nI 1) = lkT (bsT T q mq) q k (nI 1) := tkT_f hB2
    rw [er, et]
    have hl := st_lock hb hq hk (Or.inl rfl) hB2
    obtain ⟨a, b⟩ := st_end h hl hq hc (T 11 0 k) hv.2.2
    obtain ⟨b1, b2⟩ := b hv.1 hv.2.1
    refine ⟨a, hv.2.1, ⟨fun z => absurd z hv.1, fun z => absurd z hB⟩, fun _ => ⟨rfl, fun k2 => ?_, ?_⟩⟩
    · rw [b1, lkT_ne (by omega), bs_11]
    · rw [b2, lk_w hk (by decide) hk, if_pos rfl]
      omega
/-- a key that is locked with the mode 2 and gets a value -/
theorem chg_R {T U : sv_T} {q mq k : Nat} {v : Int32} (hU : StI T U q mq) (hq : q < 3) (hk : k < 16) (hB : ¬ busyC U q k (nI 2)) (hv : vo v) : StI T (chT (lkT U q k (nI 2)) q (mq + 1) k v) q mq ∧ mm (chT (lkT U q k (nI 2)) q (mq + 1) k v 14 q 1) k = 2 ∧ chT (lkT U q k (nI 2)) q (mq + 1) k v 11 0 k = v := by
  have hl := st_lock hU hq hk (Or.inr rfl) hB
  have h2 : mm (lkT U q k (nI 2) 14 q 1) k = 2 := by
    rw [lk_w hk (by decide) hk, if_pos rfl]
    have := (hU.1.2.2.1 k hk).1
    omega
  refine ⟨st_chg hl hk h2 hv, ?_, ?_⟩
  · rw [chT_ne (by omega) (by omega)]
    exact h2
  · unfold chT
    rw [tu_self]
theorem rvT_c {U : sv_T} {q k m : Nat} {v : Int32} (hB : ¬ busyC U q k (nI 2)) : rvT U q k m v = chT (lkT U q k (nI 2)) q m k v := by
  unfold rvT chT
  rw [if_neg hB, lkT_ne (k2 := 11) (j2 := 0) (by omega)]
theorem write_R {T : sv_T} {cs : Nat → Nat} {q mq k : Nat} {v : Int32} (h : SI T cs) (hq : q < 3) (hc : cs q = mq + 1) (hk : k < 16) (hvv : vo v) (r : Int32) (hr : r = rvC (bsT T q mq) q k) (D : sv_T) (hD : D = enT (rvT (bsT T q mq) q k (mq + 1) v) q mq (rvC (bsT T q mq) q k)) : StR T D cs q r ∧ r ≠ -7 ∧ (r = -6 ↔ busyC T q k (nI 2)) ∧ (r ≠ -6 → r = T 11 0 k ∧ D 11 0 k = v ∧ mm (D 14 q 1) k = 2) := by
  subst hr
  subst hD
  have hv := vo_n67 (h.2.1 k hk)
  have hb := st_begin h hq hc
  by_cases hB : busyC T q k (nI 2)
  · have hB2 := bs_busy (mq := mq).mpr hB
    have er : rvC (bsT T q mq) q k = -6 := if_pos hB2
    have et : rvT (bsT T q mq) q k (mq + 1) v = bsT T q mq := if_pos hB2
    rw [er, et]
    exact ⟨(st_end h hb hq hc (-6) er_67.1).1, by decide, ⟨fun _ => hB, fun _ => rfl⟩, fun z => absurd rfl z⟩
  · have hB2 := mt (bs_busy (mq := mq)).mp hB
    have er : rvC (bsT T q mq) q k = T 11 0 k := (if_neg hB2).trans bs_11
    rw [er, rvT_c hB2]
    obtain ⟨c1, c2, c3⟩ := chg_R hb hq hk hB2 hvv
    obtain ⟨a, b⟩ := st_end h c1 hq hc (T 11 0 k) hv.2.2
    obtain ⟨b1, b2⟩ := b hv.1 hv.2.1
    exact ⟨a, hv.2.1, ⟨fun z => absurd z hv.1, fun z => absurd z hB⟩, fun _ => ⟨rfl, by rw [b1, c3], by rw [b2, c2]⟩⟩
/-- an answer of one that adds: BUSY, FAILED, or a value -/
def okA (r : Int32) : Prop := r = -6 ∨ r = -7 ∨ ¬ r < 0
theorem okA_er {r : Int32} (h : okA r) : ¬ isEr r := by
  rcases h with rfl | rfl | h
  · exact er_67.1
  · exact er_67.2
  · exact fun z => h z.1
theorem add_R {T U : sv_T} {q mq k : Nat} {d ms : Int32} (hU : StI T U q mq) (hq : q < 3) (hk : k < 16) : StI T (avT U q k (mq + 1) d ms) q mq ∧ okA (avC U q k d ms) := by
  unfold avT avC
  by_cases hB : busyC U q k (nI 2)
  · rw [if_pos hB, if_pos hB]
    exact ⟨hU, Or.inl rfl⟩
  · rw [if_neg hB, if_neg hB]
    by_cases hX : avX U k d ms
    · rw [if_pos hX, if_pos hX]
      exact ⟨st_lock hU hq hk (Or.inr rfl) hB, Or.inr (Or.inl rfl)⟩
    · rw [if_neg hX, if_neg hX]
      have hin : inR (avP U k ms + d) (nI 0) (nI 9999) := Decidable.not_not.mp (fun z => hX (Or.inr z))
      have c := (chg_R (v := avP U k ms + d) hU hq hk hB (Or.inr hin)).1
      unfold chT at c
      rw [lkT_ne (k2 := 11) (j2 := 0) (by omega)] at c
      exact ⟨c, Or.inr (Or.inr hin.1)⟩
theorem sh_R {T U : sv_T} {q mq : Nat} {keys d a0 : Int32} (hU : StI T U q mq) (hq : q < 3) (ha : okA a0) : ∀ k, k ≤ 16 → StI T (shT U q (mq + 1) keys d a0 k).1 q mq ∧ okA (shT U q (mq + 1) keys d a0 k).2
  | 0, _ => ⟨hU, ha⟩
  | k + 1, hk => by
    obtain ⟨i1, i2⟩ := sh_R hU hq ha (keys := keys) (d := d) k (by omega)
    show StI T (if _ then _ else _ : sv_T × Int32).1 q mq ∧ okA (if _ then _ else _ : sv_T × Int32).2
    split
    · obtain ⟨j1, j2⟩ := add_R (k := k) (d := d) (ms := -5) i1 hq (by omega)
      refine ⟨j1, ?_⟩
      show okA (if _ then _ else _)
      split
      · exact j2
      · exact i2
    · exact ⟨i1, i2⟩
theorem mv_R {T U : sv_T} {q mq a b : Nat} {amt : Int32} (hU : StI T U q mq) (hq : q < 3) (ha : a < 16) (hb : b < 16) : StI T (mvT U q (mq + 1) a b amt).1 q mq ∧ okA (mvT U q (mq + 1) a b amt).2 := by
  obtain ⟨i1, i2⟩ := add_R (k := a) (d := -amt) (ms := -5) hU hq ha
  unfold mvT
  split
  · exact add_R i1 hq hb
  · exact ⟨i1, i2⟩
/-! begin, commit, rollback, savepoint, undoTo, release, keep -/
theorem fr_SI {T D : sv_T} {cs cs2 : Nat → Nat} {q : Nat} (h : SI T cs) (hq : q < 3) (hK : KP D) (hV : VO D) (hc : ∀ j, j ≠ q → cs2 j = cs j) (hc2 : cs2 q ≤ 13) (hD : SO D q (cs2 q)) (hN : NO D q (cs2 q - 1)) (hf : ∀ k2 j n, 14 ≤ k2 → j ≠ q → D k2 j n = T k2 j n) (hU : ∀ k, k < 16 → mm (D 14 q 1) k ≤ mm (T 14 q 1) k) : SI D cs2 := by
  obtain ⟨-, -, hs, hE⟩ := id h
  refine ⟨hK, hV, fun j hj => ?_, EX_le hE (SI_2 h) (fun j hj k hk => ?_)⟩
  · by_cases e : j = q
    · subst e; exact ⟨hc2, hD, hN⟩
    · rw [hc j e]
      refine ⟨(hs j hj).1, SO_congr (hs j hj).2.1 (fun k n hk => hf k j n hk e), fun p hp => ?_⟩
      rw [hf 16 j p (by omega) e]
      exact (hs j hj).2.2 p hp
  · by_cases e : j = q
    · subst e; exact hU k hk
    · rw [hf 14 j 1 (by omega) e]; exact Nat.le_refl _
theorem begin_R {T : sv_T} {cs : Nat → Nat} {q : Nat} (h : SI T cs) (hq : q < 3) (hc : cs q = 0) : SI (aM T q 0) (va_up cs q 1) ∧ (∀ k, aM T q 0 11 0 k = T 11 0 k) ∧ (∀ j, aM T q 0 14 j 1 = T 14 j 1) ∧ aM T q 0 10 = T 10 := by
  have hs := h.2.2.1 q hq
  have e14 : ∀ j, aM T q 0 14 j 1 = T 14 j 1 := fun j => aM_ne (by omega) (by omega)
  have e10 : aM T q 0 10 = T 10 := funext (fun j => funext (fun n => aM_ne (by omega) (by omega)))
  refine ⟨fr_SI h hq (by unfold KP; rw [e10]; exact h.1) (fun k hk => by rw [aM_ne (by omega) (by omega)]; exact h.2.1 k hk) (fun j hj => va_up_ne _ _ hj) (by rw [va_up_self]; omega) ?_ (fun p hp => by rw [va_up_self] at hp; omega) (fun k2 j n hk2 hj => aM_ne (by omega) (by omega)) (fun k hk => by rw [e14]; exact Nat.le_refl _), fun k => aM_ne (by omega) (by omega), e14, e10⟩
  rw [va_up_self]
  have := hs.2.1
  rw [hc] at this
  exact aM_SO this
theorem cl_SI {T D : sv_T} {cs : Nat → Nat} {q : Nat} (h : SI T cs) (hq : q < 3) (hV : VO D) (h10 : D 10 = T 10) (h0 : D 14 q 0 = nI 0) (h1 : D 14 q 1 = nI 0) (hf : ∀ k2 j n, 14 ≤ k2 → j ≠ q → D k2 j n = T k2 j n) : SI D (va_up cs q 0) := by
  refine fr_SI h hq (by unfold KP; rw [h10]; exact h.1) hV (fun j hj => va_up_ne _ _ hj) (by rw [va_up_self]; omega) ?_ (fun p hp => by rw [va_up_self] at hp; omega) hf (fun k hk => by rw [h1, mm_0]; exact Nat.zero_le _)
  rw [va_up_self]
  exact SO_cut (h.2.2.1 q hq).2.1 (Nat.zero_le _) (fun _ => h1) h0 (fun r hr => absurd hr (Nat.not_lt_zero _)) (fun r hr => absurd hr (Nat.not_lt_zero _)) (fun r hr => by omega) (fun k hk => by rw [h1, mm_0]; exact Nat.zero_le _)
theorem clT_ne {T : sv_T} {q k2 j2 n : Nat} (h : ¬ (k2 = 14 ∧ j2 = q)) : clT T q k2 j2 n = T k2 j2 n := by
  unfold clT
  rw [tu_ne _ _ _ h, tu_ne _ _ _ h]
theorem clT_0 {T : sv_T} {q : Nat} : clT T q 14 q 0 = nI 0 ∧ clT T q 14 q 1 = nI 0 := by
  unfold clT
  exact ⟨by rw [tu_n _ _ (by omega), tu_self], by rw [tu_self]⟩
theorem commit_R {T : sv_T} {cs : Nat → Nat} {q : Nat} (h : SI T cs) (hq : q < 3) : SI (inc (clT T q) 0) (va_up cs q 0) ∧ (∀ k, inc (clT T q) 0 11 0 k = T 11 0 k) ∧ (∀ j, j ≠ q → inc (clT T q) 0 14 j 1 = T 14 j 1) ∧ inc (clT T q) 0 14 q 1 = nI 0 ∧ inc (clT T q) 0 14 q 0 = nI 0 ∧ inc (clT T q) 0 10 = T 10 := by
  have f : ∀ k2 j n, k2 ≠ 13 → ¬ (k2 = 14 ∧ j = q) → inc (clT T q) 0 k2 j n = T k2 j n := fun k2 j n a b => by rw [inc_ne a, clT_ne b]
  have e10 : inc (clT T q) 0 10 = T 10 := funext (fun j => funext (fun n => f _ _ _ (by omega) (by omega)))
  have e0 : inc (clT T q) 0 14 q 0 = nI 0 := by rw [inc_ne (by omega)]; exact clT_0.1
  have e1 : inc (clT T q) 0 14 q 1 = nI 0 := by rw [inc_ne (by omega)]; exact clT_0.2
  exact ⟨cl_SI h hq (fun k hk => by rw [f _ _ _ (by omega) (by omega)]; exact h.2.1 k hk) e10 e0 e1 (fun k2 j n a b => f _ _ _ (by omega) (by omega)), fun k => f _ _ _ (by omega) (by omega), fun j hj => f _ _ _ (by omega) (by omega), e1, e0, e10⟩
theorem roll_R {T : sv_T} {cs : Nat → Nat} {q c : Nat} (h : SI T cs) (hq : q < 3) (hc : cs q = c) : SI (inc (clT (unT T q 0 c) q) 1) (va_up cs q 0) ∧ (∀ k, k < 16 → inc (clT (unT T q 0 c) q) 1 11 0 k = vaR T q k (T 11 0 k) c 0) ∧ (∀ j, j ≠ q → inc (clT (unT T q 0 c) q) 1 14 j 1 = T 14 j 1) ∧ inc (clT (unT T q 0 c) q) 1 14 q 1 = nI 0 ∧ inc (clT (unT T q 0 c) q) 1 14 q 0 = nI 0 ∧ inc (clT (unT T q 0 c) q) 1 10 = T 10 := by
  have hs := h.2.2.1 q hq
  rw [hc] at hs
  have f : ∀ k2 j n, k2 ≠ 13 → ¬ (k2 = 14 ∧ j = q) → ¬ (k2 = 11 ∧ j = 0) → ¬ (k2 = 17 ∧ j = q) → inc (clT (unT T q 0 c) q) 1 k2 j n = T k2 j n := fun k2 j n a b d e => by rw [inc_ne a, clT_ne b, unT_ne d e (by omega)]
  have e11 : ∀ k, k < 16 → inc (clT (unT T q 0 c) q) 1 11 0 k = vaR T q k (T 11 0 k) c 0 := fun k hk => by rw [inc_ne (by omega), clT_ne (by omega), unT_11 hk]
  have e10 : inc (clT (unT T q 0 c) q) 1 10 = T 10 := funext (fun j => funext (fun n => f _ _ _ (by omega) (by omega) (by omega) (by omega)))
  have e0 : inc (clT (unT T q 0 c) q) 1 14 q 0 = nI 0 := by rw [inc_ne (by omega)]; exact clT_0.1
  have e1 : inc (clT (unT T q 0 c) q) 1 14 q 1 = nI 0 := by rw [inc_ne (by omega)]; exact clT_0.2
  exact ⟨cl_SI h hq (fun k hk => by rw [e11 k hk]; exact va_vo (hs.2.1.2.2.1 k hk) (Nat.zero_le _) (h.2.1 k hk)) e10 e0 e1 (fun k2 j n a b => f _ _ _ (by omega) (by omega) (by omega) (by omega)), e11, fun j hj => f _ _ _ (by omega) (by omega) (by omega) (by omega), e1, e0, e10⟩
theorem undo_R {T : sv_T} {cs : Nat → Nat} {q p c : Nat} (h : SI T cs) (hq : q < 3) (hc : cs q = c) (hp : p + 1 < c) (D : sv_T) (hD : D = inc (drT (unT T q (p + 1) c) q (p + 1) c) 5) : SI D (va_up cs q (p + 2)) ∧ (∀ k, k < 16 → D 11 0 k = vaR T q k (T 11 0 k) c (p + 1)) ∧ (∀ j, j ≠ q → D 14 j 1 = T 14 j 1) ∧ D 14 q 1 = (if T 10 0 0 = nI 0 then T 15 q (p + 1) else T 14 q 1) ∧ D 15 q (p + 1) = T 15 q (p + 1) ∧ D 17 q (p + 1) = nI 0 ∧ D 14 q 0 = nI (p + 2) ∧ D 10 = T 10 := by
  subst hD
  have hs := h.2.2.1 q hq
  rw [hc] at hs
  have hz : drR q (p + 1) (c - (p + 1 + 1)) (p + 1 + 1) (unT T q (p + 1) c) = unT T q (p + 1) c := drR_z _ _ _ (fun r h1 h2 => by rw [unT_17 (by omega), if_pos (by omega)])
  have e : inc (drT (unT T q (p + 1) c) q (p + 1) c) 5 = inc (tu (unT T q (p + 1) c) 14 q 0 (nI (p + 1 + 1))) 5 := by unfold drT; rw [hz]
  have f : ∀ k2 j n, k2 ≠ 13 → ¬ (k2 = 14 ∧ j = q) → ¬ (k2 = 11 ∧ j = 0) → ¬ (k2 = 17 ∧ j = q) → inc (drT (unT T q (p + 1) c) q (p + 1) c) 5 k2 j n = T k2 j n := fun k2 j n a b d g => by rw [e, inc_ne a, tu_ne _ _ _ b, unT_ne d g (by omega)]
  have e11 : ∀ k, k < 16 → inc (drT (unT T q (p + 1) c) q (p + 1) c) 5 11 0 k = vaR T q k (T 11 0 k) c (p + 1) := fun k hk => by rw [e, inc_ne (by omega), tu_ne _ _ _ (by omega), unT_11 hk]
  have e10 : inc (drT (unT T q (p + 1) c) q (p + 1) c) 5 10 = T 10 := funext (fun j => funext (fun n => f _ _ _ (by omega) (by omega) (by omega) (by omega)))
  have e1 : inc (drT (unT T q (p + 1) c) q (p + 1) c) 5 14 q 1 = (if T 10 0 0 = nI 0 then T 15 q (p + 1) else T 14 q 1) := by rw [e, inc_ne (by omega), tu_n _ _ (by omega), unT_141]
  have hSO : SO (inc (drT (unT T q (p + 1) c) q (p + 1) c) 5) q (p + 2) := SO_congr (un_SO hs.2.1 (m := p + 1) hp) (fun k n hk => by rw [inc_ne (by omega)])
  refine ⟨fr_SI h hq (by unfold KP; rw [e10]; exact h.1) (fun k hk => by rw [e11 k hk]; exact va_vo (hs.2.1.2.2.1 k hk) (by omega) (h.2.1 k hk)) (fun j hj => va_up_ne _ _ hj) (by rw [va_up_self]; have := hs.1; omega) (by rw [va_up_self]; exact hSO) (fun p2 hp2 => ?_) (fun k2 j n a b => f _ _ _ (by omega) (by omega) (by omega) (by omega)) (fun k hk => ?_), e11, fun j hj => f _ _ _ (by omega) (by omega) (by omega) (by omega), e1, f _ _ _ (by omega) (by omega) (by omega) (by omega), ?_, hSO.1, e10⟩
  · rw [va_up_self] at hp2
    rw [f _ _ _ (by omega) (by omega) (by omega) (by omega)]
    exact hs.2.2 p2 (by omega)
  · rw [e1]
    have := KO_le (hs.2.1.2.2.1 k hk) (r := p + 1) (by omega)
    rw [LA_lt hp] at this
    split
    · exact this
    · exact Nat.le_refl _
  · rw [e, inc_ne (by omega), tu_ne _ _ _ (by omega), unT_17 (by omega), if_pos (by omega)]
theorem rel_R {T : sv_T} {cs : Nat → Nat} {q p c : Nat} (h : SI T cs) (hq : q < 3) (hc : cs q = c) (hp : p + 1 < c) : SI (drT T q p c) (va_up cs q (p + 1)) ∧ (∀ k, drT T q p c 11 0 k = T 11 0 k) ∧ (∀ j, drT T q p c 14 j 1 = T 14 j 1) ∧ drT T q p c 14 q 0 = nI (p + 1) ∧ drT T q p c 10 = T 10 := by
  have hs := h.2.2.1 q hq
  rw [hc] at hs
  have f : ∀ k2 j n, ¬ ((k2 = 17 ∨ k2 = 18) ∧ j = q) → ¬ (k2 = 14 ∧ j = q ∧ n = 0) → drT T q p c k2 j n = T k2 j n := fun k2 j n a b => drT_ne a b
  have e10 : drT T q p c 10 = T 10 := funext (fun j => funext (fun n => f _ _ _ (by omega) (by omega)))
  have hSO := dr_SO hs.2.1 (m := p) (by omega)
  refine ⟨fr_SI h hq (by unfold KP; rw [e10]; exact h.1) (fun k hk => by rw [f _ _ _ (by omega) (by omega)]; exact h.2.1 k hk) (fun j hj => va_up_ne _ _ hj) (by rw [va_up_self]; have := hs.1; omega) (by rw [va_up_self]; exact hSO) (fun p2 hp2 => ?_) (fun k2 j n a b => f _ _ _ (by omega) (by omega)) (fun k hk => by rw [f _ _ _ (by omega) (by omega)]; exact Nat.le_refl _), fun k => f _ _ _ (by omega) (by omega), fun j => f _ _ _ (by omega) (by omega), hSO.1, e10⟩
  rw [va_up_self] at hp2
  rw [f _ _ _ (by omega) (by omega)]
  exact hs.2.2 p2 (by omega)
theorem save_R {T : sv_T} {cs : Nat → Nat} {q mq a : Nat} (h : SI T cs) (hq : q < 3) (hc : cs q = mq + 1) (hm : mq < 12) (ha : a < 8) (D : sv_T) (hD : D = inc (aM (tu T 16 q mq (nI a)) q (mq + 1)) 6) : SI D (va_up cs q (mq + 2)) ∧ (∀ k, D 11 0 k = T 11 0 k) ∧ (∀ j, D 14 j 1 = T 14 j 1) ∧ D 10 = T 10 := by
  subst hD
  have hs := h.2.2.1 q hq
  rw [hc] at hs
  have f : ∀ k2 j n, k2 ≠ 13 → ¬ ((k2 = 15 ∨ k2 = 17) ∧ j = q) → ¬ (k2 = 14 ∧ j = q ∧ n = 0) → ¬ (k2 = 16 ∧ j = q) → inc (aM (tu T 16 q mq (nI a)) q (mq + 1)) 6 k2 j n = T k2 j n := fun k2 j n b c d e => by rw [inc_ne b, aM_ne c d, tu_ne _ _ _ e]
  have e10 : inc (aM (tu T 16 q mq (nI a)) q (mq + 1)) 6 10 = T 10 := funext (fun j => funext (fun n => f _ _ _ (by omega) (by omega) (by omega) (by omega)))
  have hS1 : SO (tu T 16 q mq (nI a)) q (mq + 1) := by
    have e : ∀ k, k ≠ 16 → tu T 16 q mq (nI a) k q = T k q := fun k hk => tu_ne _ _ _ (by omega)
    have g := hs.2.1
    unfold SO KO LA at *
    rw [e 14 (by omega), e 15 (by omega), e 17 (by omega), e 18 (by omega)]
    exact g
  have hSO : SO (inc (aM (tu T 16 q mq (nI a)) q (mq + 1)) 6) q (mq + 2) := SO_congr (aM_SO hS1) (fun k n hk => by rw [inc_ne (by omega)])
  refine ⟨fr_SI h hq (by unfold KP; rw [e10]; exact h.1) (fun k hk => by rw [f _ _ _ (by omega) (by omega) (by omega) (by omega)]; exact h.2.1 k hk) (fun j hj => va_up_ne _ _ hj) (by rw [va_up_self]; omega) (by rw [va_up_self]; exact hSO) (fun p2 hp2 => ?_) (fun k2 j n b c => f _ _ _ (by omega) (by omega) (by omega) (by omega)) (fun k hk => by rw [f _ _ _ (by omega) (by omega) (by omega) (by omega)]; exact Nat.le_refl _), fun k => f _ _ _ (by omega) (by omega) (by omega) (by omega), fun j => f _ _ _ (by omega) (by omega) (by omega) (by omega), e10⟩
  rw [va_up_self] at hp2
  rw [inc_ne (by omega), aM_ne (by omega) (by omega)]
  by_cases e : p2 = mq
  · subst e
    rw [tu_self]
    exact ⟨a, ha, rfl⟩
  · rw [tu_n _ _ e]
    exact hs.2.2 p2 (by omega)
theorem keep_R {T : sv_T} {cs : Nat → Nat} (h : SI T cs) (b : Prop) [Decidable b] : SI (tu T 10 0 0 (bI b)) cs ∧ (∀ k, tu T 10 0 0 (bI b) 11 0 k = T 11 0 k) ∧ tu T 10 0 0 (bI b) 10 0 0 = bI b := by
  have f : ∀ k2 j n, k2 ≠ 10 → tu T 10 0 0 (bI b) k2 j n = T k2 j n := fun k2 j n hk => by rw [tu_ne _ _ _ (by omega)]
  have e0 : tu T 10 0 0 (bI b) 10 0 0 = bI b := by rw [tu_self]
  refine ⟨⟨by unfold KP; rw [e0]; exact nzB, fun k hk => by rw [f _ _ _ (by omega)]; exact h.2.1 k hk, fun q hq => ?_, fun a c k ha hc hne hk hm => ?_⟩, fun k => f _ _ _ (by omega), e0⟩
  · obtain ⟨a1, a2, a3⟩ := h.2.2.1 q hq
    exact ⟨a1, SO_congr a2 (fun k n hk => f _ _ _ (by omega)), fun p hp => by rw [f _ _ _ (by omega)]; exact a3 p hp⟩
  · rw [f _ _ _ (by omega)] at hm ⊢
    exact h.2.2.2 a c k ha hc hne hk hm
