/-! a statement: from its beginning to its end -/
theorem aM_SO {T : sv_T} {q c : Nat} (h : SO T q c) : SO (aM T q c) q (c + 1) := by
  obtain ⟨g0, g1, g2, g3⟩ := h
  have e141 : aM T q c 14 q 1 = T 14 q 1 := aM_ne (by omega) (by omega)
  have e15 : ∀ r, r ≠ c → aM T q c 15 q r = T 15 q r := fun r hr => by unfold aM; rw [tu_ne _ _ _ (by omega), tu_ne _ _ _ (by omega), tu_n _ _ hr]
  have e15c : aM T q c 15 q c = T 14 q 1 := by unfold aM; rw [tu_ne _ _ _ (by omega), tu_ne _ _ _ (by omega), tu_self]
  have e17 : ∀ r, r ≠ c → aM T q c 17 q r = T 17 q r := fun r hr => by unfold aM; rw [tu_ne _ _ _ (by omega), tu_n _ _ hr, tu_ne _ _ _ (by omega)]
  have e17c : aM T q c 17 q c = nI 0 := by unfold aM; rw [tu_ne _ _ _ (by omega), tu_self]
  have e18 : ∀ n, aM T q c 18 q n = T 18 q n := fun n => aM_ne (by omega) (by omega)
  have eL : ∀ r, r ≤ c → LA (aM T q c) q (c + 1) r = LA T q c r := fun r hr => by
    rw [LA_lt (by omega)]
    by_cases h : r = c
    · subst h; rw [e15c, LA_ge (Nat.le_refl _)]
    · rw [e15 r h, LA_lt (by omega)]
  have eN : LA (aM T q c) q (c + 1) (c + 1) = T 14 q 1 := by rw [LA_ge (Nat.le_refl _), e141]
  refine ⟨aM_14 T q c, fun z => by omega, fun k hk => ⟨by rw [e141]; exact (g2 k hk).1, fun r hr => ?_⟩, fun r hr => ?_⟩
  · by_cases h : r = c
    · subst h
      rw [eL r (Nat.le_refl _), eN, LA_ge (Nat.le_refl _), e17c, bt_0]
      exact ⟨Nat.le_refl _, fun z => by cases z⟩
    · rw [eL r (by omega), eL (r + 1) (by omega), e17 r h, e18]
      exact (g2 k hk).2 r (by omega)
  · by_cases h : r = c
    · subst h; rw [e17c]; exact hi0_0
    · rw [e17 r h]; exact g3 r (by omega)
/-- T ahead of the statement, U in it -/
def StI (T U : sv_T) (q mq : Nat) : Prop :=
  SO U q (mq + 2) ∧ VO U ∧ EX U ∧
  (∀ k, k < 16 → (if bt (U 17 q (mq + 1)) k = true then U 18 q ((mq + 1) * 16 + k) else U 11 0 k) = T 11 0 k) ∧
  U 15 q (mq + 1) = T 14 q 1 ∧
  (∀ k2 j n, 14 ≤ k2 → j ≠ q → U k2 j n = T k2 j n) ∧ U 16 q = T 16 q ∧ U 13 = T 13 ∧ U 10 = T 10
theorem st_begin {T : sv_T} {cs : Nat → Nat} {q mq : Nat} (h : SI T cs) (hq : q < 3) (hc : cs q = mq + 1) : StI T (bsT T q mq) q mq := by
  obtain ⟨-, hV, hS, hE⟩ := h
  have hs := (hS q hq).2.1
  rw [hc] at hs
  have e14 : ∀ j, bsT T q mq 14 j 1 = T 14 j 1 := fun j => bsT_ne (by omega) (by omega)
  refine ⟨aM_SO hs, fun k hk => by rw [bs_11]; exact hV k hk, fun a b k ha hb hne hk hm => ?_, fun k hk => ?_, ?_, fun k2 j n hk2 hj => bsT_ne (by omega) (by omega), ?_, ?_, ?_⟩
  · rw [e14] at hm ⊢
    exact hE a b k ha hb hne hk hm
  · have e17c : bsT T q mq 17 q (mq + 1) = nI 0 := by unfold bsT aM; rw [tu_ne _ _ _ (by omega), tu_self]
    rw [e17c, bt_0, if_neg (by decide), bs_11]
  · unfold bsT aM; rw [tu_ne _ _ _ (by omega), tu_ne _ _ _ (by omega), tu_self]
  · exact funext (fun n => bsT_ne (by omega) (by omega))
  · exact funext (fun j => funext (fun n => bsT_ne (by omega) (by omega)))
  · exact funext (fun j => funext (fun n => bsT_ne (by omega) (by omega)))
theorem st_lock {T U : sv_T} {q mq k n : Nat} (h : StI T U q mq) (hq : q < 3) (hk : k < 16) (hn : n = 1 ∨ n = 2) (hb : ¬ busyC U q k (nI n)) : StI T (lkT U q k (nI n)) q mq := by
  obtain ⟨⟨g0, g1, g2, g3⟩, hV, hE, h3, h4, h5, h6, h7, h8⟩ := h
  have hw : ∀ k2, k2 < 16 → mm (lkT U q k (nI n) 14 q 1) k2 = if k2 = k then max n (mm (U 14 q 1) k) else mm (U 14 q 1) k2 := fun k2 hk2 => lk_w hk (by omega) hk2
  have ho : ∀ k2 j n2, ¬ (k2 = 14 ∧ j = q) → lkT U q k (nI n) k2 j n2 = U k2 j n2 := fun k2 j n2 z => by rw [lkT_ne z]
  have hnb := mt (busy_n (T := U) (q := q) hk hn).mpr hb
  have eL : ∀ r, r < mq + 2 → LA (lkT U q k (nI n)) q (mq + 2) r = LA U q (mq + 2) r := fun r hr => by rw [LA_lt hr, LA_lt hr, ho _ _ _ (by omega)]
  have eN : LA (lkT U q k (nI n)) q (mq + 2) (mq + 2) = lkT U q k (nI n) 14 q 1 := LA_ge (Nat.le_refl _)
  have eN0 : LA U q (mq + 2) (mq + 2) = U 14 q 1 := LA_ge (Nat.le_refl _)
  have e2 : lkT U q k (nI n) 14 q 0 = U 14 q 0 := lkT_n (by omega)
  refine ⟨⟨by rw [e2]; exact g0, fun z => by omega, fun k2 hk2 => ⟨?_, fun r hr => ?_⟩, fun r hr => by rw [ho _ _ _ (by omega)]; exact g3 r hr⟩, fun k2 hk2 => by rw [ho _ _ _ (by omega)]; exact hV k2 hk2, fun a b k2 ha hb2 hne hk2 hm => ?_, fun k2 hk2 => by rw [ho _ _ _ (by omega), ho _ _ _ (by omega), ho _ _ _ (by omega)]; exact h3 k2 hk2, by rw [ho _ _ _ (by omega)]; exact h4, fun k2 j n2 z1 z2 => by rw [ho _ _ _ (by omega)]; exact h5 k2 j n2 z1 z2, ?_, ?_, ?_⟩
  · rw [hw k2 hk2]
    have := (g2 k2 hk2).1
    split
    · rename_i e; subst e; omega
    · omega
  · rw [eL r hr, ho _ _ _ (by omega), ho _ _ _ (by omega)]
    have K := (g2 k2 hk2).2 r hr
    by_cases hr1 : r + 1 = mq + 2
    · rw [hr1, eN0] at K
      rw [hr1, eN, hw k2 hk2]
      have hm2 := (g2 k2 hk2).1
      by_cases e : k2 = k
      · subst e
        rw [if_pos rfl]
        exact ⟨by omega, fun z => ⟨by have := (K.2 z).1; omega, (K.2 z).2⟩⟩
      · rw [if_neg e]; exact K
    · rw [eL (r + 1) (by omega)]; exact K
  · by_cases hqa : a = q
    · subst hqa
      rw [hw k2 hk2] at hm
      rw [ho 14 b 1 (by omega)]
      by_cases e : k2 = k
      · subst e
        rw [if_pos rfl] at hm
        by_cases h9 : mm (U 14 a 1) k2 = 2
        · exact hE a b k2 ha hb2 hne hk2 h9
        · by_cases h10 : mm (U 14 b 1) k2 = 0
          · exact h10
          · exact absurd ⟨by omega, b, hb2, fun z => hne z.symm, by omega⟩ hnb
      · rw [if_neg e] at hm
        exact hE a b k2 ha hb2 hne hk2 hm
    · rw [ho 14 a 1 (by omega)] at hm
      by_cases hqb : b = q
      · subst hqb
        have h9 := hE a b k2 ha hb2 hne hk2 hm
        rw [hw k2 hk2]
        by_cases e : k2 = k
        · subst e
          exact absurd ⟨by omega, a, ha, hqa, by omega⟩ hnb
        · rw [if_neg e]; exact h9
      · rw [ho 14 b 1 (by omega)]
        exact hE a b k2 ha hb2 hne hk2 hm
  · exact (funext (fun n2 => ho _ _ _ (by omega))).trans h6
  · exact (funext (fun j => funext (fun n2 => ho _ _ _ (by omega)))).trans h7
  · exact (funext (fun j => funext (fun n2 => ho _ _ _ (by omega)))).trans h8
/-- the new value behind a change -/
def chT (U : sv_T) (q m k : Nat) (v : Int32) : sv_T := tu (ncT U q m k (U 11 0 k)) 11 0 k v
theorem chT_ne {U : sv_T} {q m k k2 j2 : Nat} {v : Int32} (h1 : ¬ ((k2 = 17 ∨ k2 = 18) ∧ j2 = q)) (h2 : ¬ (k2 = 11 ∧ j2 = 0)) : chT U q m k v k2 j2 = U k2 j2 := by
  unfold chT
  rw [tu_ne _ _ _ h2, ncT_ne h1]
theorem st_chg {T U : sv_T} {q mq k : Nat} {v : Int32} (h : StI T U q mq) (hk : k < 16) (h2 : mm (U 14 q 1) k = 2) (hv : vo v) : StI T (chT U q (mq + 1) k v) q mq := by
  obtain ⟨⟨g0, g1, g2, g3⟩, hV, hE, h3, h4, h5, h6, h7, h8⟩ := h
  have o : ∀ k2 j2, ¬ ((k2 = 17 ∨ k2 = 18) ∧ j2 = q) → ¬ (k2 = 11 ∧ j2 = 0) → chT U q (mq + 1) k v k2 j2 = U k2 j2 := fun k2 j2 a b => chT_ne a b
  have e17 : ∀ r, chT U q (mq + 1) k v 17 q r = ncT U q (mq + 1) k (U 11 0 k) 17 q r := fun r => by unfold chT; rw [tu_ne _ _ _ (by omega)]
  have e18 : ∀ n, chT U q (mq + 1) k v 18 q n = ncT U q (mq + 1) k (U 11 0 k) 18 q n := fun r => by unfold chT; rw [tu_ne _ _ _ (by omega)]
  have b17 : ∀ i, i < 32 → bt (chT U q (mq + 1) k v 17 q (mq + 1)) i = (bt (U 17 q (mq + 1)) i || decide (i = k)) := fun i hi => by rw [e17]; exact ncT_17m U q (mq + 1) k _ hk hi
  have r17 : ∀ r, r ≠ mq + 1 → chT U q (mq + 1) k v 17 q r = U 17 q r := fun r hr => by rw [e17, ncT_17 hr]
  have r18 : ∀ n, n ≠ (mq + 1) * 16 + k → chT U q (mq + 1) k v 18 q n = U 18 q n := fun n hn => by rw [e18, ncT_18 hn]
  have k18 : chT U q (mq + 1) k v 18 q ((mq + 1) * 16 + k) = T 11 0 k := by
    rw [e18]
    have z := h3 k hk
    unfold ncT
    by_cases hb : bt (U 17 q (mq + 1)) k = true
    · rw [if_pos hb] at z ⊢; exact z
    · rw [if_neg hb] at z ⊢; rw [tu_self]; exact z
  have vT : vo (T 11 0 k) := by
    have z := h3 k hk
    by_cases hb : bt (U 17 q (mq + 1)) k = true
    · rw [if_pos hb] at z
      rw [← z]
      exact (((g2 k hk).2 (mq + 1) (by omega)).2 hb).2
    · rw [if_neg hb] at z
      rw [← z]
      exact hV k hk
  have e14 : ∀ j, chT U q (mq + 1) k v 14 j = U 14 j := fun j => o _ _ (by omega) (by omega)
  have eL : ∀ r, LA (chT U q (mq + 1) k v) q (mq + 2) r = LA U q (mq + 2) r := fun r => by unfold LA; rw [e14, o 15 q (by omega) (by omega)]
  have e11 : ∀ i, i ≠ k → chT U q (mq + 1) k v 11 0 i = U 11 0 i := fun i hi => by unfold chT; rw [tu_n _ _ hi, ncT_ne (by omega)]
  have e11k : chT U q (mq + 1) k v 11 0 k = v := by unfold chT; rw [tu_self]
  refine ⟨⟨by rw [e14]; exact g0, fun z => by omega, fun i hi => ⟨by rw [e14]; exact (g2 i hi).1, fun r hr => ?_⟩, fun r hr => ?_⟩, fun i hi => ?_, fun a b i ha hb hne hi hm => ?_, fun i hi => ?_, ?_, fun k2 j n z1 z2 => ?_, ?_, ?_, ?_⟩
  · rw [eL, eL]
    refine ⟨((g2 i hi).2 r hr).1, fun hb => ?_⟩
    by_cases hrm : r = mq + 1
    · subst hrm
      by_cases hik : i = k
      · subst hik
        rw [k18, LA_ge (by omega)]
        exact ⟨h2, vT⟩
      · rw [b17 i (by omega), decide_eq_false hik, Bool.or_false] at hb
        rw [r18 _ (by omega)]
        exact ((g2 i hi).2 (mq + 1) hr).2 hb
    · rw [r17 r hrm] at hb
      rw [r18 _ (by omega)]
      exact ((g2 i hi).2 r hr).2 hb
  · by_cases hrm : r = mq + 1
    · subst hrm
      intro i h9 h10
      rw [b17 i h10, g3 _ hr i h9 h10, decide_eq_false (by omega)]
      rfl
    · rw [r17 r hrm]; exact g3 r hr
  · by_cases hik : i = k
    · subst hik; rw [e11k]; exact hv
    · rw [e11 i hik]; exact hV i hi
  · rw [e14] at hm ⊢
    exact hE a b i ha hb hne hi hm
  · rw [b17 i (by omega)]
    by_cases hik : i = k
    · subst hik
      rw [decide_eq_true rfl, Bool.or_true, if_pos rfl, k18]
    · rw [decide_eq_false hik, Bool.or_false, r18 _ (by omega), e11 i hik]
      exact h3 i hi
  · rw [o 15 q (by omega) (by omega)]; exact h4
  · rw [o k2 j (by omega) (by omega)]; exact h5 k2 j n z1 z2
  · rw [o 16 q (by omega) (by omega)]; exact h6
  · exact (funext (fun j => o _ _ (by omega) (by omega))).trans h7
  · exact (funext (fun j => o _ _ (by omega) (by omega))).trans h8
/-- what a statement leaves behind -/
theorem st_SI {T U D : sv_T} {cs : Nat → Nat} {q mq : Nat} (h : SI T cs) (hS : StI T U q mq) (hq : q < 3) (hc : cs q = mq + 1) (hD : SO D q (mq + 1)) (hV : VO D) (hU : ∀ k, k < 16 → mm (D 14 q 1) k ≤ mm (U 14 q 1) k) (hf : ∀ k2 j n, 14 ≤ k2 → j ≠ q → D k2 j n = U k2 j n) (h16 : D 16 q = U 16 q) (h10 : D 10 = U 10) : SI D cs := by
  obtain ⟨hK, -, hs, -⟩ := h
  obtain ⟨g, g2, hE, g3, g4, g5, g6, g7, g8⟩ := hS
  have hfr : ∀ j, j ≠ q → ∀ k2 n, 14 ≤ k2 → D k2 j n = T k2 j n := fun j hj k2 n hk2 => by rw [hf k2 j n hk2 hj, g5 k2 j n hk2 hj]
  have m2 : ∀ j, j < 3 → ∀ k, k < 16 → mm (U 14 j 1) k ≤ 2 := fun j hj k hk => by
    by_cases e : j = q
    · subst e; exact (g.2.2.1 k hk).1
    · rw [g5 14 j 1 (by omega) e]; exact ((hs j hj).2.1.2.2.1 k hk).1
  refine ⟨by unfold KP; rw [h10, g8]; exact hK, hV, fun j hj => ?_, EX_le hE m2 (fun j hj k hk => ?_)⟩
  · by_cases e : j = q
    · subst e
      refine ⟨(hs j hj).1, by rw [hc]; exact hD, fun p hp => ?_⟩
      rw [h16, g6]
      exact (hs j hj).2.2 p hp
    · refine ⟨(hs j hj).1, SO_congr (hs j hj).2.1 (fun k n hk => hfr j e k n hk), fun p hp => ?_⟩
      rw [hfr j e 16 p (by omega)]
      exact (hs j hj).2.2 p hp
  · by_cases e : j = q
    · subst e; exact hU k hk
    · rw [hf 14 j 1 (by omega) e]; exact Nat.le_refl _
theorem inc_13 {T : sv_T} {w w2 : Nat} : inc T w 13 0 w2 = if w2 = w then T 13 0 w + nI 1 else T 13 0 w2 := by
  unfold inc
  split
  · rename_i e; subst e; rw [tu_self]
  · rename_i e; rw [tu_n _ _ e]
theorem st_well {T U : sv_T} {cs : Nat → Nat} {q mq : Nat} (h : SI T cs) (hS : StI T U q mq) (hq : q < 3) (hc : cs q = mq + 1) : SI (ewT U q mq) cs ∧ (∀ k, ewT U q mq 11 0 k = U 11 0 k) ∧ (∀ j, ewT U q mq 14 j 1 = U 14 j 1) ∧ (∀ j, ewT U q mq 14 j 0 = T 14 j 0) ∧ (∀ w, ewT U q mq 13 0 w = if w = 2 then T 13 0 2 + nI 1 else T 13 0 w) ∧ ewT U q mq 10 = T 10 := by
  have hI : SO (inc U 2) q (mq + 2) := SO_congr hS.1 (fun k n hk => by rw [inc_ne (by omega)])
  have hD : SO (ewT U q mq) q (mq + 1) := dr_SO hI (by omega)
  have f : ∀ k2 j n, ¬ ((k2 = 17 ∨ k2 = 18) ∧ j = q) → ¬ (k2 = 14 ∧ j = q ∧ n = 0) → k2 ≠ 13 → ewT U q mq k2 j n = U k2 j n := fun k2 j n a b c => by unfold ewT; rw [drT_ne a b, inc_ne c]
  have e10 : ewT U q mq 10 = U 10 := funext (fun j => funext (fun n => f _ _ _ (by omega) (by omega) (by omega)))
  refine ⟨st_SI h hS hq hc hD (fun k hk => by rw [f _ _ _ (by omega) (by omega) (by omega)]; exact hS.2.1 k hk) (fun k hk => by rw [f _ _ _ (by omega) (by omega) (by omega)]; exact Nat.le_refl _) (fun k2 j n a b => f _ _ _ (by omega) (by omega) (by omega)) (funext (fun n => f _ _ _ (by omega) (by omega) (by omega))) e10, fun k => f _ _ _ (by omega) (by omega) (by omega), fun j => f _ _ _ (by omega) (by omega) (by omega), fun j => ?_, fun w => ?_, e10.trans hS.2.2.2.2.2.2.2.2⟩
  · by_cases e : j = q
    · subst e; rw [hD.1, (h.2.2.1 j hq).2.1.1, hc]
    · rw [f _ _ _ (by omega) (by omega) (by omega), hS.2.2.2.2.2.1 14 j 0 (by omega) e]
  · unfold ewT
    rw [drT_ne (by omega) (by omega), inc_13, hS.2.2.2.2.2.2.2.1]
theorem st_bad {T U : sv_T} {cs : Nat → Nat} {q mq w0 : Nat} (h : SI T cs) (hS : StI T U q mq) (hq : q < 3) (hc : cs q = mq + 1) : SI (ebT U q mq w0) cs ∧ (∀ k, k < 16 → ebT U q mq w0 11 0 k = T 11 0 k) ∧ (∀ j, (j ≠ q ∨ T 10 0 0 = nI 0) → ebT U q mq w0 14 j 1 = T 14 j 1) ∧ (∀ j, ebT U q mq w0 14 j 0 = T 14 j 0) ∧ (∀ w, ebT U q mq w0 13 0 w = if w = w0 then T 13 0 w0 + nI 1 else T 13 0 w) ∧ ebT U q mq w0 10 = T 10 := by
  have hS0 := hS
  obtain ⟨g, g2, hE, g3, g4, g5, g6, g7, g8⟩ := hS0
  have hz : drR q mq (mq + 2 - (mq + 1)) (mq + 1) (inc (unT U q (mq + 1) (mq + 2)) w0) = inc (unT U q (mq + 1) (mq + 2)) w0 := drR_z _ _ _ (fun r h1 h2 => by rw [inc_ne (by omega), unT_17 (by omega), if_pos (by omega)])
  have e : ebT U q mq w0 = tu (inc (unT U q (mq + 1) (mq + 2)) w0) 14 q 0 (nI (mq + 1)) := by unfold ebT drT; rw [hz]
  have e141 : ebT U q mq w0 14 q 1 = if U 10 0 0 = nI 0 then U 15 q (mq + 1) else U 14 q 1 := by rw [e, tu_n _ _ (by omega), inc_ne (by omega), unT_141]
  have f : ∀ k2 j n, k2 ≠ 13 → ¬ (k2 = 11 ∧ j = 0) → ¬ (k2 = 17 ∧ j = q) → ¬ (k2 = 14 ∧ j = q) → ebT U q mq w0 k2 j n = U k2 j n := fun k2 j n a b c d => by rw [e, tu_ne _ _ _ d, inc_ne a, unT_ne b c (by omega)]
  have e10 : ebT U q mq w0 10 = U 10 := funext (fun j => funext (fun n => f _ _ _ (by omega) (by omega) (by omega) (by omega)))
  have e11 : ∀ k, k < 16 → ebT U q mq w0 11 0 k = T 11 0 k := fun k hk => by
    rw [e, tu_ne _ _ _ (by omega), inc_ne (by omega), unT_11 hk]
    show fvR _ _ _ _ (mq + 2 - (mq + 1)) (mq + 1) = _
    rw [show mq + 2 - (mq + 1) = 1 by omega]
    exact g3 k hk
  have l1 : ∀ k, k < 16 → mm (U 15 q (mq + 1)) k ≤ mm (U 14 q 1) k := fun k hk => by
    have := KO_le (g.2.2.1 k hk) (r := mq + 1) (by omega)
    rw [LA_lt (by omega)] at this
    exact this
  have hU : ∀ k, k < 16 → mm (ebT U q mq w0 14 q 1) k ≤ mm (U 14 q 1) k := fun k hk => by
    rw [e141]
    split
    · exact l1 k hk
    · exact Nat.le_refl _
  have hLw : ∀ k, k < 16 → mm (U 15 q (mq + 1)) k ≤ mm (ebT U q mq w0 14 q 1) k := fun k hk => by
    rw [e141]
    split
    · exact Nat.le_refl _
    · exact l1 k hk
  have eLA : LA U q (mq + 2) (mq + 1) = U 15 q (mq + 1) := LA_lt (by omega)
  have hD : SO (ebT U q mq w0) q (mq + 1) := by
    refine SO_cut g (by omega) (fun z => by omega) (by rw [e, tu_self]) (fun r hr => f _ _ _ (by omega) (by omega) (by omega) (by omega)) (fun r hr => Or.inr ⟨?_, fun k hk => f _ _ _ (by omega) (by omega) (by omega) (by omega), fun hr1 k hk => by rw [eLA]; exact hLw k hk⟩) (fun r hr k hk => ?_) hU
    · rw [e, tu_ne _ _ _ (by omega), inc_ne (by omega), unT_17 (by omega), if_neg (by omega)]
    · obtain rfl : r = mq := by omega
      have := ((g.2.2.1 k hk).2 r (by omega)).1
      rw [eLA] at this
      exact Nat.le_trans this (hLw k hk)
  refine ⟨st_SI h hS hq hc hD (fun k hk => by rw [e11 k hk]; exact h.2.1 k hk) hU (fun k2 j n a b => f _ _ _ (by omega) (by omega) (by omega) (by omega)) (funext (fun n => f _ _ _ (by omega) (by omega) (by omega) (by omega))) e10, e11, fun j hj => ?_, fun j => ?_, fun w => ?_, e10.trans g8⟩
  · by_cases ej : j = q
    · subst ej
      rw [e141, g8, if_pos (hj.resolve_left (fun z => z rfl)), g4]
    · rw [f _ _ _ (by omega) (by omega) (by omega) (by omega), g5 14 j 1 (by omega) ej]
  · by_cases ej : j = q
    · subst ej; rw [hD.1, (h.2.2.1 j hq).2.1.1, hc]
    · rw [f _ _ _ (by omega) (by omega) (by omega) (by omega), g5 14 j 0 (by omega) ej]
  · rw [e, tu_ne _ _ _ (by omega), inc_13, unT_ne (by omega) (by omega) (by omega), unT_ne (by omega) (by omega) (by omega), g7]
