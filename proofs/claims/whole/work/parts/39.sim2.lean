/-- while a statement runs: its row n stands behind the last moment's -/
def stOk (U : sv_T) (s n : Nat → Int32) (q mq : Nat) (cs : Nat → Nat) : Prop := mq ≤ 12 ∧ setOk U s ∧ valOk U s ∧ totOk U s ∧ (∀ q2, q2 < 3 → q2 ≠ q → sesB U s q2 (cs q2)) ∧ U 14 q 0 = nI (mq + 2) ∧ s (24 + q) = nI 1 ∧ s (27 + q) = nI mq ∧ U 14 q 1 = s (30 + q) ∧ (∀ p, p < mq → U 16 q p = s (33 + 12 * q + p)) ∧ (∀ r, r ≤ mq → rowV U q r (rwS s q r) ∧ rowL (rwS s q r) (U 15 q r) (U 15 q (r + 1))) ∧ rowV U q (mq + 1) n ∧ rowL n (U 15 q (mq + 1)) (U 14 q 1) ∧ zrOk s q (mq + 1)
theorem ses_all {T T2 : sv_T} {s s2 : Nat → Int32} {q2 c : Nat} (h : sesB T s q2 c) (hq2 : q2 < 3) (hT : ∀ k n, 14 ≤ k → T2 k q2 n = T k q2 n) (hs : ∀ a, own q2 a → s2 a = s a) : sesB T2 s2 q2 c := ses_frame h hq2 (hT _ _ (by omega)) (hT _ _ (by omega)) (fun r _ => hT _ _ (by omega)) (fun p _ => hT _ _ (by omega)) (fun r _ => hT _ _ (by omega)) (fun n _ => hT _ _ (by omega)) hs
theorem bsT_ne {T : sv_T} {q mq k2 j2 n : Nat} (h1 : ¬ ((k2 = 15 ∨ k2 = 17) ∧ j2 = q)) (h2 : ¬ (k2 = 14 ∧ j2 = q ∧ n = 0)) : bsT T q mq k2 j2 n = T k2 j2 n := aM_ne h1 h2
theorem begin_st {T : sv_T} {s n : Nat → Int32} {cs : Nat → Nat} {q mq : Nat} (h : RR T s cs) (hq : q < 3) (hc : cs q = mq + 1) : stOk (bsT T q mq) s (fg1 n 0) q mq cs := by
  obtain ⟨h1, h2, h3, h4⟩ := id h
  have hs := h4 q hq
  rw [hc] at hs
  obtain ⟨a1, a2, a3, a4, a5, a6, a7, a8, a9⟩ := hs
  have e15 : ∀ r, bsT T q mq 15 q r = if r = mq + 1 then T 14 q 1 else T 15 q r := fun r => by
    unfold bsT aM
    rw [tu_ne _ _ _ (by omega), tu_ne _ _ _ (by omega)]
    by_cases e : r = mq + 1
    · subst e
      rw [tu_self, if_pos rfl]
    · rw [tu_n _ _ e, if_neg e]
  have e17 : ∀ r, bsT T q mq 17 q r = if r = mq + 1 then nI 0 else T 17 q r := fun r => by
    unfold bsT aM
    rw [tu_ne _ _ _ (by omega)]
    by_cases e : r = mq + 1
    · subst e
      rw [tu_self, if_pos rfl]
    · rw [tu_n _ _ e, if_neg e, tu_ne _ _ _ (by omega)]
  have e14 : bsT T q mq 14 q 1 = T 14 q 1 := aM_ne (by omega) (by omega)
  have n0 : fg1 n 0 0 = nI 0 := fg1_0 n 0
  have n1 : fg1 n 0 1 = nI 0 := fg1_1 n 0
  have eL : ∀ r2, r2 ≤ mq + 1 → bsT T q mq 15 q r2 = LA T q (mq + 1) r2 := fun r2 hr2 => by
    rw [e15]
    by_cases e2 : r2 = mq + 1
    · rw [if_pos e2, LA_ge (by omega)]
    · rw [if_neg e2, LA_lt (by omega)]
  refine ⟨by omega, ?_, fun k hk => ?_, fun w hw => ?_, fun q2 hq2 hn => ?_, aM_14 _ _ _, by rw [a3, if_neg (by omega)], a4, by rw [e14]; exact a5, fun p hp => ?_, fun r hr => ?_, ?_, ?_, a9⟩
  · unfold setOk
    rw [bsT_ne (by omega) (by omega)]
    exact h1
  · rw [bsT_ne (by omega) (by omega)]
    exact h2 k hk
  · rw [bsT_ne (by omega) (by omega)]
    exact h3 w hw
  · exact ses_all (h4 q2 hq2) hq2 (fun k n hk => aM_ne (by omega) (by omega)) (fun _ _ => rfl)
  · rw [bsT_ne (by omega) (by omega)]
    exact a7 p (by omega)
  · obtain ⟨b1, b2⟩ := a8 r (by omega)
    refine ⟨rowV_congr b1 (by rw [e17, if_neg (by omega)]) (fun k hk => aM_ne (by omega) (by omega)) (fun _ _ => rfl), ?_⟩
    rw [eL r (by omega), eL (r + 1) (by omega)]
    exact b2
  · exact ⟨by rw [e17, if_pos rfl, n0], by rw [n0]; exact hi0_0, fun k hk hb => by rw [n0, bt_0] at hb; cases hb⟩
  · rw [e15, if_pos rfl, e14]
    exact ⟨by rw [n1]; exact hi0_0, fun k hk => by rw [n1, bt_0]; exact ⟨by simp, by simp, Int32.le_refl _⟩⟩
theorem st_modes {U : sv_T} {s n : Nat → Int32} {q mq : Nat} {cs : Nat → Nat} (h : stOk U s n q mq cs) : ∀ o, o < 3 → U 14 o 1 = s (30 + o) := fun o ho => by
  by_cases e : o = q
  · rw [e]; exact h.2.2.2.2.2.2.2.2.1
  · exact (h.2.2.2.2.1 o ho e).2.2.2.2.1
theorem RR_modes {T : sv_T} {s : Nat → Int32} {cs : Nat → Nat} (h : RR T s cs) : ∀ o, o < 3 → T 14 o 1 = s (30 + o) := fun o ho => (h.2.2.2 o ho).2.2.2.2.1
theorem busy_iff {U : sv_T} {s : Nat → Int32} {q k : Nat} {mode : Int32} (h : ∀ o, o < 3 → U 14 o 1 = s (30 + o)) (hq : q < 3) (hm : mode = nI 1 ∨ mode = nI 2) : busyC U q k mode ↔ busyR s q k mode := by
  have e : (if mode = nI 1 then nI 1 else nI 0) = nI 2 - mode := by rcases hm with rfl | rfl <;> decide
  unfold busyC busyR
  rw [h q hq, e]
  constructor
  · rintro ⟨a, o, h1, h2, h3⟩
    exact ⟨a, o, h1, h2, by rw [← h o h1]; exact h3⟩
  · rintro ⟨a, o, h1, h2, h3⟩
    exact ⟨a, o, h1, h2, by rw [h o h1]; exact h3⟩
theorem lock_st {U : sv_T} {s n : Nat → Int32} {q mq k : Nat} {cs : Nat → Nat} {mode : Int32} (h : stOk U s n q mq cs) (hq : q < 3) (hk : k < 16) (hm : mode = nI 1 ∨ mode = nI 2) : stOk (lkT U q k mode) (takesS s q k mode) (takesN s n q k mode) q mq cs := by
  obtain ⟨c1, c2, c3, c4, c5, c6, c7, c8, c9, c10, c11, c12, c13, c14⟩ := h
  have hM : isMd mode := by rcases hm with rfl | rfl; exact isMd_c.2.1; exact isMd_c.2.2
  unfold lkT takesS takesN
  rw [c9]
  by_cases hlt : md (s (30 + q)) k < mode
  · rw [if_pos hlt, if_pos hlt, if_pos hlt]
    have eS : ∀ a, a ≠ 30 + q → va_up s (30 + q) (sm (s (30 + q)) k mode) a = s a := fun a ha => va_up_ne _ _ ha
    have eT : ∀ k2 j2, ¬ (k2 = 14 ∧ j2 = q) → tu U 14 q 1 (sm (s (30 + q)) k mode) k2 j2 = U k2 j2 := fun k2 j2 g => tu_ne _ _ _ g
    refine ⟨c1, ?_, fun i hi => ?_, fun w hw => ?_, fun q2 hq2 hn => ?_, ?_, ?_, ?_, ?_, fun p hp => ?_, fun r hr => ?_, ?_, ?_, fun r g1 g2 => ?_⟩
    · unfold setOk
      rw [eT _ _ (by omega), eS _ (by omega)]
      exact c2
    · rw [eT _ _ (by omega), eS _ (by omega)]
      exact c3 i hi
    · rw [eT _ _ (by omega), eS _ (by omega)]
      exact c4 w hw
    · exact ses_all (c5 q2 hq2 hn) hq2 (fun k2 n2 hk2 => by rw [eT _ _ (by omega)]) (fun a ha => eS a (by unfold own at ha; omega))
    · rw [tu_n _ _ (by omega)]
      exact c6
    · rw [eS _ (by omega)]
      exact c7
    · rw [eS _ (by omega)]
      exact c8
    · rw [tu_self, va_up_self]
    · rw [eT _ _ (by omega), eS _ (by omega)]
      exact c10 p hp
    · obtain ⟨b1, b2⟩ := c11 r hr
      rw [eT 15 q (by omega)]
      exact ⟨rowV_congr b1 (by rw [eT _ _ (by omega)]) (fun i hi => by rw [eT _ _ (by omega)]) (fun f hf => eS _ (by unfold rAt; omega)), rowL_congr b2 (fun f hf => eS _ (by unfold rAt; omega))⟩
    · have hn : ∀ f, f ≠ 1 → f ≠ 2 → (if bt (n 1) k = true then n else va_up (va_up n 1 (sb (n 1) k)) 2 (sm (n 2) k (md (s (30 + q)) k))) f = n f := fun f g1 g2 => by
        split
        · rfl
        · rw [va_up_ne _ _ g2, va_up_ne _ _ g1]
      obtain ⟨b1, b2, b3⟩ := c12
      unfold rowV
      rw [hn 0 (by omega) (by omega), eT 17 q (by omega), eT 18 q (by omega)]
      exact ⟨b1, b2, fun i hi hb => by rw [hn (3 + i) (by omega) (by omega)]; exact b3 i hi hb⟩
    · rw [eT 15 q (by omega), tu_self]
      obtain ⟨b1, b2⟩ := c13
      have hx : ∀ x : Int32, ∀ i, i < 16 → md (sm x k mode) i = if i = k then mode else md x i := fun x i hi => md_sm x mode hk hi hM
      by_cases hb : bt (n 1) k = true
      · rw [if_pos hb]
        refine ⟨b1, fun i hi => ?_⟩
        obtain ⟨d1, d2, d3⟩ := b2 i hi
        rw [hx _ i hi]
        by_cases e : i = k
        · subst e
          rw [if_pos rfl]
          rw [c9] at d3
          have hl : md (U 15 q (mq + 1)) i < mode := Int32.lt_of_le_of_lt d3 hlt
          exact ⟨⟨fun _ e => Int32.lt_irrefl (e ▸ hl), fun _ => hb⟩, d2, Int32.le_of_lt hl⟩
        · rw [if_neg e, ← c9]
          exact ⟨d1, d2, d3⟩
      · rw [if_neg hb]
        have f1 : va_up (va_up n 1 (sb (n 1) k)) 2 (sm (n 2) k (md (s (30 + q)) k)) 1 = sb (n 1) k := by rw [va_up_ne _ _ (by omega), va_up_self]
        have f2 : va_up (va_up n 1 (sb (n 1) k)) 2 (sm (n 2) k (md (s (30 + q)) k)) 2 = sm (n 2) k (md (s (30 + q)) k) := by rw [va_up_self]
        refine ⟨by rw [f1]; exact hi0_sb b1 hk, fun i hi => ?_⟩
        obtain ⟨d1, d2, d3⟩ := b2 i hi
        rw [hx _ i hi, f1, f2, bt_sb _ (by omega) (by omega), md_sm _ _ hk hi (isMd_md _ hk)]
        by_cases e : i = k
        · subst e
          rw [if_pos rfl, if_pos rfl]
          have hL : md (U 15 q (mq + 1)) i = md (s (30 + q)) i := by rw [← c9]; exact Decidable.of_not_not (fun z => hb (d1.mpr z))
          refine ⟨⟨fun _ e => Int32.lt_irrefl (e ▸ hL ▸ hlt), fun _ => by simp⟩, fun _ => hL.symm, by rw [hL]; exact Int32.le_of_lt hlt⟩
        · rw [if_neg e, if_neg e, ← c9]
          simp only [e, decide_false, Bool.or_false]
          exact ⟨d1, d2, d3⟩
    · rw [eS _ (by unfold rAt; omega), eS _ (by unfold rAt; omega)]
      exact c14 r g1 g2
  · rw [if_neg hlt, if_neg hlt, if_neg hlt]
    exact ⟨c1, c2, c3, c4, c5, c6, c7, c8, c9, c10, c11, c12, c13, c14⟩
theorem chg_st {U : sv_T} {s n : Nat → Int32} {q mq k : Nat} {cs : Nat → Nat} {v : Int32} (h : stOk U s n q mq cs) (hq : q < 3) (hk : k < 16) (hv : vok v) : stOk (tu (ncT U q (mq + 1) k (U 11 0 k)) 11 0 k (outs v)) (chgS s k v) (chgN s n k) q mq cs := by
  obtain ⟨c1, c2, c3, c4, c5, c6, c7, c8, c9, c10, c11, c12, c13, c14⟩ := h
  have eS : ∀ a, a ≠ 8 + k → chgS s k v a = s a := fun a ha => va_up_ne _ _ ha
  have eT : ∀ k2 j2, ¬ (k2 = 11 ∧ j2 = 0) → ¬ ((k2 = 17 ∨ k2 = 18) ∧ j2 = q) → tu (ncT U q (mq + 1) k (U 11 0 k)) 11 0 k (outs v) k2 j2 = U k2 j2 := fun k2 j2 g1 g2 => by rw [tu_ne _ _ _ g1, ncT_ne g2]
  refine ⟨c1, ?_, fun i hi => ?_, fun w hw => ?_, fun q2 hq2 hn => ?_, ?_, ?_, ?_, ?_, fun p hp => ?_, fun r hr => ?_, ?_, ?_, fun r g1 g2 => ?_⟩
  · unfold setOk
    rw [eT _ _ (by omega) (by omega), eS _ (by omega)]
    exact c2
  · by_cases e : i = k
    · subst e
      rw [tu_self]
      unfold chgS
      rw [va_up_self]
      exact ⟨rfl, hv⟩
    · rw [tu_n _ _ e, ncT_ne (by omega), eS _ (by omega)]
      exact c3 i hi
  · rw [eT _ _ (by omega) (by omega), eS _ (by omega)]
    exact c4 w hw
  · exact ses_all (c5 q2 hq2 hn) hq2 (fun k2 n2 hk2 => by rw [eT _ _ (by omega) (by omega)]) (fun a ha => eS a (by unfold own at ha; omega))
  · rw [eT _ _ (by omega) (by omega)]
    exact c6
  · rw [eS _ (by omega)]
    exact c7
  · rw [eS _ (by omega)]
    exact c8
  · rw [eT _ _ (by omega) (by omega), eS _ (by omega)]
    exact c9
  · rw [eT _ _ (by omega) (by omega), eS _ (by omega)]
    exact c10 p hp
  · obtain ⟨b1, b2⟩ := c11 r hr
    rw [eT 15 q (by omega) (by omega)]
    exact ⟨rowV_congr b1 (by rw [tu_ne _ _ _ (by omega), ncT_17 (by omega)]) (fun i hi => by rw [tu_ne _ _ _ (by omega), ncT_18 (by omega)]) (fun f hf => eS _ (by unfold rAt; omega)), rowL_congr b2 (fun f hf => eS _ (by unfold rAt; omega))⟩
  · obtain ⟨b1, b2, b3⟩ := c12
    unfold rowV
    rw [tu_ne _ _ _ (by omega), tu_ne _ _ _ (by omega)]
    unfold ncT chgN
    rw [b1]
    by_cases hb : bt (n 0) k = true
    · rw [if_pos hb, if_pos hb]
      exact ⟨b1, b2, b3⟩
    · rw [if_neg hb, if_neg hb]
      have f0 : va_up (va_up n 0 (sb (n 0) k)) (3 + k) (s (8 + k)) 0 = sb (n 0) k := by rw [va_up_ne _ _ (by omega), va_up_self]
      rw [f0]
      refine ⟨by rw [tu_ne _ _ _ (by omega), tu_self], hi0_sb b2 hk, fun i hi hbi => ?_⟩
      by_cases e : i = k
      · subst e
        rw [tu_self, va_up_self]
        exact c3 i hk
      · rw [tu_n _ _ (by omega), tu_ne _ _ _ (by omega), va_up_ne _ _ (by omega), va_up_ne _ _ (by omega)]
        rw [bt_sb _ (by omega) (by omega)] at hbi
        simp only [e, decide_false, Bool.or_false] at hbi
        exact b3 i hi hbi
  · rw [eT 15 q (by omega) (by omega), eT 14 q (by omega) (by omega)]
    have hn : ∀ f, f = 1 ∨ f = 2 → chgN s n k f = n f := fun f g => by
      unfold chgN
      split
      · rfl
      · rw [va_up_ne _ _ (by omega), va_up_ne _ _ (by omega)]
    unfold rowL
    rw [hn 1 (Or.inl rfl), hn 2 (Or.inr rfl)]
    exact c13
  · rw [eS _ (by unfold rAt; omega), eS _ (by unfold rAt; omega)]
    exact c14 r g1 g2
theorem rowV_c2 {T T2 : sv_T} {q r : Nat} {a a2 : Nat → Int32} (h : rowV T q r a) (h17 : T2 17 q r = T 17 q r) (h18 : ∀ k, k < 16 → T2 18 q (r * 16 + k) = T 18 q (r * 16 + k)) (h0 : a2 0 = a 0) (h3 : ∀ k, k < 16 → a2 (3 + k) = a (3 + k)) : rowV T2 q r a2 := by
  obtain ⟨b1, b2, b3⟩ := h
  refine ⟨by rw [h17, h0]; exact b1, by rw [h0]; exact b2, fun k hk hb => ?_⟩
  rw [h0] at hb
  rw [h18 k hk, h3 k hk]
  exact b3 k hk hb
theorem well_sim {U : sv_T} {s n : Nat → Int32} {q mq : Nat} {cs : Nat → Nat} (h : stOk U s n q mq cs) (hq : q < 3) (hc : cs q = mq + 1) : RR (ewT U q mq) (ewS s n q mq) cs := by
  obtain ⟨c1, c2, c3, c4, c5, c6, c7, c8, c9, c10, c11, c12, c13, c14⟩ := h
  have hR : RR (drT U q mq (mq + 2)) (jnF s n (rAt q mq) 0) cs := by
    have eD : drR q mq (mq + 2 - (mq + 1)) (mq + 1) U = drK U q mq (mq + 1) 16 := by rw [show mq + 2 - (mq + 1) = 1 by omega]; rfl
    have eT : ∀ k j n, ¬ ((k = 17 ∨ k = 18) ∧ j = q) → ¬ (k = 14 ∧ j = q ∧ n = 0) → drT U q mq (mq + 2) k j n = U k j n := fun k j n g1 g2 => drT_ne g1 g2
    have eS : ∀ a, ¬ (rAt q mq ≤ a ∧ a < rAt q mq + 19) → jnF s n (rAt q mq) 0 a = s a := fun a g => jnF_out (by omega)
    refine ⟨?_, fun k hk => ?_, fun w hw => ?_, fun q2 hq2 => ?_⟩
    · unfold setOk
      rw [eT 10 0 0 (by omega) (by omega), eS _ (by unfold rAt; omega)]
      exact c2
    · rw [eT 11 0 k (by omega) (by omega), eS _ (by unfold rAt; omega)]
      exact c3 k hk
    · rw [eT 13 0 w (by omega) (by omega), eS _ (by unfold rAt; omega)]
      exact c4 w hw
    · by_cases e : q2 = q
      · subst e
        rw [hc]
        refine ⟨by omega, by unfold drT; rw [tu_self], ?_, ?_, ?_, fun z => absurd z (by omega), fun p hp => ?_, fun r hr => ?_, fun r g1 g2 => ?_⟩
        · rw [eS _ (by unfold rAt; omega), if_neg (by omega)]
          exact c7
        · rw [eS _ (by unfold rAt; omega)]
          exact c8
        · rw [eT 14 q2 1 (by omega) (by omega), eS _ (by unfold rAt; omega)]
          exact c9
        · rw [eT 16 q2 p (by omega) (by omega), eS _ (by unfold rAt; omega)]
          exact c10 p (by omega)
        · obtain ⟨b1, b2⟩ := c11 r (by omega)
          by_cases er : r = mq
          · subst er
            constructor
            · have hV := jn_rowV (J := rwS (jnF s n (rAt q2 r) 0) q2 r) (m := r) (r := r + 1) (by omega) (jnF_0 s n (rAt q2 r) 0) (fun k hk => by
                have := jnF_3 s n (rAt q2 r) 0 hk
                simp only [Nat.zero_add] at this
                exact this) b1 c12
              refine rowV_congr hV ?_ (fun k hk => ?_) (fun _ _ => rfl)
              · unfold drT
                rw [tu_ne _ _ _ (by omega), eD]
              · unfold drT
                rw [tu_ne _ _ _ (by omega), eD]
            · rw [LA_lt (by omega), LA_ge (by omega), eT 15 q2 r (by omega) (by omega), eT 14 q2 1 (by omega) (by omega)]
              exact jn_rowL (jnF_1 s n (rAt q2 r) 0) (fun k hk => jnF_2 s n (rAt q2 r) 0 hk) b2 c13
          · have g : ∀ f, f < 19 → rwS (jnF s n (rAt q2 mq) 0) q2 r f = rwS s q2 r f := fun f hf => eS _ (by unfold rAt; omega)
            refine ⟨rowV_congr b1 ?_ (fun k hk => ?_) g, ?_⟩
            · unfold drT
              rw [tu_ne _ _ _ (by omega), eD, drK_17 er]
            · unfold drT
              rw [tu_ne _ _ _ (by omega), eD, drK_18 16 (by omega)]
            · rw [LA_lt (by omega), LA_lt (by omega), eT 15 q2 r (by omega) (by omega), eT 15 q2 (r + 1) (by omega) (by omega)]
              exact rowL_congr b2 g
        · rw [eS _ (by unfold rAt; omega), eS _ (by unfold rAt; omega)]
          exact c14 r g1 g2
      · exact ses_all (c5 q2 hq2 e) hq2 (fun k n2 hk => eT k q2 n2 (by omega) (by omega)) (fun a ha => eS a (by unfold own at ha; unfold rAt; omega))
  have h2 := RR_inc (w := 2) hR (by omega)
  have e : inc (drT U q mq (mq + 2)) 2 = ewT U q mq := by
    funext k j n2
    unfold ewT
    by_cases h13 : k = 13 ∧ j = 0
    · obtain ⟨rfl, rfl⟩ := h13
      rw [drT_ne (by omega) (by omega)]
      unfold inc
      by_cases h2 : n2 = 2
      · subst h2
        rw [tu_self, tu_self, drT_ne (by omega) (by omega)]
      · rw [tu_n _ _ h2, tu_n _ _ h2, drT_ne (by omega) (by omega)]
    · unfold inc
      rw [tu_ne _ _ _ h13]
      unfold drT
      rw [show mq + 2 - (mq + 1) = 1 by omega]
      show tu (drK U q mq (mq + 1) 16) 14 q 0 _ k j n2 = tu (drK (tu U 13 0 2 _) q mq (mq + 1) 16) 14 q 0 _ k j n2
      have eK : ∀ i k2 j2 n3, ¬ (k2 = 13 ∧ j2 = 0) → drK (tu U 13 0 2 (U 13 0 2 + nI 1)) q mq (mq + 1) i k2 j2 n3 = drK U q mq (mq + 1) i k2 j2 n3 := by
        intro i
        induction i with
        | zero =>
          intro k2 j2 n3 hk
          exact congrFun (tu_ne U 2 (U 13 0 2 + nI 1) hk) n3
        | succ i ih =>
          intro k2 j2 n3 hk
          have e17 : tu U 13 0 2 (U 13 0 2 + nI 1) 17 q (mq + 1) = U 17 q (mq + 1) := by rw [tu_ne _ _ _ (by omega)]
          have e18 : tu U 13 0 2 (U 13 0 2 + nI 1) 18 q ((mq + 1) * 16 + i) = U 18 q ((mq + 1) * 16 + i) := by rw [tu_ne _ _ _ (by omega)]
          by_cases hb : bt (U 17 q (mq + 1)) i = true
          · rw [drK_t (by rw [e17]; exact hb), drK_t hb, e18]
            unfold ncT
            rw [ih 17 q mq (by omega)]
            split
            · exact ih k2 j2 n3 hk
            · by_cases g18 : k2 = 18 ∧ j2 = q
              · obtain ⟨rfl, rfl⟩ := g18
                by_cases gn : n3 = mq * 16 + i
                · subst gn
                  rw [tu_self, tu_self]
                · rw [tu_n _ _ gn, tu_n _ _ gn, tu_ne _ _ _ (by omega), tu_ne _ _ _ (by omega)]
                  exact ih 18 j2 n3 hk
              · rw [tu_ne _ _ _ g18, tu_ne _ _ _ g18]
                by_cases g17 : k2 = 17 ∧ j2 = q
                · obtain ⟨rfl, rfl⟩ := g17
                  by_cases gn : n3 = mq
                  · subst gn
                    rw [tu_self, tu_self]
                  · rw [tu_n _ _ gn, tu_n _ _ gn]
                    exact ih 17 j2 n3 hk
                · rw [tu_ne _ _ _ g17, tu_ne _ _ _ g17]
                  exact ih k2 j2 n3 hk
          · rw [drK_f (by rw [e17]; exact hb), drK_f hb]
            exact ih k2 j2 n3 hk
      by_cases g14 : k = 14 ∧ j = q
      · obtain ⟨rfl, rfl⟩ := g14
        by_cases gn : n2 = 0
        · subst gn
          rw [tu_self, tu_self]
        · rw [tu_n _ _ gn, tu_n _ _ gn]
          exact (eK 16 14 j n2 (by omega)).symm
      · rw [tu_ne _ _ _ g14, tu_ne _ _ _ g14]
        exact (eK 16 k j n2 h13).symm
  rw [e] at h2
  exact h2
theorem ebM_md (s n : Nat → Int32) (q : Nat) : ∀ (c : Nat), c ≤ 16 → ∀ k, k < 16 → md (ebM s n q c) k = if k < c ∧ bt (n 1) k = true then md (n 2) k else md (s (30 + q)) k
  | 0, _, k, _ => by
    rw [if_neg (by omega)]
    rfl
  | c + 1, hc, k, hk => by
    have ih := ebM_md s n q c (by omega) k hk
    by_cases h : bt (n 1) c = true
    · rw [ebM_t h, md_sm _ _ (by omega) hk (isMd_md _ (by omega))]
      by_cases e : k = c
      · rw [if_pos e, e, if_pos ⟨by omega, h⟩]
      · rw [if_neg e, ih]
        by_cases h2 : k < c ∧ bt (n 1) k = true
        · rw [if_pos h2, if_pos ⟨by omega, h2.2⟩]
        · rw [if_neg h2, if_neg (fun z => h2 ⟨by omega, z.2⟩)]
    · rw [ebM_f h, ih]
      by_cases h2 : k < c ∧ bt (n 1) k = true
      · rw [if_pos h2, if_pos ⟨by omega, h2.2⟩]
      · rw [if_neg h2, if_neg (fun z => h2 ⟨by
          have : k ≠ c := fun e => h (e ▸ z.2)
          omega, z.2⟩)]
theorem bad_sim {U : sv_T} {s n : Nat → Int32} {q mq w : Nat} {cs : Nat → Nat} {res : Int32} (h : stOk U s n q mq cs) (hq : q < 3) (hc : cs q = mq + 1) (hw : (res = -6 ∧ w = 3) ∨ (res ≠ -6 ∧ w = 4)) : RR (ebT U q mq w) (ebS s n q mq res) cs := by
  obtain ⟨c1, c2, c3, c4, c5, c6, c7, c8, c9, c10, c11, c12, c13, c14⟩ := h
  have uT : ∀ k j n, ¬ (k = 11 ∧ j = 0) → ¬ (k = 17 ∧ j = q) → ¬ (k = 14 ∧ j = q ∧ n = 1) → unT U q (mq + 1) (mq + 2) k j n = U k j n := fun k j n g1 g2 g3 => unT_ne g1 g2 g3
  have u17 : ∀ r, unT U q (mq + 1) (mq + 2) 17 q r = if r = mq + 1 then nI 0 else U 17 q r := fun r => by
    have e : unT U q (mq + 1) (mq + 2) 17 q r = ufT U q (mq + 1) (mq + 2) 17 q r := by
      unfold unT
      split
      · rw [tu_ne _ _ _ (by omega)]
      · rfl
    rw [e]
    unfold ufT
    rw [fcT_17, uvT_ne (by omega)]
    by_cases e : r = mq + 1
    · rw [if_pos (by omega), if_pos e]
    · rw [if_neg (by omega), if_neg e]
  have u14 : unT U q (mq + 1) (mq + 2) 14 q 1 = if s 0 = 0 then U 15 q (mq + 1) else U 14 q 1 := by
    unfold unT
    rw [c2.1]
    by_cases e : s 0 = 0
    · rw [if_pos (show s 0 = nI 0 from e), if_pos e, tu_self]
    · rw [if_neg (show ¬ s 0 = nI 0 from e), if_neg e]
      unfold ufT
      rw [fcT_ne (by omega), uvT_ne (by omega)]
  have u11 : ∀ k, k < 16 → unT U q (mq + 1) (mq + 2) 11 0 k = if bt (n 0) k = true then U 18 q ((mq + 1) * 16 + k) else U 11 0 k := fun k hk => by
    have e : unT U q (mq + 1) (mq + 2) 11 0 k = ufT U q (mq + 1) (mq + 2) 11 0 k := by
      unfold unT
      split
      · rw [tu_ne _ _ _ (by omega)]
      · rfl
    rw [e]
    unfold ufT
    rw [fcT_ne (by omega)]
    unfold uvT
    rw [tA_at, if_pos hk]
    show fvR (U 17 q) (fun r => U 18 q (r * 16 + k)) k (U 11 0 k) (mq + 2 - (mq + 1)) (mq + 1) = _
    rw [show mq + 2 - (mq + 1) = 1 by omega]
    show (if bt (U 17 q (mq + 1)) k = true then U 18 q ((mq + 1) * 16 + k) else U 11 0 k) = _
    rw [c12.1]
  have hwl : w < 7 := by omega
  have eT : ∀ k j n2, ¬ (k = 14 ∧ j = q ∧ n2 = 0) → ¬ k = 13 → ebT U q mq w k j n2 = unT U q (mq + 1) (mq + 2) k j n2 := fun k j n2 g1 g2 => by
    unfold ebT drT
    rw [drR_z _ _ _ (fun r2 h1 h2 => by rw [inc_ne (by omega), u17, if_pos (by omega)])]
    by_cases e : k = 14 ∧ j = q
    · obtain ⟨rfl, rfl⟩ := e
      rw [tu_n _ _ (by omega), inc_ne g2]
    · rw [tu_ne _ _ _ e, inc_ne g2]
  have eT13 : ∀ n2, ebT U q mq w 13 0 n2 = if n2 = w then U 13 0 w + nI 1 else U 13 0 n2 := fun n2 => by
    unfold ebT
    rw [drT_ne (by omega) (by omega)]
    unfold inc
    by_cases e : n2 = w
    · subst e
      rw [tu_self, if_pos rfl, uT _ _ _ (by omega) (by omega) (by omega)]
    · rw [tu_n _ _ e, if_neg e, uT _ _ _ (by omega) (by omega) (by omega)]
  have eT0 : ebT U q mq w 14 q 0 = nI (mq + 1) := by unfold ebT drT; rw [tu_self]
  have eJ : ∀ a, a ≠ 1 + w → ebS s n q mq res a = ebJ s n q mq a := fun a ha => by
    unfold ebS
    rcases hw with ⟨g1, g2⟩ | ⟨g1, g2⟩
    · rw [if_pos g1, va_up_ne _ _ (by omega)]
    · rw [if_neg g1, va_up_ne _ _ (by omega)]
  have eJo : ∀ a, ¬ (rAt q mq ≤ a ∧ a < rAt q mq + 19) → ebJ s n q mq a = ebV s n q 16 a := fun a g => jnF_out (by omega)
  have eS : ∀ a, a ≠ 1 + w → ¬ (8 ≤ a ∧ a < 24) → a ≠ 30 + q → ¬ (rAt q mq ≤ a ∧ a < rAt q mq + 19) → ebS s n q mq res a = s a := fun a g1 g2 g3 g4 => by
    rw [eJ a g1, eJo a g4]
    exact ebV_hi (by omega) g3
  refine ⟨?_, fun k hk => ?_, fun v hv => ?_, fun q2 hq2 => ?_⟩
  · unfold setOk
    rw [eT 10 0 0 (by omega) (by omega), uT _ _ _ (by omega) (by omega) (by omega), eS 0 (by omega) (by omega) (by omega) (by unfold rAt; omega)]
    exact c2
  · rw [eT 11 0 k (by omega) (by omega), u11 k hk, eJ _ (by omega), eJo _ (by unfold rAt; omega)]
    unfold ebV
    have e8 : 8 + k - 8 = k := by omega
    by_cases hb : bt (n 0) k = true
    · rw [if_pos hb, if_pos ⟨by omega, by omega, by rw [e8]; exact hb⟩, e8]
      exact c12.2.2 k hk hb
    · rw [if_neg hb, if_neg (fun z => hb (by have := z.2.2; rw [e8] at this; exact this)), if_neg (by omega)]
      exact c3 k hk
  · rw [eT13]
    by_cases e : v = w
    · subst e
      rw [if_pos rfl, c4 v hv]
      have e0 : ebJ s n q mq (1 + v) = s (1 + v) := by rw [eJo _ (by unfold rAt; omega)]; exact ebV_hi (by omega) (by omega)
      unfold ebS
      rcases hw with ⟨g1, g2⟩ | ⟨g1, g2⟩
      · subst g2
        rw [if_pos g1, show (1 + 3 : Nat) = 4 from rfl, va_up_self]
        rw [show (4 : Nat) = 1 + 3 from rfl, e0]
      · subst g2
        rw [if_neg g1, show (1 + 4 : Nat) = 5 from rfl, va_up_self]
        rw [show (5 : Nat) = 1 + 4 from rfl, e0]
    · rw [if_neg e, eS _ (by omega) (by omega) (by omega) (by unfold rAt; omega)]
      exact c4 v hv
  · by_cases e : q2 = q
    · subst e
      rw [hc]
      have e14 : ebT U q2 mq w 14 q2 1 = if s 0 = 0 then U 15 q2 (mq + 1) else U 14 q2 1 := by rw [eT 14 q2 1 (by omega) (by omega), u14]
      have s30 : ebS s n q2 mq res (30 + q2) = if s 0 = 0 then U 15 q2 (mq + 1) else U 14 q2 1 := by
        rw [eJ _ (by omega), eJo _ (by unfold rAt; omega)]
        by_cases e0 : s 0 = 0
        · rw [ebV_30 (by omega) e0, if_pos e0]
          refine md_ext (fun k hk => ?_)
          rw [ebM_md s n q2 16 (by omega) k hk]
          obtain ⟨d1, d2, d3⟩ := c13.2 k hk
          by_cases hb : bt (n 1) k = true
          · rw [if_pos ⟨hk, hb⟩]
            exact d2 hb
          · rw [if_neg (fun z => hb z.2), ← c9]
            exact (Decidable.of_not_not (fun z => hb (d1.mpr z))).symm
        · rw [if_neg e0, c9]
          unfold ebV
          rw [if_neg (by omega), if_neg (fun z => e0 z.2)]
      refine ⟨by omega, eT0, ?_, ?_, by rw [e14, s30], fun z => absurd z (by omega), fun p hp => ?_, fun r hr => ?_, fun r g1 g2 => ?_⟩
      · rw [eS _ (by omega) (by omega) (by omega) (by unfold rAt; omega), if_neg (by omega)]
        exact c7
      · rw [eS _ (by omega) (by omega) (by omega) (by unfold rAt; omega)]
        exact c8
      · rw [eT 16 q2 p (by omega) (by omega), uT _ _ _ (by omega) (by omega) (by omega), eS _ (by omega) (by omega) (by omega) (by unfold rAt; omega)]
        exact c10 p (by omega)
      · obtain ⟨b1, b2⟩ := c11 r (by omega)
        have t17 : ebT U q2 mq w 17 q2 r = U 17 q2 r := by rw [eT 17 q2 r (by omega) (by omega), u17, if_neg (by omega)]
        have t18 : ∀ k, k < 16 → ebT U q2 mq w 18 q2 (r * 16 + k) = U 18 q2 (r * 16 + k) := fun k hk => by rw [eT 18 q2 _ (by omega) (by omega), uT _ _ _ (by omega) (by omega) (by omega)]
        have t15 : ∀ r2, ebT U q2 mq w 15 q2 r2 = U 15 q2 r2 := fun r2 => by rw [eT 15 q2 r2 (by omega) (by omega), uT _ _ _ (by omega) (by omega) (by omega)]
        by_cases er : r = mq
        · subst er
          have gV : ∀ f, f < 19 → ebV s n q2 16 (rAt q2 r + f) = s (rAt q2 r + f) := fun f hf => ebV_hi (by unfold rAt; omega) (by unfold rAt; omega)
          have gJ : ∀ f, f < 19 → rwS (ebS s n q2 r res) q2 r f = jnF (ebV s n q2 16) (ebN s n) (rAt q2 r) 0 (rAt q2 r + f) := fun f hf => eJ _ (by unfold rAt; omega)
          have N0 : ebN s n 0 = nI 0 := by unfold ebN; rw [va_up_ne _ _ (by omega), va_up_self]
          have N1 : ebN s n 1 = if s 0 = 0 then nI 0 else n 1 := by unfold ebN; rw [va_up_self]
          have N2 : ebN s n 2 = n 2 := by unfold ebN; rw [va_up_ne _ _ (by omega), va_up_ne _ _ (by omega)]
          have J0 := jnF_0 (ebV s n q2 16) (ebN s n) (rAt q2 r) 0
          have J1 := jnF_1 (ebV s n q2 16) (ebN s n) (rAt q2 r) 0
          have J2 := fun (k : Nat) (hk : k < 16) => jnF_2 (ebV s n q2 16) (ebN s n) (rAt q2 r) 0 hk
          have J3 := fun (k : Nat) (hk : k < 16) => jnF_3 (ebV s n q2 16) (ebN s n) (rAt q2 r) 0 hk
          rw [gV 0 (by omega), show ebN s n (0 + 0) = nI 0 from N0, or_0] at J0
          rw [gV 1 (by omega), show ebN s n (0 + 1) = _ from N1] at J1
          refine ⟨rowV_c2 b1 t17 t18 ((gJ 0 (by omega)).trans J0) (fun k hk => ?_), ?_⟩
          · rw [gJ (3 + k) (by omega), J3 k hk, show ebN s n (0 + 0) = nI 0 from N0, if_neg (by rw [bt_0]; simp)]
            exact gV (3 + k) (by omega)
          · rw [LA_lt (by omega), LA_ge (by omega), t15, e14]
            by_cases e0 : s 0 = 0
            · rw [if_pos e0]
              rw [if_pos e0, or_0] at J1
              refine ⟨by rw [gJ 1 (by omega), J1]; exact b2.1, fun k hk => ?_⟩
              have z := J2 k hk
              rw [show ebN s n (0 + 1) = _ from N1, if_pos e0, if_neg (by rw [bt_0]; simp), gV 2 (by omega)] at z
              rw [gJ 1 (by omega), gJ 2 (by omega), J1, z]
              exact b2.2 k hk
            · rw [if_neg e0]
              rw [if_neg e0] at J1
              refine jn_rowL (a := rwS s q2 r) (b := n) ((gJ 1 (by omega)).trans J1) (fun k hk => ?_) b2 c13
              have z := J2 k hk
              rw [show ebN s n (0 + 1) = _ from N1, if_neg e0, gV 1 (by omega), gV 2 (by omega), show ebN s n (0 + 2) = _ from N2] at z
              rw [gJ 2 (by omega)]
              exact z
        · have g : ∀ f, f < 19 → rwS (ebS s n q2 mq res) q2 r f = rwS s q2 r f := fun f hf => eS _ (by unfold rAt; omega) (by unfold rAt; omega) (by unfold rAt; omega) (by unfold rAt; omega)
          refine ⟨rowV_congr b1 t17 t18 g, ?_⟩
          rw [LA_lt (by omega), LA_lt (by omega), t15, t15]
          exact rowL_congr b2 g
      · rw [eS _ (by unfold rAt; omega) (by unfold rAt; omega) (by unfold rAt; omega) (by unfold rAt; omega), eS _ (by unfold rAt; omega) (by unfold rAt; omega) (by unfold rAt; omega) (by unfold rAt; omega)]
        exact c14 r g1 g2
    · refine ses_all (c5 q2 hq2 e) hq2 (fun k n2 hk => ?_) (fun a ha => ?_)
      · rw [eT k q2 n2 (by omega) (by omega), uT _ _ _ (by omega) (by omega) (by omega)]
      · unfold own at ha
        exact eS a (by omega) (by omega) (by omega) (by unfold rAt; omega)
