theorem bs_11 {T : sv_T} {q mq k : Nat} : bsT T q mq 11 0 k = T 11 0 k := bsT_ne (by omega) (by omega)
theorem bs_modes {T : sv_T} {s : Nat → Int32} {cs : Nat → Nat} {q mq : Nat} (h : RR T s cs) : ∀ o, o < 3 → bsT T q mq 14 o 1 = s (30 + o) := fun o ho => by
  rw [bsT_ne (by omega) (by omega)]
  exact RR_modes h o ho
theorem enT_w {U : sv_T} {q mq : Nat} {a : Int32} (h6 : a ≠ -6) (h7 : a ≠ -7) : enT U q mq a = ewT U q mq := by
  unfold enT
  rw [if_neg h6, if_neg h7]
theorem enT_6 {U : sv_T} {q mq : Nat} : enT U q mq (-6) = ebT U q mq 3 := if_pos rfl
theorem enT_7 {U : sv_T} {q mq : Nat} : enT U q mq (-7) = ebT U q mq 4 := by
  unfold enT
  rw [if_neg (by decide), if_pos rfl]
theorem er_67 : ¬ isEr (-6) ∧ ¬ isEr (-7) := by decide
theorem read_sim {T : sv_T} {s n : Nat → Int32} {cs : Nat → Nat} {q mq k : Nat} (h : RR T s cs) (hq : q < 3) (hk : k < 16) (hc : cs q = mq + 1) : RR (enT (tkT (bsT T q mq) q k (nI 1)) q mq (rdC (bsT T q mq) q k)) (drS s (fg1 n 0) q k mq) cs ∧ rdC (bsT T q mq) q k = (if busyR s q k (nI 1) then -6 else outs (s (8 + k))) ∧ ¬ isEr (rdC (bsT T q mq) q k) := by
  have hst := begin_st (n := n) h hq hc
  have hb := busy_iff (k := k) (bs_modes (q := q) (mq := mq) h) hq (Or.inl rfl)
  unfold drS rdC
  by_cases e : busyR s q k (nI 1)
  · rw [if_pos e, if_pos (hb.mpr e), if_pos e, tkT_t (hb.mpr e), enT_6]
    exact ⟨bad_sim hst hq hc (Or.inl ⟨rfl, rfl⟩), rfl, er_67.1⟩
  · have e2 := fun z => e (hb.mp z)
    have hv := h.2.1 k hk
    rw [if_neg e, if_neg e2, if_neg e, tkT_f e2, bs_11, hv.1, enT_w (outs_ok hv.2).1 (outs_ok hv.2).2.1]
    exact ⟨well_sim (lock_st hst hq hk (Or.inl rfl)) hq hc, rfl, (outs_ok hv.2).2.2⟩
theorem write_sim {T : sv_T} {s n : Nat → Int32} {cs : Nat → Nat} {q mq k : Nat} {v : Int32} (h : RR T s cs) (hq : q < 3) (hk : k < 16) (hc : cs q = mq + 1) (hvk : vok v) : RR (enT (rvT (bsT T q mq) q k (mq + 1) (outs v)) q mq (rvC (bsT T q mq) q k)) (dwS s (fg1 n 0) q k mq v) cs ∧ rvC (bsT T q mq) q k = (if busyR s q k (nI 2) then -6 else outs (s (8 + k))) ∧ ¬ isEr (rvC (bsT T q mq) q k) := by
  have hst := begin_st (n := n) h hq hc
  have hb := busy_iff (k := k) (bs_modes (q := q) (mq := mq) h) hq (Or.inr rfl)
  unfold dwS rvC rvT
  by_cases e : busyR s q k (nI 2)
  · rw [if_pos e, if_pos (hb.mpr e), if_pos e, if_pos (hb.mpr e), enT_6]
    exact ⟨bad_sim hst hq hc (Or.inl ⟨rfl, rfl⟩), rfl, er_67.1⟩
  · have e2 := fun z => e (hb.mp z)
    have hv := h.2.1 k hk
    rw [if_neg e, if_neg e2, if_neg e, if_neg e2]
    have hst2 := chg_st (k := k) (v := v) (lock_st (k := k) hst hq hk (Or.inr rfl)) hq hk hvk
    rw [show lkT (bsT T q mq) q k (nI 2) 11 0 k = bsT T q mq 11 0 k by rw [lkT_ne (by omega)]] at hst2
    rw [bs_11] at hst2 ⊢
    rw [hv.1] at hst2 ⊢
    rw [enT_w (outs_ok hv.2).1 (outs_ok hv.2).2.1]
    exact ⟨well_sim hst2 hq hc, rfl, (outs_ok hv.2).2.2⟩
/-- one key of shift or move -/
theorem add_st {U : sv_T} {s n : Nat → Int32} {q mq k : Nat} {cs : Nat → Nat} {d b ms : Int32} (h : stOk U s n q mq cs) (hq : q < 3) (hk : k < 16) (hb : (b = nI 1 ∧ ms = -5) ∨ (b = nI 0 ∧ ms = nI 0)) : stOk (avT U q k (mq + 1) d ms) (adS s q k d b) (adN s n q k d b) q mq cs ∧ ((adC s q k d b = nI 0 ∧ inR (avC U q k d ms) (nI 0) (nI 9999) ∧ avC U q k d ms = adS s q k d b (8 + k)) ∨ (adC s q k d b = -6 ∧ avC U q k d ms = -6) ∨ (adC s q k d b = -7 ∧ avC U q k d ms = -7)) := by
  have hbz := busy_iff (k := k) (st_modes h) hq (Or.inr rfl)
  have hv := h.2.2.1 k hk
  have hX : avX U k d ms ↔ ((¬ b = 0 ∧ s (8 + k) = -1) ∨ ¬ inR (adV s k d) (nI 0) (nI 9999)) := by
    unfold avX avP adV
    rw [hv.1]
    by_cases e : s (8 + k) = -1
    · rw [if_pos ((outs_5 hv.2).mpr e), if_pos e]
      rcases hb with ⟨rfl, rfl⟩ | ⟨rfl, rfl⟩
      · exact ⟨fun _ => Or.inl ⟨by decide, e⟩, fun _ => Or.inl rfl⟩
      · exact ⟨fun z => Or.inr (z.resolve_left (by decide)), fun z => Or.inr (z.resolve_left (fun w => w.1 rfl))⟩
    · have hr := hv.2.resolve_left e
      rw [if_neg (fun z => e ((outs_5 hv.2).mp z)), if_neg e, outs_v hr]
      exact ⟨fun z => Or.inr (z.resolve_left (vok_n hr).2.1), fun z => Or.inr (z.resolve_left (fun w => e w.2))⟩
  unfold adC adS adN avT avC
  by_cases e : busyR s q k (nI 2)
  · rw [if_pos e, if_pos e, if_pos e, if_pos (hbz.mpr e), if_pos (hbz.mpr e)]
    exact ⟨h, Or.inr (Or.inl ⟨rfl, rfl⟩)⟩
  · have e2 := fun z => e (hbz.mp z)
    have hl := lock_st (k := k) h hq hk (Or.inr rfl)
    rw [if_neg e, if_neg e, if_neg e, if_neg e2, if_neg e2]
    by_cases hc : (¬ b = 0 ∧ s (8 + k) = -1) ∨ ¬ inR (adV s k d) (nI 0) (nI 9999)
    · rw [if_pos hc, if_pos hc, if_pos hc, if_pos (hX.mpr hc), if_pos (hX.mpr hc)]
      exact ⟨hl, Or.inr (Or.inr ⟨rfl, rfl⟩)⟩
    · have hc2 := fun z => hc (hX.mp z)
      rw [if_neg hc, if_neg hc, if_neg hc, if_neg hc2, if_neg hc2]
      have hin : inR (adV s k d) (nI 0) (nI 9999) := Decidable.of_not_not (fun z => hc (Or.inr z))
      have hA : avP U k ms + d = adV s k d := by
        unfold avP adV
        rw [hv.1]
        by_cases e5 : s (8 + k) = -1
        · rw [if_pos ((outs_5 hv.2).mpr e5), if_pos e5]
          rcases hb with ⟨rfl, rfl⟩ | ⟨rfl, rfl⟩
          · exact absurd (Or.inl ⟨by decide, e5⟩) hc
          · rfl
        · rw [if_neg (fun z => e5 ((outs_5 hv.2).mp z)), if_neg e5, outs_v (hv.2.resolve_left e5)]
      rw [hA]
      have hst2 := chg_st (k := k) (v := adV s k d) hl hq hk (Or.inr hin)
      rw [outs_v hin, show lkT U q k (nI 2) 11 0 k = U 11 0 k by rw [lkT_ne (by omega)]] at hst2
      refine ⟨hst2, Or.inl ⟨rfl, hin, ?_⟩⟩
      unfold chgS
      rw [va_up_self]
theorem ce_neg : ¬ (-6 : Int32) = 0 ∧ ¬ (-7 : Int32) = 0 ∧ ¬ (0 : Int32) ≤ -6 ∧ ¬ (0 : Int32) ≤ -7 ∧ (-6 : Int32) < 0 ∧ (-7 : Int32) < 0 := by decide
theorem pcn_le (x : Int32) : pcn x ≤ 32 := cnt_le _ _
theorem shift_st {U : sv_T} {s n : Nat → Int32} {q mq : Nat} {cs : Nat → Nat} {keys d : Int32} (h : stOk U s n q mq cs) (hq : q < 3) : ∀ (k : Nat), k ≤ 16 → stOk (shT U q (mq + 1) keys d (nI (pcn keys)) k).1 (shL s n q keys d k).1 (shL s n q keys d k).2.1 q mq cs ∧ (((shL s n q keys d k).2.2 = nI 0 ∧ (shT U q (mq + 1) keys d (nI (pcn keys)) k).2 = nI (pcn keys)) ∨ ((shL s n q keys d k).2.2 = -6 ∧ (shT U q (mq + 1) keys d (nI (pcn keys)) k).2 = -6) ∨ ((shL s n q keys d k).2.2 = -7 ∧ (shT U q (mq + 1) keys d (nI (pcn keys)) k).2 = -7))
  | 0, _ => ⟨h, Or.inl ⟨rfl, rfl⟩⟩
  | k + 1, hk => by
    obtain ⟨ih1, ih2⟩ := shift_st (keys := keys) (d := d) h hq k (by omega)
    generalize hT : shT U q (mq + 1) keys d (nI (pcn keys)) k = ta at ih1 ih2
    generalize hL : shL s n q keys d k = la at ih1 ih2
    obtain ⟨T1, a1⟩ := ta
    obtain ⟨s1, n1, e1⟩ := la
    have p32 := pcn_le keys
    rcases ih2 with ⟨g1, g2⟩ | ⟨g1, g2⟩ | ⟨g1, g2⟩
    · simp only at g1 g2
      by_cases hb : bt keys k = true
      · rw [shT_t hT (by rw [g2]; exact nI_pos' (by omega)) hb, shL_t hL g1 hb]
        obtain ⟨r1, r2⟩ := add_st (d := d) (b := nI 1) (ms := -5) ih1 hq (k := k) (by omega) (Or.inl ⟨rfl, rfl⟩)
        refine ⟨r1, ?_⟩
        rcases r2 with ⟨x1, x2, x3⟩ | ⟨x1, x2⟩ | ⟨x1, x2⟩
        · refine Or.inl ⟨x1, ?_⟩
          show (if avC T1 q k d (-5) < 0 then avC T1 q k d (-5) else a1) = _
          rw [if_neg (show ¬ avC T1 q k d (-5) < 0 from x2.1)]
          exact g2
        · refine Or.inr (Or.inl ⟨x1, ?_⟩)
          show (if avC T1 q k d (-5) < 0 then avC T1 q k d (-5) else a1) = _
          rw [x2, if_pos ce_neg.2.2.2.2.1]
        · refine Or.inr (Or.inr ⟨x1, ?_⟩)
          show (if avC T1 q k d (-5) < 0 then avC T1 q k d (-5) else a1) = _
          rw [x2, if_pos ce_neg.2.2.2.2.2]
      · rw [shT_f hT (fun z => hb z.2), shL_f hL (fun z => hb z.2)]
        exact ⟨ih1, Or.inl ⟨g1, g2⟩⟩
    · simp only at g1 g2
      rw [shT_f hT (fun z => ce_neg.2.2.1 (g2 ▸ z.1)), shL_f hL (fun z => ce_neg.1 (g1 ▸ z.1))]
      exact ⟨ih1, Or.inr (Or.inl ⟨g1, g2⟩)⟩
    · simp only at g1 g2
      rw [shT_f hT (fun z => ce_neg.2.2.2.1 (g2 ▸ z.1)), shL_f hL (fun z => ce_neg.2.1 (g1 ▸ z.1))]
      exact ⟨ih1, Or.inr (Or.inr ⟨g1, g2⟩)⟩
theorem nI_n67 (n : Nat) (h : n < 2 ^ 31) : nI n ≠ -6 ∧ nI n ≠ -7 := ⟨fun z => nI_pos h (by rw [z]; decide), fun z => nI_pos h (by rw [z]; decide)⟩
theorem shift_sim {T : sv_T} {s n : Nat → Int32} {cs : Nat → Nat} {q mq : Nat} {keys d : Int32} (h : RR T s cs) (hq : q < 3) (hc : cs q = mq + 1) : RR (enT (shT (bsT T q mq) q (mq + 1) keys d (nI (pcn keys)) 16).1 q mq (shT (bsT T q mq) q (mq + 1) keys d (nI (pcn keys)) 16).2) (shS s (fg1 n 0) q mq keys d) cs ∧ (shT (bsT T q mq) q (mq + 1) keys d (nI (pcn keys)) 16).2 = shC s (fg1 n 0) q keys d ∧ ¬ isEr (shC s (fg1 n 0) q keys d) := by
  obtain ⟨h1, h2⟩ := shift_st (keys := keys) (d := d) (begin_st (n := n) h hq hc) hq 16 (Nat.le_refl _)
  generalize shT (bsT T q mq) q (mq + 1) keys d (nI (pcn keys)) 16 = ta at h1 h2
  generalize hL : shL s (fg1 n 0) q keys d 16 = la at h1 h2
  obtain ⟨T1, a1⟩ := ta
  obtain ⟨s1, n1, e1⟩ := la
  have p32 := pcn_le keys
  rcases h2 with ⟨g1, g2⟩ | ⟨g1, g2⟩ | ⟨g1, g2⟩
  · simp only at g1 g2
    obtain ⟨x1, x2, x3⟩ := sh_0 mq hL g1
    rw [x1, x2]
    show RR (enT T1 q mq a1) _ cs ∧ a1 = _ ∧ _
    rw [g2, enT_w (nI_n67 _ (by omega)).1 (nI_n67 _ (by omega)).2]
    exact ⟨well_sim h1 hq hc, rfl, er_n _ (by omega)⟩
  · simp only at g1 g2
    subst g1
    obtain ⟨x1, x2, x3⟩ := sh_1 mq hL ce_neg.1
    rw [x1, x2]
    show RR (enT T1 q mq a1) _ cs ∧ a1 = _ ∧ _
    rw [g2, enT_6]
    exact ⟨bad_sim h1 hq hc (Or.inl ⟨rfl, rfl⟩), rfl, er_67.1⟩
  · simp only at g1 g2
    subst g1
    obtain ⟨x1, x2, x3⟩ := sh_1 mq hL ce_neg.2.1
    rw [x1, x2]
    show RR (enT T1 q mq a1) _ cs ∧ a1 = _ ∧ _
    rw [g2, enT_7]
    exact ⟨bad_sim h1 hq hc (Or.inr ⟨by decide, rfl⟩), rfl, er_67.2⟩
theorem move_sim {T : sv_T} {s n : Nat → Int32} {cs : Nat → Nat} {q mq a b : Nat} {amt : Int32} (h : RR T s cs) (hq : q < 3) (hc : cs q = mq + 1) (ha : a < 16) (hb : b < 16) : RR (enT (mvT (bsT T q mq) q (mq + 1) a b amt).1 q mq (mvT (bsT T q mq) q (mq + 1) a b amt).2) (mvS s (fg1 n 0) q mq a b amt) cs ∧ (mvT (bsT T q mq) q (mq + 1) a b amt).2 = mvC s (fg1 n 0) q a b amt ∧ ¬ isEr (mvC s (fg1 n 0) q a b amt) := by
  obtain ⟨r1, r2⟩ := add_st (d := -amt) (b := nI 1) (ms := -5) (begin_st (n := n) h hq hc) hq ha (Or.inl ⟨rfl, rfl⟩)
  unfold mvT
  rcases r2 with ⟨x1, x2, x3⟩ | ⟨x1, x2⟩ | ⟨x1, x2⟩
  · obtain ⟨y1, y2⟩ := add_st (d := amt) (b := nI 0) (ms := nI 0) r1 hq hb (Or.inr ⟨rfl, rfl⟩)
    have hP := mv_t (n := fg1 n 0) (b := b) x1
    rw [if_pos (show 0 ≤ avC (bsT T q mq) q a (-amt) (-5) from Int32.not_lt.mp x2.1)]
    rcases y2 with ⟨z1, z2, z3⟩ | ⟨z1, z2⟩ | ⟨z1, z2⟩
    · obtain ⟨w1, w2, w3⟩ := mv_0 mq hP z1
      rw [w1, w2]
      refine ⟨?_, z3, ?_⟩
      · show RR (enT _ q mq (avC _ q b amt (nI 0))) _ cs
        rw [enT_w (vok_n z2).2.2.1 (vok_n z2).2.2.2]
        exact well_sim y1 hq hc
      · rw [← z3]
        exact fun z => z2.1 z.1
    · obtain ⟨w1, w2, w3⟩ := mv_1 mq hP (by rw [z1]; exact ce_neg.1)
      rw [w1, w2, z1]
      refine ⟨?_, z2, er_67.1⟩
      show RR (enT _ q mq (avC _ q b amt (nI 0))) _ cs
      rw [z2, enT_6]
      exact bad_sim y1 hq hc (Or.inl ⟨rfl, rfl⟩)
    · obtain ⟨w1, w2, w3⟩ := mv_1 mq hP (by rw [z1]; exact ce_neg.2.1)
      rw [w1, w2, z1]
      refine ⟨?_, z2, er_67.2⟩
      show RR (enT _ q mq (avC _ q b amt (nI 0))) _ cs
      rw [z2, enT_7]
      exact bad_sim y1 hq hc (Or.inr ⟨by decide, rfl⟩)
  · have hP := mv_f (n := fg1 n 0) (b := b) (show ¬ adC s q a (-amt) (nI 1) = 0 by rw [x1]; exact ce_neg.1)
    obtain ⟨w1, w2, w3⟩ := mv_1 mq hP (by rw [x1]; exact ce_neg.1)
    rw [if_neg (by rw [x2]; exact ce_neg.2.2.1), w1, w2, x1]
    refine ⟨?_, x2, er_67.1⟩
    show RR (enT _ q mq (avC _ q a (-amt) (-5))) _ cs
    rw [x2, enT_6]
    exact bad_sim r1 hq hc (Or.inl ⟨rfl, rfl⟩)
  · have hP := mv_f (n := fg1 n 0) (b := b) (show ¬ adC s q a (-amt) (nI 1) = 0 by rw [x1]; exact ce_neg.2.1)
    obtain ⟨w1, w2, w3⟩ := mv_1 mq hP (by rw [x1]; exact ce_neg.2.1)
    rw [if_neg (by rw [x2]; exact ce_neg.2.2.2.1), w1, w2, x1]
    refine ⟨?_, x2, er_67.2⟩
    show RR (enT _ q mq (avC _ q a (-amt) (-5))) _ cs
    rw [x2, enT_7]
    exact bad_sim r1 hq hc (Or.inr ⟨by decide, rfl⟩)
