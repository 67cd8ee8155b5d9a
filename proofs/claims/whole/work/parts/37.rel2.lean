def own (q a : Nat) : Prop := a = 24 + q ∨ a = 27 + q ∨ a = 30 + q ∨ (33 + 12 * q ≤ a ∧ a < 45 + 12 * q) ∨ (69 + 247 * q ≤ a ∧ a < 316 + 247 * q)
def setOk (T : sv_T) (s : Nat → Int32) : Prop := T 10 0 0 = s 0 ∧ (s 0 = nI 0 ∨ s 0 = nI 1)
def valOk (T : sv_T) (s : Nat → Int32) : Prop := ∀ k, k < 16 → T 11 0 k = outs (s (8 + k)) ∧ vok (s (8 + k))
def totOk (T : sv_T) (s : Nat → Int32) : Prop := ∀ w, w < 7 → T 13 0 w = s (1 + w)
def zrOk (s : Nat → Int32) (q c : Nat) : Prop := ∀ r, c ≤ r → r < 13 → s (rAt q r + 0) = nI 0 ∧ s (rAt q r + 1) = nI 0
def sesB (T : sv_T) (s : Nat → Int32) (q c : Nat) : Prop := c ≤ 13 ∧ T 14 q 0 = nI c ∧ s (24 + q) = nI (if c = 0 then 0 else 1) ∧ s (27 + q) = nI (c - 1) ∧ T 14 q 1 = s (30 + q) ∧ (c = 0 → s (30 + q) = nI 0) ∧ (∀ p, p + 1 < c → T 16 q p = s (33 + 12 * q + p)) ∧ rowsG T q c (rwS s q) ∧ zrOk s q c
/-- the class's State holds what the reference's numbers say -/
def RR (T : sv_T) (s : Nat → Int32) (cs : Nat → Nat) : Prop := setOk T s ∧ valOk T s ∧ totOk T s ∧ ∀ q, q < 3 → sesB T s q (cs q)
theorem ses_frame {T T2 : sv_T} {s s2 : Nat → Int32} {q c : Nat} (h : sesB T s q c) (hq : q < 3) (h0 : T2 14 q 0 = T 14 q 0) (h1 : T2 14 q 1 = T 14 q 1) (h5 : ∀ r, r < c → T2 15 q r = T 15 q r) (h6 : ∀ p, p + 1 < c → T2 16 q p = T 16 q p) (h7 : ∀ r, r < c → T2 17 q r = T 17 q r) (h8 : ∀ n, n < 16 * c → T2 18 q n = T 18 q n) (hs : ∀ a, own q a → s2 a = s a) : sesB T2 s2 q c := by
  obtain ⟨a1, a2, a3, a4, a5, a6, a7, a8, a9⟩ := h
  have o1 : s2 (24 + q) = s (24 + q) := hs _ (Or.inl rfl)
  have o2 : s2 (27 + q) = s (27 + q) := hs _ (Or.inr (Or.inl rfl))
  have o3 : s2 (30 + q) = s (30 + q) := hs _ (Or.inr (Or.inr (Or.inl rfl)))
  have o5 : ∀ r f, r < 13 → f < 19 → s2 (rAt q r + f) = s (rAt q r + f) := fun r f hr hf => hs _ (Or.inr (Or.inr (Or.inr (Or.inr (by unfold rAt; omega)))))
  have oL : ∀ r, r ≤ c → LA T2 q c r = LA T q c r := fun r hr => by
    unfold LA
    split
    · exact h5 r (by omega)
    · exact h1
  refine ⟨a1, by rw [h0]; exact a2, by rw [o1]; exact a3, by rw [o2]; exact a4, by rw [h1, o3]; exact a5, by rw [o3]; exact a6, fun p hp => ?_, fun r hr => ?_, fun r hr hr2 => ?_⟩
  · rw [h6 p hp, hs _ (Or.inr (Or.inr (Or.inr (Or.inl (by omega)))))]
    exact a7 p hp
  · obtain ⟨b1, b2⟩ := a8 r hr
    refine ⟨rowV_congr b1 (h7 r hr) (fun k hk => h8 _ (by omega)) (fun f hf => o5 r f (by omega) hf), ?_⟩
    rw [oL r (by omega), oL (r + 1) (by omega)]
    exact rowL_congr b2 (fun f hf => o5 r f (by omega) hf)
  · rw [o5 r 0 hr2 (by omega), o5 r 1 hr2 (by omega)]
    exact a9 r hr hr2
theorem RR_upd {T T2 : sv_T} {s s2 : Nat → Int32} {cs : Nat → Nat} {q c2 : Nat} (h : RR T s cs) (h1 : setOk T2 s2) (h2 : valOk T2 s2) (h3 : totOk T2 s2) (h4 : sesB T2 s2 q c2) (h5 : ∀ k j n, 14 ≤ k → j ≠ q → T2 k j n = T k j n) (h6 : ∀ q2 a, q2 < 3 → q2 ≠ q → own q2 a → s2 a = s a) : RR T2 s2 (va_up cs q c2) := by
  refine ⟨h1, h2, h3, fun q2 hq2 => ?_⟩
  by_cases e : q2 = q
  · subst e
    rw [va_up_self]
    exact h4
  · rw [va_up_ne _ _ e]
    exact ses_frame (h.2.2.2 q2 hq2) hq2 (h5 _ _ _ (by omega) e) (h5 _ _ _ (by omega) e) (fun r _ => h5 _ _ _ (by omega) e) (fun p _ => h5 _ _ _ (by omega) e) (fun r _ => h5 _ _ _ (by omega) e) (fun n _ => h5 _ _ _ (by omega) e) (fun a ha => h6 q2 a hq2 e ha)
/-- nothing of the sessions changes -/
theorem RR_same {T T2 : sv_T} {s s2 : Nat → Int32} {cs : Nat → Nat} (h : RR T s cs) (h1 : setOk T2 s2) (h2 : valOk T2 s2) (h3 : totOk T2 s2) (h5 : ∀ k j n, 14 ≤ k → T2 k j n = T k j n) (h6 : ∀ a, 24 ≤ a → s2 a = s a) : RR T2 s2 cs :=
  ⟨h1, h2, h3, fun q2 hq2 => ses_frame (h.2.2.2 q2 hq2) hq2 (h5 _ _ _ (by omega)) (h5 _ _ _ (by omega)) (fun r _ => h5 _ _ _ (by omega)) (fun p _ => h5 _ _ _ (by omega)) (fun r _ => h5 _ _ _ (by omega)) (fun n _ => h5 _ _ _ (by omega)) (fun a ha => h6 a (by unfold own at ha; omega))⟩
theorem RR_s {T : sv_T} {s s2 : Nat → Int32} {cs : Nat → Nat} (h : RR T s cs) (hs : ∀ a, a < 810 → s2 a = s a) : RR T s2 cs := by
  obtain ⟨h1, h2, h3, h4⟩ := h
  refine ⟨⟨by rw [hs 0 (by omega)]; exact h1.1, by rw [hs 0 (by omega)]; exact h1.2⟩, fun k hk => by rw [hs (8 + k) (by omega)]; exact h2 k hk, fun w hw => by rw [hs (1 + w) (by omega)]; exact h3 w hw, fun q hq => ?_⟩
  exact ses_frame (h4 q hq) hq rfl rfl (fun _ _ => rfl) (fun _ _ => rfl) (fun _ _ => rfl) (fun _ _ => rfl) (fun a ha => hs a (by unfold own at ha; omega))
theorem RR_inc {T : sv_T} {s : Nat → Int32} {cs : Nat → Nat} {w : Nat} (h : RR T s cs) (hw : w < 7) : RR (inc T w) (va_up s (1 + w) (s (1 + w) + nI 1)) cs := by
  obtain ⟨h1, h2, h3, h4⟩ := id h
  refine RR_same h ?_ ?_ ?_ ?_ ?_
  · unfold setOk
    rw [inc_ne (by omega), va_up_ne _ _ (by omega)]
    exact h1
  · intro k hk
    rw [inc_ne (by omega), va_up_ne _ _ (by omega)]
    exact h2 k hk
  · intro v hv
    unfold inc
    by_cases e : v = w
    · subst e
      rw [tu_self, va_up_self, h3 v hv]
    · rw [tu_n _ _ e, va_up_ne _ _ (by omega)]
      exact h3 v hv
  · intro k j n hk
    rw [inc_ne (by omega)]
  · intro a ha
    rw [va_up_ne _ _ (by omega)]
theorem keep_sim {T : sv_T} {s : Nat → Int32} {cs : Nat → Nat} {b : Prop} [Decidable b] (h : RR T s cs) : RR (tu T 10 0 0 (bI b)) (va_up s 0 (bI b)) cs := by
  obtain ⟨h1, h2, h3, h4⟩ := id h
  refine RR_same h ?_ ?_ ?_ ?_ ?_
  · unfold setOk
    rw [tu_self, va_up_self]
    exact ⟨rfl, nzB⟩
  · intro k hk
    rw [tu_ne _ _ _ (by omega), va_up_ne _ _ (by omega)]
    exact h2 k hk
  · intro v hv
    rw [tu_ne _ _ _ (by omega), va_up_ne _ _ (by omega)]
    exact h3 v hv
  · intro k j n hk
    rw [tu_ne _ _ _ (by omega)]
  · intro a ha
    rw [va_up_ne _ _ (by omega)]
theorem cpy_0 {f g : Nat → Int32} {n j : Nat} (h : j < n) : va_cpy f g 0 0 n j = f j := by
  rw [pk_cpy_in (by omega) (by omega), Nat.zero_add, Nat.sub_zero]
theorem cpX_ne {T S : sv_T} {j c k2 j2 : Nat} (h : k2 < 14 ∨ j2 ≠ j) : cpX T S j c k2 j2 = T k2 j2 := by
  unfold cpX
  rw [tA_ne _ _ (by omega), tA_ne _ _ (by omega), tA_ne _ _ (by omega), tA_ne _ _ (by omega), tu_ne _ _ _ (by omega), tu_ne _ _ _ (by omega)]
theorem cpX_in {T S : sv_T} {j c : Nat} : cpX T S j c 14 j 0 = nI c ∧ cpX T S j c 14 j 1 = S 14 j 1 ∧ (∀ r, r < c → cpX T S j c 15 j r = S 15 j r) ∧ (∀ p, p < 12 → cpX T S j c 16 j p = S 16 j p) ∧ (∀ r, r < c → cpX T S j c 17 j r = S 17 j r) ∧ (∀ n, n < c * 16 → cpX T S j c 18 j n = S 18 j n) := by
  unfold cpX
  refine ⟨?_, ?_, fun r hr => ?_, fun p hp => ?_, fun r hr => ?_, fun n hn => ?_⟩
  · rw [tA_ne _ _ (by omega), tA_ne _ _ (by omega), tA_ne _ _ (by omega), tA_ne _ _ (by omega), tu_n _ _ (by omega), tu_self]
  · rw [tA_ne _ _ (by omega), tA_ne _ _ (by omega), tA_ne _ _ (by omega), tA_ne _ _ (by omega), tu_self]
  · rw [tA_ne _ _ (by omega), tA_ne _ _ (by omega), tA_ne _ _ (by omega), tA_at, cpy_0 hr]
  · rw [tA_ne _ _ (by omega), tA_ne _ _ (by omega), tA_at, cpy_0 hp]
  · rw [tA_ne _ _ (by omega), tA_at, cpy_0 hr]
  · rw [tA_at, cpy_0 hn]
theorem cpN_lo {T S : sv_T} {cs : Nat → Nat} {k2 j2 : Nat} (h : k2 < 14) : ∀ j, cpN T S cs j k2 j2 = cpN T S cs 0 k2 j2
  | 0 => rfl
  | j + 1 => by
    show cpX (cpN T S cs j) S j (cs j) k2 j2 = _
    rw [cpX_ne (Or.inl h), cpN_lo h j]
theorem cpN_in {T S : sv_T} {cs : Nat → Nat} {j2 : Nat} : ∀ j, j2 < j → ∃ U, ∀ k2, cpN T S cs j k2 j2 = if k2 < 14 then cpN T S cs j k2 j2 else cpX U S j2 (cs j2) k2 j2
  | 0, h => absurd h (by omega)
  | j + 1, h => by
    by_cases e : j2 = j
    · subst e
      refine ⟨cpN T S cs j2, fun k2 => ?_⟩
      split
      · rfl
      · rfl
    · obtain ⟨U, hU⟩ := cpN_in (T := T) (S := S) (cs := cs) (j2 := j2) j (by omega)
      refine ⟨U, fun k2 => ?_⟩
      split <;> rename_i h2
      · rfl
      · have := hU k2
        rw [if_neg h2] at this
        rw [← this]
        exact cpX_ne (Or.inr e)
theorem copy_sim {T S : sv_T} {s : Nat → Int32} {cs : Nat → Nat} (h : RR S s cs) : RR (cpS T S cs) s cs := by
  obtain ⟨h1, h2, h3, h4⟩ := h
  have hlo : ∀ k2 j2, k2 < 13 → cpS T S cs k2 j2 = cpN T S cs 0 k2 j2 := fun k2 j2 hk => by
    unfold cpS
    rw [tA_ne _ _ (by omega), cpN_lo (by omega)]
  refine ⟨?_, fun k hk => ?_, fun w hw => ?_, fun q hq => ?_⟩
  · unfold setOk
    rw [hlo 10 0 (by omega)]
    unfold cpN
    rw [tA_ne _ _ (by omega), tu_self]
    exact h1
  · rw [hlo 11 0 (by omega)]
    unfold cpN
    rw [tA_at, cpy_0 hk]
    exact h2 k hk
  · unfold cpS
    rw [tA_at, cpy_0 hw]
    exact h3 w hw
  · obtain ⟨U, hU⟩ := cpN_in (T := T) (S := S) (cs := cs) (j2 := q) 3 hq
    have hcp : ∀ k2, 14 ≤ k2 → cpS T S cs k2 q = cpX U S q (cs q) k2 q := fun k2 hk => by
      unfold cpS
      rw [tA_ne _ _ (by omega), hU k2, if_neg (by omega)]
    obtain ⟨c1, c2, c3, c4, c5, c6⟩ := cpX_in (T := U) (S := S) (j := q) (c := cs q)
    have hs := h4 q hq
    have hc13 := hs.1
    refine ses_frame hs hq ?_ ?_ (fun r hr => ?_) (fun p hp => ?_) (fun r hr => ?_) (fun n hn => ?_) (fun _ _ => rfl)
    · rw [hcp 14 (by omega), c1, hs.2.1]
    · rw [hcp 14 (by omega), c2]
    · rw [hcp 15 (by omega), c3 r hr]
    · rw [hcp 16 (by omega), c4 p (by omega)]
    · rw [hcp 17 (by omega), c5 r hr]
    · rw [hcp 18 (by omega), c6 n (by omega)]
/-! merging rows -/
theorem fg1_0 (s : Nat → Int32) (a : Nat) : fg1 s a (a + 0) = nI 0 := by unfold fg1; rw [va_up_ne _ _ (by omega), va_up_self]
theorem fg1_1 (s : Nat → Int32) (a : Nat) : fg1 s a (a + 1) = nI 0 := by unfold fg1; rw [va_up_self]
theorem fgt_out {q : Nat} : ∀ {c r : Nat} {s : Nat → Int32} {a : Nat}, ¬ (rAt q r ≤ a ∧ a < rAt q (r + c)) → fgt q c r s a = s a
  | 0, _, _, _, _ => rfl
  | c + 1, r, s, a, h => by
    unfold fgt
    rw [fgt_out (by unfold rAt at *; omega), fg1_out (by unfold rAt at *; omega)]
theorem fgt_0 {q : Nat} : ∀ {c r : Nat} {s : Nat → Int32} {r2 : Nat}, r ≤ r2 → r2 < r + c → fgt q c r s (rAt q r2 + 0) = nI 0 ∧ fgt q c r s (rAt q r2 + 1) = nI 0
  | 0, _, _, _, h1, h2 => absurd h2 (by omega)
  | c + 1, r, s, r2, h1, h2 => by
    unfold fgt
    by_cases e : r2 = r
    · subst e
      rw [fgt_out (by unfold rAt; omega), fgt_out (by unfold rAt; omega), fg1_0, fg1_1]
      exact ⟨rfl, rfl⟩
    · exact fgt_0 (by omega) (by omega)
theorem mrg_out {q m : Nat} : ∀ {c r : Nat} {s : Nat → Int32} {a : Nat}, ¬ (rAt q m ≤ a ∧ a < rAt q m + 19) → ¬ (rAt q r ≤ a ∧ a < rAt q (r + c)) → mrg q m c r s a = s a
  | 0, _, _, _, _, _ => rfl
  | c + 1, r, s, a, h, h2 => by
    unfold mrg
    rw [mrg_out h (by unfold rAt at *; omega), fg1_out (by unfold rAt at *; omega), jnF_out (by omega)]
theorem mrg_0 {q m : Nat} : ∀ {c r : Nat} {s : Nat → Int32} {r2 : Nat}, m < r → r ≤ r2 → r2 < r + c → mrg q m c r s (rAt q r2 + 0) = nI 0 ∧ mrg q m c r s (rAt q r2 + 1) = nI 0
  | 0, _, _, _, _, h1, h2 => absurd h2 (by omega)
  | c + 1, r, s, r2, hm, h1, h2 => by
    unfold mrg
    by_cases e : r2 = r
    · subst e
      rw [mrg_out (by unfold rAt; omega) (by unfold rAt; omega), mrg_out (by unfold rAt; omega) (by unfold rAt; omega), fg1_0, fg1_1]
      exact ⟨rfl, rfl⟩
    · exact mrg_0 (by omega) (by omega) (by omega)
theorem mrg_step {q m r : Nat} (s : Nat → Int32) (hm : m ≠ r) {f : Nat} (hf : f < 19) : rwS (fg1 (jnF s s (rAt q m) (rAt q r)) (rAt q r)) q m f = jnF s s (rAt q m) (rAt q r) (rAt q m + f) := fg1_out (by unfold rAt; omega)
theorem mrg_far {q m r r2 : Nat} (s : Nat → Int32) (h1 : r2 ≠ m) (h2 : r2 ≠ r) {f : Nat} (hf : f < 19) : rwS (fg1 (jnF s s (rAt q m) (rAt q r)) (rAt q r)) q r2 f = rwS s q r2 f := by
  show fg1 _ _ (rAt q r2 + f) = s (rAt q r2 + f)
  rw [fg1_out (by unfold rAt; omega), jnF_out (by unfold rAt; omega)]
theorem mrg_L {q m : Nat} {Lm : Int32} {L : Nat → Int32} : ∀ (c r : Nat) (s : Nat → Int32), m < r → rowL (rwS s q m) Lm (L r) → (∀ r2, r ≤ r2 → r2 < r + c → rowL (rwS s q r2) (L r2) (L (r2 + 1))) → rowL (rwS (mrg q m c r s) q m) Lm (L (r + c))
  | 0, r, s, _, h, _ => h
  | c + 1, r, s, hm, h, hr => by
    unfold mrg
    rw [show r + (c + 1) = r + 1 + c by omega]
    refine mrg_L c (r + 1) _ (by omega) ?_ (fun r2 h1 h2 => rowL_congr (hr r2 (by omega) (by omega)) (fun f hf => mrg_far s (by omega) (by omega) hf))
    refine rowL_congr (a := fun f => jnF s s (rAt q m) (rAt q r) (rAt q m + f)) ?_ (fun f hf => mrg_step s (by omega) hf)
    exact jn_rowL (a := rwS s q m) (b := rwS s q r) (jnF_1 s s _ _) (fun k hk => jnF_2 s s _ _ hk) h (hr r (by omega) (by omega))
theorem mrg_V {q m : Nat} : ∀ (c r : Nat) (s : Nat → Int32) (T : sv_T), m < r → rowV T q m (rwS s q m) → (∀ r2, r ≤ r2 → r2 < r + c → rowV T q r2 (rwS s q r2)) → rowV (drR q m c r T) q m (rwS (mrg q m c r s) q m)
  | 0, r, s, T, _, h, _ => h
  | c + 1, r, s, T, hm, h, hr => by
    unfold mrg drR
    refine mrg_V c (r + 1) _ _ (by omega) ?_ (fun r2 h1 h2 => rowV_congr (hr r2 (by omega) (by omega)) (drK_17 (by omega) 16) (fun k hk => drK_18 16 (by omega)) (fun f hf => mrg_far s (by omega) (by omega) hf))
    refine rowV_congr (a := fun f => jnF s s (rAt q m) (rAt q r) (rAt q m + f)) ?_ rfl (fun _ _ => rfl) (fun f hf => mrg_step s (by omega) hf)
    exact jn_rowV (a := rwS s q m) (b := rwS s q r) (by omega) (jnF_0 s s _ _) (fun k hk => jnF_3 s s _ _ hk) h (hr r (by omega) (by omega))
theorem drR_17 {j m r2 : Nat} (h : r2 ≠ m) : ∀ (c r : Nat) (T : sv_T), drR j m c r T 17 j r2 = T 17 j r2
  | 0, _, _ => rfl
  | c + 1, r, T => by
    unfold drR
    rw [drR_17 h c, drK_17 h 16]
theorem drR_18 {j m n : Nat} (h : n < m * 16 ∨ m * 16 + 16 ≤ n) : ∀ (c r : Nat) (T : sv_T), drR j m c r T 18 j n = T 18 j n
  | 0, _, _ => rfl
  | c + 1, r, T => by
    unfold drR
    rw [drR_18 h c, drK_18 16 h]
theorem drK_z {T : sv_T} {j m r : Nat} (h : T 17 j r = nI 0) : ∀ k, drK T j m r k = T
  | 0 => rfl
  | k + 1 => by rw [drK_f (by rw [h, bt_0]; decide), drK_z h k]
theorem drR_z {j m : Nat} : ∀ (c r : Nat) (T : sv_T), (∀ r2, r ≤ r2 → r2 < r + c → T 17 j r2 = nI 0) → drR j m c r T = T
  | 0, _, _, _ => rfl
  | c + 1, r, T, h => by
    unfold drR
    rw [drK_z (h r (by omega) (by omega)), drR_z c (r + 1) T (fun r2 h1 h2 => h r2 (by omega) (by omega))]
theorem fcT_17 {j r2 : Nat} : ∀ (c r : Nat) (T : sv_T), fcT j c r T 17 j r2 = if r ≤ r2 ∧ r2 < r + c then nI 0 else T 17 j r2
  | 0, r, T => by rw [if_neg (by omega)]; rfl
  | c + 1, r, T => by
    unfold fcT
    rw [fcT_17 c (r + 1)]
    by_cases e : r2 = r
    · subst e
      rw [if_neg (by omega), tu_self, if_pos (by omega)]
    · rw [tu_n _ _ e]
      by_cases h : r + 1 ≤ r2 ∧ r2 < r + 1 + c
      · rw [if_pos h, if_pos (by omega)]
      · rw [if_neg h, if_neg (by omega)]
theorem gbM_in (s : Nat → Int32) (q c m : Nat) : ∀ (k : Nat), k ≤ 16 → ∀ i, i < k → md (gbM s q c m k) i = mbR s q i c m
  | 0, _, i, hi => absurd hi (by omega)
  | k + 1, hk, i, hi => by
    unfold gbM
    rw [md_sm _ _ (by omega) (by omega) (mbR_isMd s q c m (by omega))]
    by_cases e : i = k
    · rw [if_pos e, e]
    · rw [if_neg e]
      exact gbM_in s q c m k (by omega) i (by omega)
