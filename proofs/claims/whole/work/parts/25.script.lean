/-! what can stand where in a script: the class's places, and the reference's reading -/
abbrev ceP (q : Int32) : Prop := q = nI 12 ∨ q = nI 4 ∨ q = nI 9 ∨ q = nI 10 ∨ q = nI 11
def paKind (c : Int32) : Int32 := if c = nI 98 ∨ c = nI 99 ∨ c = nI 114 then nI 12 else if c = nI 115 ∨ c = nI 117 ∨ c = nI 100 then nI 2 else if c = nI 119 then nI 5 else if c = nI 101 ∨ c = nI 103 then nI 3 else -1
def paKD (c a b : Int32) : Int32 := if c = nI 49 then a else if inR c (nI 48) (nI 57) then b else -1
def paVal (q c : Int32) : Int32 := if inR c (nI 48) (nI 57) then (if q = nI 8 then (if c = nI 48 then nI 12 else nI 9) else if q = nI 9 then nI 10 else if q = nI 10 then nI 11 else if q = nI 11 then nI 12 else -1) else -1
def paR (q c : Int32) : Int32 := if c = nI 59 then (if ceP q then nI 0 else -1) else if q = nI 0 then (if inR c (nI 48) (nI 50) then nI 1 else -1) else if q = nI 1 then paKind c else if q = nI 2 then (if inR c (nI 97) (nI 104) then nI 12 else -1) else if q = nI 3 then paKD c (nI 4) (nI 12) else if q = nI 4 then (if inR c (nI 48) (nI 53) then nI 12 else -1) else if q = nI 5 then paKD c (nI 6) (nI 7) else if q = nI 6 then (if inR c (nI 48) (nI 53) then nI 7 else if c = nI 61 then nI 8 else -1) else if q = nI 7 then (if c = nI 61 then nI 8 else -1) else paVal q c
def ffR (x : Nat → Int32) : Nat → Nat → Int32 → Int32
  | 0, p, q => if ceP q then -5 else nI p
  | c + 1, p, q => if paR q (x p) = -1 then nI p else ffR x c (p + 1) (paR q (x p))
theorem ff_step {x : Nat → Int32} {n p : Nat} {q q2 : Int32} (h : p < n) (he : paR q (x p) = q2) (h2 : q2 ≠ -1) : ffR x (n - p) p q = ffR x (n - (p + 1)) (p + 1) q2 := by
  rw [show n - p = (n - (p + 1)) + 1 by omega]
  show (if _ then _ else _) = _
  rw [he, if_neg h2]
theorem ff_bad {x : Nat → Int32} {n p : Nat} {q : Int32} (h : p < n) (he : paR q (x p) = -1) : ffR x (n - p) p q = nI p := by
  rw [show n - p = (n - (p + 1)) + 1 by omega]
  show (if _ then _ else _) = _
  rw [if_pos he]
theorem ff_stop {x : Nat → Int32} {n p : Nat} {q : Int32} (h : p ≤ n) (he : p < n → paR q (x p) = -1) (hq : ¬ ceP q) : ffR x (n - p) p q = nI p := by
  rcases Nat.lt_or_ge p n with z | z
  · exact ff_bad z (he z)
  · rw [show n - p = 0 by omega]
    show (if _ then _ else _) = _
    rw [if_neg hq]
theorem ff_end {x : Nat → Int32} {n : Nat} {q : Int32} (hq : ceP q) : ffR x (n - n) n q = -5 := by
  rw [Nat.sub_self]
  show (if _ then _ else _) = _
  rw [if_pos hq]
theorem inR_ne {c a b d : Int32} (h : inR c a b) (hd : ¬ inR d a b) : c ≠ d := fun e => hd (e ▸ h)
theorem pa_ne {q c : Int32} (h : c ≠ nI 59) : paR q c = if q = nI 0 then (if inR c (nI 48) (nI 50) then nI 1 else -1) else if q = nI 1 then paKind c else if q = nI 2 then (if inR c (nI 97) (nI 104) then nI 12 else -1) else if q = nI 3 then paKD c (nI 4) (nI 12) else if q = nI 4 then (if inR c (nI 48) (nI 53) then nI 12 else -1) else if q = nI 5 then paKD c (nI 6) (nI 7) else if q = nI 6 then (if inR c (nI 48) (nI 53) then nI 7 else if c = nI 61 then nI 8 else -1) else if q = nI 7 then (if c = nI 61 then nI 8 else -1) else paVal q c := if_neg h
theorem pa_59 {q : Int32} (h : ceP q) : paR q (nI 59) = nI 0 := by unfold paR; rw [if_pos rfl, if_pos h]
theorem pa_59n {q : Int32} (h : ¬ ceP q) : paR q (nI 59) = -1 := by unfold paR; rw [if_pos rfl, if_neg h]
theorem pa_0 {c : Int32} (h : inR c (nI 48) (nI 50)) : paR (nI 0) c = nI 1 := by rw [pa_ne (inR_ne h (by decide)), if_pos rfl, if_pos h]
theorem pa_0n {c : Int32} (h : ¬ inR c (nI 48) (nI 50)) : paR (nI 0) c = -1 := by
  by_cases e : c = nI 59
  · rw [e]; decide +kernel
  · rw [pa_ne e, if_pos rfl, if_neg h]
theorem pa_1 : (∀ c, c ∈ [nI 98, nI 99, nI 114] → paR (nI 1) c = nI 12) ∧ (∀ c, c ∈ [nI 115, nI 117, nI 100] → paR (nI 1) c = nI 2) ∧ paR (nI 1) (nI 119) = nI 5 ∧ (∀ c, c ∈ [nI 101, nI 103] → paR (nI 1) c = nI 3) := by decide +kernel
theorem pa_1n {c : Int32} (h : c ≠ nI 98 ∧ c ≠ nI 99 ∧ c ≠ nI 114 ∧ c ≠ nI 115 ∧ c ≠ nI 117 ∧ c ≠ nI 100 ∧ c ≠ nI 101 ∧ c ≠ nI 103 ∧ c ≠ nI 119) : paR (nI 1) c = -1 := by
  by_cases e : c = nI 59
  · rw [e]; decide +kernel
  · obtain ⟨a1, a2, a3, a4, a5, a6, a7, a8, a9⟩ := h
    rw [pa_ne e, if_neg (by decide), if_pos rfl]
    unfold paKind
    rw [if_neg (by simp only [a1, a2, a3, or_self, not_false_eq_true]), if_neg (by simp only [a4, a5, a6, or_self, not_false_eq_true]), if_neg a9, if_neg (by simp only [a7, a8, or_self, not_false_eq_true])]
theorem pa_2 {c : Int32} (h : inR c (nI 97) (nI 104)) : paR (nI 2) c = nI 12 := by rw [pa_ne (inR_ne h (by decide)), if_neg (by decide), if_neg (by decide), if_pos rfl, if_pos h]
theorem pa_2n {c : Int32} (h : ¬ inR c (nI 97) (nI 104)) : paR (nI 2) c = -1 := by
  by_cases e : c = nI 59
  · rw [e]; decide +kernel
  · rw [pa_ne e, if_neg (by decide), if_neg (by decide), if_pos rfl, if_neg h]
theorem pa_dig : (∀ d, d < 10 → paR (nI 3) (nI (48 + d)) = if d = 1 then nI 4 else nI 12) ∧ (∀ d, d < 10 → paR (nI 4) (nI (48 + d)) = if d ≤ 5 then nI 12 else -1) ∧ (∀ d, d < 10 → paR (nI 5) (nI (48 + d)) = if d = 1 then nI 6 else nI 7) ∧ (∀ d, d < 10 → paR (nI 6) (nI (48 + d)) = if d ≤ 5 then nI 7 else -1) ∧ (∀ d, d < 10 → paR (nI 7) (nI (48 + d)) = -1) ∧ (∀ d, d < 10 → paR (nI 8) (nI (48 + d)) = if d = 0 then nI 12 else nI 9) ∧ (∀ d, d < 10 → paR (nI 9) (nI (48 + d)) = nI 10 ∧ paR (nI 10) (nI (48 + d)) = nI 11 ∧ paR (nI 11) (nI (48 + d)) = nI 12 ∧ paR (nI 12) (nI (48 + d)) = -1) := by decide +kernel
/-- no digit, and not ';' : nothing fits, but '=' behind a write's key -/
theorem pa_nd {c q : Int32} (h : ¬ inR c (nI 48) (nI 57)) (hc : c ≠ nI 59) (hq : q ∈ [nI 3, nI 4, nI 5, nI 8, nI 9, nI 10, nI 11, nI 12] ∨ (q ∈ [nI 6, nI 7] ∧ c ≠ nI 61)) : paR q c = -1 := by
  have h53 : ¬ inR c (nI 48) (nI 53) := fun z => h ⟨z.1, fun w => z.2 (Int32.lt_trans (by decide) w)⟩
  have h49 : c ≠ nI 49 := fun z => h (by rw [z]; decide)
  have e1 : ∀ a b, paKD c a b = -1 := fun a b => by unfold paKD; rw [if_neg h49, if_neg h]
  have e2 : paVal q c = -1 := by unfold paVal; rw [if_neg h]
  rw [pa_ne hc]
  rcases hq with hq | ⟨hq, h61⟩
  · simp only [List.mem_cons, List.not_mem_nil, or_false] at hq
    rcases hq with rfl | rfl | rfl | rfl | rfl | rfl | rfl | rfl
    · exact ((if_neg (by decide)).trans ((if_neg (by decide)).trans ((if_neg (by decide)).trans ((if_pos rfl).trans (e1 _ _)))))
    · exact ((if_neg (by decide)).trans ((if_neg (by decide)).trans ((if_neg (by decide)).trans ((if_neg (by decide)).trans ((if_pos rfl).trans (if_neg h53))))))
    · exact ((if_neg (by decide)).trans ((if_neg (by decide)).trans ((if_neg (by decide)).trans ((if_neg (by decide)).trans ((if_neg (by decide)).trans ((if_pos rfl).trans (e1 _ _)))))))
    · exact ((if_neg (by decide)).trans ((if_neg (by decide)).trans ((if_neg (by decide)).trans ((if_neg (by decide)).trans ((if_neg (by decide)).trans ((if_neg (by decide)).trans ((if_neg (by decide)).trans ((if_neg (by decide)).trans e2))))))))
    · exact ((if_neg (by decide)).trans ((if_neg (by decide)).trans ((if_neg (by decide)).trans ((if_neg (by decide)).trans ((if_neg (by decide)).trans ((if_neg (by decide)).trans ((if_neg (by decide)).trans ((if_neg (by decide)).trans e2))))))))
    · exact ((if_neg (by decide)).trans ((if_neg (by decide)).trans ((if_neg (by decide)).trans ((if_neg (by decide)).trans ((if_neg (by decide)).trans ((if_neg (by decide)).trans ((if_neg (by decide)).trans ((if_neg (by decide)).trans e2))))))))
    · exact ((if_neg (by decide)).trans ((if_neg (by decide)).trans ((if_neg (by decide)).trans ((if_neg (by decide)).trans ((if_neg (by decide)).trans ((if_neg (by decide)).trans ((if_neg (by decide)).trans ((if_neg (by decide)).trans e2))))))))
    · exact ((if_neg (by decide)).trans ((if_neg (by decide)).trans ((if_neg (by decide)).trans ((if_neg (by decide)).trans ((if_neg (by decide)).trans ((if_neg (by decide)).trans ((if_neg (by decide)).trans ((if_neg (by decide)).trans e2))))))))
  · simp only [List.mem_cons, List.not_mem_nil, or_false] at hq
    rcases hq with rfl | rfl
    · exact ((if_neg (by decide)).trans ((if_neg (by decide)).trans ((if_neg (by decide)).trans ((if_neg (by decide)).trans ((if_neg (by decide)).trans ((if_neg (by decide)).trans ((if_pos rfl).trans ((if_neg h53).trans (if_neg h61)))))))))
    · exact ((if_neg (by decide)).trans ((if_neg (by decide)).trans ((if_neg (by decide)).trans ((if_neg (by decide)).trans ((if_neg (by decide)).trans ((if_neg (by decide)).trans ((if_neg (by decide)).trans ((if_pos rfl).trans (if_neg h61)))))))))
theorem pa_nd59 {c q : Int32} (h : ¬ inR c (nI 48) (nI 57)) (hq : q ∈ [nI 3, nI 5, nI 8] ∨ (q ∈ [nI 6, nI 7] ∧ c ≠ nI 61)) : paR q c = -1 := by
  by_cases e : c = nI 59
  · subst e
    rcases hq with hq | ⟨hq, -⟩
    · simp only [List.mem_cons, List.not_mem_nil, or_false] at hq
      rcases hq with rfl | rfl | rfl <;> decide +kernel
    · simp only [List.mem_cons, List.not_mem_nil, or_false] at hq
      rcases hq with rfl | rfl <;> decide +kernel
  · refine pa_nd h e ?_
    rcases hq with hq | hq
    · left
      simp only [List.mem_cons, List.not_mem_nil, or_false] at hq ⊢
      rcases hq with rfl | rfl | rfl <;> simp
    · exact Or.inr hq
theorem pa_61 : paR (nI 6) (nI 61) = nI 8 ∧ paR (nI 7) (nI 61) = nI 8 := by decide +kernel
/-- a key of at most 15 -/
theorem key_ff {x : Nat → Int32} {n p p2 v : Nat} {q0 q1 q2 : Int32} (hd : dgt x n p) (hE : rnE x n 15 p = (p2, v)) (hq : (q0 = nI 3 ∧ q1 = nI 4 ∧ q2 = nI 12) ∨ (q0 = nI 5 ∧ q1 = nI 6 ∧ q2 = nI 7)) :
    p < p2 ∧ p2 ≤ n ∧ v ≤ 15 ∧ ∃ q, ffR x (n - p) p q0 = ffR x (n - p2) p2 q ∧ (q = q2 ∨ (q = q1 ∧ ¬ (dgt x n p2 ∧ dg (x p2) ≤ 5))) := by
  obtain ⟨a1, a2, a3⟩ := rnE_le (most := 15) hd (by omega)
  rw [hE] at a1 a2 a3
  obtain ⟨hc, hd9⟩ := dg_of hd.2
  have s0 : paR q0 (x p) = if dg (x p) = 1 then q1 else q2 := by
    rw [hc]
    have e := dg_of hd.2
    rw [← hc]
    rcases hq with ⟨rfl, rfl, rfl⟩ | ⟨rfl, rfl, rfl⟩
    · rw [hc, ← hc, hc]; exact (pa_dig.1 _ (by omega)).trans (by rw [← hc])
    · rw [hc, ← hc, hc]; exact (pa_dig.2.2.1 _ (by omega)).trans (by rw [← hc])
  have n1 : q1 ≠ -1 ∧ q2 ≠ -1 := by rcases hq with ⟨-, rfl, rfl⟩ | ⟨-, rfl, rfl⟩ <;> decide
  refine ⟨a1, a2, a3, ?_⟩
  unfold rnE at hE
  by_cases h1 : dg (x p) = 1
  · rw [if_pos h1] at s0
    rw [ff_step hd.1 s0 n1.1]
    by_cases h2 : dgt x n (p + 1) ∧ dg (x (p + 1)) ≤ 5
    · obtain ⟨h3, h4⟩ := h2
      rw [show n - (p + 1) = (n - (p + 2)) + 1 by have := h3.1; omega] at hE
      rw [h1] at hE
      have e2 : rnL x n 15 ((n - (p + 2)) + 1) (p + 1) 1 = (p + 2, 10 + dg (x (p + 1))) := by
        show (if _ then _ else _) = _
        rw [if_pos ⟨by omega, h3, by omega⟩]
        cases hcc : n - (p + 2) with
        | zero => rfl
        | succ c =>
          show (if _ then _ else _) = _
          rw [if_neg (fun z => by have := z.2.2; omega)]
      rw [e2] at hE
      cases hE
      have s1 : paR q1 (x (p + 1)) = q2 := by
        rw [(dg_of h3.2).1]
        rcases hq with ⟨-, rfl, rfl⟩ | ⟨-, rfl, rfl⟩
        · exact (pa_dig.2.1 _ (by omega)).trans (if_pos h4)
        · exact (pa_dig.2.2.2.1 _ (by omega)).trans (if_pos h4)
      exact ⟨q2, ff_step h3.1 s1 n1.2, Or.inl rfl⟩
    · have e2 : rnL x n 15 (n - (p + 1)) (p + 1) 1 = (p + 1, 1) := by
        cases hcc : n - (p + 1) with
        | zero => rfl
        | succ c =>
          show (if _ then _ else _) = _
          rw [if_neg (fun z => h2 ⟨z.2.1, by have := z.2.2; omega⟩)]
      rw [h1, e2] at hE
      cases hE
      exact ⟨q1, rfl, Or.inr ⟨rfl, h2⟩⟩
  · rw [if_neg h1] at s0
    have e2 : rnL x n 15 (n - (p + 1)) (p + 1) (dg (x p)) = (p + 1, dg (x p)) := by
      cases hcc : n - (p + 1) with
      | zero => rfl
      | succ c =>
        show (if _ then _ else _) = _
        rw [if_neg (fun z => by have := z.2.2; omega)]
    rw [e2] at hE
    cases hE
    exact ⟨q2, ff_step hd.1 s0 n1.2, Or.inl rfl⟩
theorem val_L {x : Nat → Int32} {n : Nat} : ∀ {c p v j p2 v2 : Nat}, p + c = n → 1 ≤ j → j ≤ 4 → 10 ^ (j - 1) ≤ v → v < 10 ^ j → rnL x n 9999 c p v = (p2, v2) → p2 ≤ n ∧ v2 ≤ 9999 ∧ ∃ j2, 1 ≤ j2 ∧ j2 ≤ 4 ∧ ffR x (n - p) p (nI (8 + j)) = ffR x (n - p2) p2 (nI (8 + j2)) ∧ (j2 = 4 ∨ ¬ dgt x n p2)
  | 0, p, v, j, p2, v2, h, h1, h4, hlo, hhi, hE => by
    cases hE
    have : v ≤ 9999 := by
      have : 10 ^ j ≤ 10 ^ 4 := Nat.pow_le_pow_right (by omega) h4
      omega
    exact ⟨by omega, this, j, h1, h4, rfl, Or.inr (fun z => by have := z.1; omega)⟩
  | c + 1, p, v, j, p2, v2, h, h1, h4, hlo, hhi, hE => by
    have hv : v ≤ 9999 := by
      have : 10 ^ j ≤ 10 ^ 4 := Nat.pow_le_pow_right (by omega) h4
      omega
    by_cases hd : dgt x n p
    · obtain ⟨hc, h9⟩ := dg_of hd.2
      by_cases hj : j = 4
      · subst hj
        have e : rnL x n 9999 (c + 1) p v = (p, v) := if_neg (fun z => by have := z.2.2; simp at hlo; omega)
        rw [e] at hE
        cases hE
        exact ⟨by omega, hv, 4, by omega, by omega, rfl, Or.inl rfl⟩
      · have h3 : 10 ^ j ≤ 10 ^ 3 := Nat.pow_le_pow_right (by omega) (by omega)
        have hp0 : 1 ≤ 10 ^ (j - 1) := Nat.one_le_pow _ _ (by omega)
        have e : rnL x n 9999 (c + 1) p v = rnL x n 9999 c (p + 1) (10 * v + dg (x p)) := if_pos ⟨by omega, hd, by omega⟩
        rw [e] at hE
        have e10 : 10 ^ (j + 1 - 1) = 10 * 10 ^ (j - 1) := by
          rw [show j + 1 - 1 = (j - 1) + 1 by omega, Nat.pow_succ]
          omega
        have e11 : 10 ^ (j + 1) = 10 * 10 ^ j := by
          rw [Nat.pow_succ]
          omega
        obtain ⟨b1, b2, j2, b3, b4, b5, b6⟩ := val_L (c := c) (p := p + 1) (j := j + 1) (by omega) (by omega) (by omega) (by rw [e10]; omega) (by rw [e11]; omega) hE
        refine ⟨b1, b2, j2, b3, b4, ?_, b6⟩
        rw [← b5]
        refine ff_step hd.1 ?_ ?_
        · rw [hc]
          obtain ⟨g1, g2, g3, g4⟩ := pa_dig.2.2.2.2.2.2 (dg (x p)) (by omega)
          rcases (show j = 1 ∨ j = 2 ∨ j = 3 by omega) with rfl | rfl | rfl
          · exact g1
          · exact g2
          · exact g3
        · exact fun z => nI_pos (n := 8 + (j + 1)) (by omega) (by rw [z]; decide)
    · have e : rnL x n 9999 (c + 1) p v = (p, v) := if_neg (fun z => hd z.2.1)
      rw [e] at hE
      cases hE
      exact ⟨by omega, hv, j, h1, h4, rfl, Or.inr hd⟩
theorem val_ff {x : Nat → Int32} {n p p2 v : Nat} (hd : dgt x n p) (hE : rnE x n 9999 p = (p2, v)) : p < p2 ∧ p2 ≤ n ∧ v ≤ 9999 ∧ ∃ j, 1 ≤ j ∧ j ≤ 4 ∧ ffR x (n - p) p (nI 8) = ffR x (n - p2) p2 (nI (8 + j)) ∧ (j = 4 ∨ ¬ dgt x n p2) := by
  obtain ⟨a1, a2, a3⟩ := rnE_le (most := 9999) hd (by omega)
  rw [hE] at a1 a2 a3
  obtain ⟨hc, h9⟩ := dg_of hd.2
  refine ⟨a1, a2, a3, ?_⟩
  unfold rnE at hE
  have s := pa_dig.2.2.2.2.2.1 (dg (x p)) (by omega)
  rw [← hc] at s
  by_cases h0 : dg (x p) = 0
  · rw [if_pos h0] at s
    have e2 : rnL x n 9999 (n - (p + 1)) (p + 1) 0 = (p + 1, 0) := by
      cases hcc : n - (p + 1) with
      | zero => rfl
      | succ c =>
        show (if _ then _ else _) = _
        rw [if_neg (fun z => by have := z.1; omega)]
    rw [h0, e2] at hE
    cases hE
    exact ⟨4, by omega, by omega, ff_step hd.1 s (by decide), Or.inl rfl⟩
  · rw [if_neg h0] at s
    obtain ⟨-, -, j, b3, b4, b5, b6⟩ := val_L (c := n - (p + 1)) (p := p + 1) (j := 1) (by have := hd.1; omega) (by omega) (by omega) (by simp; omega) (by simp; omega) hE
    exact ⟨j, b3, b4, (ff_step hd.1 s (by decide)).trans b5, b6⟩
/-- an order stands at p, up to p2; the reference's ints say which -/
def okO (x : Nat → Int32) (n p p2 : Nat) (f : Nat → Int32) : Prop := nx x n p (nI 48) (nI 50) ∧ p + 1 < n ∧ f 9 = x p - nI 48 ∧ f 10 = x (p + 1) ∧
  ((x (p + 1) ∈ [nI 98, nI 99, nI 114] ∧ p2 = p + 2)
  ∨ (x (p + 1) ∈ [nI 115, nI 117, nI 100] ∧ nx x n (p + 2) (nI 97) (nI 104) ∧ f 11 = x (p + 2) - nI 97 ∧ p2 = p + 3)
  ∨ (x (p + 1) ∈ [nI 101, nI 103] ∧ dgt x n (p + 2) ∧ ∃ v, rnE x n 15 (p + 2) = (p2, v) ∧ f 11 = nI v)
  ∨ (x (p + 1) = nI 119 ∧ dgt x n (p + 2) ∧ ∃ p3 v3 v, rnE x n 15 (p + 2) = (p3, v3) ∧ nx x n p3 (nI 61) (nI 61) ∧ dgt x n (p3 + 1) ∧ rnE x n 9999 (p3 + 1) = (p2, v) ∧ f 11 = nI v3 ∧ f 12 = nI v))
theorem inR_11 {c d : Int32} (h : inR c d d) : c = d := Int32.le_antisymm (Int32.not_lt.mp h.2) (Int32.not_lt.mp h.1)
theorem inR_rfl (d : Int32) : inR d d d := ⟨Int32.lt_irrefl, Int32.lt_irrefl⟩
/-- behind an order: it may end, or ';' stands there, else nothing fits -/
def ffEnd (x : Nat → Int32) (n p2 : Nat) (q : Int32) : Prop := ceP q ∧ (p2 < n → x p2 ≠ nI 59 → paR q (x p2) = -1)
theorem end_12 (x : Nat → Int32) (n p2 : Nat) : ffEnd x n p2 (nI 12) := by
  refine ⟨by decide, fun h h2 => ?_⟩
  by_cases hd : inR (x p2) (nI 48) (nI 57)
  · rw [(dg_of hd).1]
    exact (pa_dig.2.2.2.2.2.2 _ (by have := (dg_of hd).2; omega)).2.2.2
  · exact pa_nd hd h2 (Or.inl (by simp))
theorem okO_ff {x : Nat → Int32} {n p p2 : Nat} {f : Nat → Int32} (h : okO x n p p2 f) : p + 2 ≤ p2 ∧ p2 ≤ n ∧ ∃ q, ffEnd x n p2 q ∧ ffR x (n - p) p (nI 0) = ffR x (n - p2) p2 q := by
  obtain ⟨h1, h2, -, -, h⟩ := h
  have e0 := ff_step (x := x) (n := n) h1.1 (pa_0 h1.2) (by decide)
  rw [e0]
  rcases h with ⟨hL, rfl⟩ | ⟨hL, h3, -, rfl⟩ | ⟨hL, h3, v, hE, -⟩ | ⟨hL, h3, p3, v3, v, hE, h4, h5, hE2, -, -⟩
  · exact ⟨by omega, by omega, nI 12, end_12 _ _ _, ff_step h2 (pa_1.1 _ hL) (by decide)⟩
  · refine ⟨by omega, by have := h3.1; omega, nI 12, end_12 _ _ _, ?_⟩
    rw [ff_step h2 (pa_1.2.1 _ hL) (by decide)]
    exact ff_step h3.1 (pa_2 h3.2) (by decide)
  · obtain ⟨a1, a2, a3, q, a4, a5⟩ := key_ff (q0 := nI 3) (q1 := nI 4) (q2 := nI 12) h3 hE (Or.inl ⟨rfl, rfl, rfl⟩)
    refine ⟨by omega, a2, q, ?_, ?_⟩
    · rcases a5 with rfl | ⟨rfl, a5⟩
      · exact end_12 _ _ _
      · refine ⟨by decide, fun g g2 => ?_⟩
        by_cases hd : inR (x p2) (nI 48) (nI 57)
        · rw [(dg_of hd).1]
          exact (pa_dig.2.1 _ (by have := (dg_of hd).2; omega)).trans (if_neg (fun z => a5 ⟨⟨g, hd⟩, z⟩))
        · exact pa_nd hd g2 (Or.inl (by simp))
    · rw [ff_step h2 (pa_1.2.2.2 _ hL) (by decide)]
      exact a4
  · obtain ⟨a1, a2, a3, q, a4, a5⟩ := key_ff (q0 := nI 5) (q1 := nI 6) (q2 := nI 7) h3 hE (Or.inr ⟨rfl, rfl, rfl⟩)
    obtain ⟨b1, b2, b3, j, b4, b5, b6, b7⟩ := val_ff h5 hE2
    refine ⟨by omega, b2, nI (8 + j), ?_, ?_⟩
    · rcases (show j = 1 ∨ j = 2 ∨ j = 3 ∨ j = 4 by omega) with rfl | rfl | rfl | rfl
      · exact ⟨by decide, fun g g2 => pa_nd (fun z => (b7.resolve_left (by omega)) ⟨g, z⟩) g2 (Or.inl (by simp))⟩
      · exact ⟨by decide, fun g g2 => pa_nd (fun z => (b7.resolve_left (by omega)) ⟨g, z⟩) g2 (Or.inl (by simp))⟩
      · exact ⟨by decide, fun g g2 => pa_nd (fun z => (b7.resolve_left (by omega)) ⟨g, z⟩) g2 (Or.inl (by simp))⟩
      · exact end_12 _ _ _
    · rw [ff_step h2 (q2 := nI 5) (by rw [hL]; exact pa_1.2.2.1) (by decide), a4]
      have e61 := inR_11 h4.2
      rw [← b6]
      refine ff_step h4.1 ?_ (by decide)
      rw [e61]
      rcases a5 with rfl | ⟨rfl, -⟩
      · exact pa_61.2
      · exact pa_61.1
/-- where it goes wrong -/
theorem bad_0 {x : Nat → Int32} {n p : Nat} (hp : p ≤ n) (h : ¬ nx x n p (nI 48) (nI 50)) : ffR x (n - p) p (nI 0) = nI p := ff_stop hp (fun z => pa_0n (fun w => h ⟨z, w⟩)) (by decide)
theorem bad_1 {x : Nat → Int32} {n p : Nat} (h1 : nx x n p (nI 48) (nI 50)) (h : p + 1 < n → x (p + 1) ≠ nI 98 ∧ x (p + 1) ≠ nI 99 ∧ x (p + 1) ≠ nI 114 ∧ x (p + 1) ≠ nI 115 ∧ x (p + 1) ≠ nI 117 ∧ x (p + 1) ≠ nI 100 ∧ x (p + 1) ≠ nI 101 ∧ x (p + 1) ≠ nI 103 ∧ x (p + 1) ≠ nI 119) : ffR x (n - p) p (nI 0) = nI (p + 1) := by
  rw [ff_step h1.1 (pa_0 h1.2) (by decide)]
  exact ff_stop (by have := h1.1; omega) (fun z => pa_1n (h z)) (by decide)
theorem bad_2 {x : Nat → Int32} {n p : Nat} (h1 : nx x n p (nI 48) (nI 50)) (h2 : p + 1 < n) (hL : x (p + 1) ∈ [nI 115, nI 117, nI 100]) (h3 : ¬ nx x n (p + 2) (nI 97) (nI 104)) : ffR x (n - p) p (nI 0) = nI (p + 2) := by
  rw [ff_step h1.1 (pa_0 h1.2) (by decide), ff_step h2 (pa_1.2.1 _ hL) (by decide)]
  exact ff_stop (by omega) (fun z => pa_2n (fun w => h3 ⟨z, w⟩)) (by decide)
theorem bad_3 {x : Nat → Int32} {n p : Nat} (h1 : nx x n p (nI 48) (nI 50)) (h2 : p + 1 < n) (hL : x (p + 1) ∈ [nI 101, nI 103] ∨ x (p + 1) = nI 119) (h3 : ¬ dgt x n (p + 2)) : ffR x (n - p) p (nI 0) = nI (p + 2) := by
  rw [ff_step h1.1 (pa_0 h1.2) (by decide)]
  rcases hL with hL | hL
  · rw [ff_step h2 (pa_1.2.2.2 _ hL) (by decide)]
    exact ff_stop (by omega) (fun z => pa_nd59 (fun w => h3 ⟨z, w⟩) (Or.inl (by simp))) (by decide)
  · rw [ff_step h2 (q2 := nI 5) (by rw [hL]; exact pa_1.2.2.1) (by decide)]
    exact ff_stop (by omega) (fun z => pa_nd59 (fun w => h3 ⟨z, w⟩) (Or.inl (by simp))) (by decide)
theorem bad_4 {x : Nat → Int32} {n p p3 v3 : Nat} (h1 : nx x n p (nI 48) (nI 50)) (h2 : p + 1 < n) (hL : x (p + 1) = nI 119) (h3 : dgt x n (p + 2)) (hE : rnE x n 15 (p + 2) = (p3, v3)) (h4 : ¬ nx x n p3 (nI 61) (nI 61)) : ffR x (n - p) p (nI 0) = nI p3 := by
  obtain ⟨a1, a2, a3, q, a4, a5⟩ := key_ff (q0 := nI 5) (q1 := nI 6) (q2 := nI 7) h3 hE (Or.inr ⟨rfl, rfl, rfl⟩)
  rw [ff_step h1.1 (pa_0 h1.2) (by decide), ff_step h2 (q2 := nI 5) (by rw [hL]; exact pa_1.2.2.1) (by decide), a4]
  refine ff_stop a2 (fun z => ?_) (by rcases a5 with rfl | ⟨rfl, -⟩ <;> decide)
  have h61 : x p3 ≠ nI 61 := fun e => h4 ⟨z, by rw [e]; exact inR_rfl _⟩
  by_cases hd : inR (x p3) (nI 48) (nI 57)
  · rw [(dg_of hd).1]
    have h9 := (dg_of hd).2
    rcases a5 with rfl | ⟨rfl, a5⟩
    · exact pa_dig.2.2.2.2.1 _ (by omega)
    · exact (pa_dig.2.2.2.1 _ (by omega)).trans (if_neg (fun w => a5 ⟨⟨z, hd⟩, w⟩))
  · refine pa_nd59 hd (Or.inr ⟨?_, h61⟩)
    rcases a5 with rfl | ⟨rfl, -⟩ <;> simp
theorem bad_5 {x : Nat → Int32} {n p p3 v3 : Nat} (h1 : nx x n p (nI 48) (nI 50)) (h2 : p + 1 < n) (hL : x (p + 1) = nI 119) (h3 : dgt x n (p + 2)) (hE : rnE x n 15 (p + 2) = (p3, v3)) (h4 : nx x n p3 (nI 61) (nI 61)) (h5 : ¬ dgt x n (p3 + 1)) : ffR x (n - p) p (nI 0) = nI (p3 + 1) := by
  obtain ⟨a1, a2, a3, q, a4, a5⟩ := key_ff (q0 := nI 5) (q1 := nI 6) (q2 := nI 7) h3 hE (Or.inr ⟨rfl, rfl, rfl⟩)
  rw [ff_step h1.1 (pa_0 h1.2) (by decide), ff_step h2 (q2 := nI 5) (by rw [hL]; exact pa_1.2.2.1) (by decide), a4]
  rw [ff_step h4.1 (q2 := nI 8) (by rw [inR_11 h4.2]; rcases a5 with rfl | ⟨rfl, -⟩; exact pa_61.2; exact pa_61.1) (by decide)]
  exact ff_stop (by have := h4.1; omega) (fun z => pa_nd59 (fun w => h5 ⟨z, w⟩) (Or.inl (by simp))) (by decide)
