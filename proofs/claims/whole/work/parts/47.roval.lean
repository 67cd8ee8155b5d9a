set_option maxHeartbeats 4000000 in
/-- readOrder where the rest of the text is a script: what it leaves doesn't hang on the memory -/
theorem ro_val {x f3 : Nat → Int32} {n p : Nat} (hn : n ≤ 80) (h6 : f3 6 = nI n) (h8 : f3 8 = nI p) (hpn : p ≤ n) (hval : ffR x (n - p) p (nI 0) = -5) : ∃ (f : Nat → Int32) (p2 : Nat), p2 ≤ n ∧ f 8 = nI p2 ∧ (∀ i, i < 8 → f i = f3 i) ∧ f 13 = f3 13 ∧ okO x n p p2 f ∧ ∀ (G : sv_G) (M : sv_Mem), M 9 4 0 = f3 → M 9 8 0 = x → sv_Ct G M_X4_readOrder 4 [.ref (sv_ad G 4 9 0)] M (some (.int (bI True))) (mR M f) := by
  have bad : ∀ q, q ≤ 80 → ffR x (n - p) p (nI 0) = nI q → False := fun q hq e => ff_neg q hq (e.symm.trans hval)
  by_cases h1 : nx x n p (nI 48) (nI 50)
  · by_cases h2 : p + 1 < n
    ·
      by_cases hL98 : x (p + 1) = nI 98
      · have hL := hL98
        refine ⟨va_up (va_up (va_up (va_up (f3) 9 (x p - nI 48)) 8 (nI (p + 1))) 10 (nI 98)) 8 (nI (p + 2)), p + 2, (by omega), (by simp [va_up]), (fun i hi => by simp only [va_up]; repeat rw [if_neg (by omega)]), (by simp [va_up]), ⟨h1, h2, (by simp [va_up]), (by simp [va_up]; exact hL.symm), Or.inl ⟨by rw [hL]; simp, rfl⟩⟩, fun G M hM hx => ?_⟩
        have T : TX M x n p := ⟨hx, by rw [hM]; exact h6, hn, by rw [hM]; exact h8, by omega⟩
        have z := c_X4_readOrder_98 (G := G) T h1 h2 hL
        simp only [mF_R, mR_f, mR_R, hM] at z
        exact z
      by_cases hL99 : x (p + 1) = nI 99
      · have hL := hL99
        refine ⟨va_up (va_up (va_up (va_up (f3) 9 (x p - nI 48)) 8 (nI (p + 1))) 10 (nI 99)) 8 (nI (p + 2)), p + 2, (by omega), (by simp [va_up]), (fun i hi => by simp only [va_up]; repeat rw [if_neg (by omega)]), (by simp [va_up]), ⟨h1, h2, (by simp [va_up]), (by simp [va_up]; exact hL.symm), Or.inl ⟨by rw [hL]; simp, rfl⟩⟩, fun G M hM hx => ?_⟩
        have T : TX M x n p := ⟨hx, by rw [hM]; exact h6, hn, by rw [hM]; exact h8, by omega⟩
        have z := c_X4_readOrder_99 (G := G) T h1 h2 hL
        simp only [mF_R, mR_f, mR_R, hM] at z
        exact z
      by_cases hL114 : x (p + 1) = nI 114
      · have hL := hL114
        refine ⟨va_up (va_up (va_up (va_up (f3) 9 (x p - nI 48)) 8 (nI (p + 1))) 10 (nI 114)) 8 (nI (p + 2)), p + 2, (by omega), (by simp [va_up]), (fun i hi => by simp only [va_up]; repeat rw [if_neg (by omega)]), (by simp [va_up]), ⟨h1, h2, (by simp [va_up]), (by simp [va_up]; exact hL.symm), Or.inl ⟨by rw [hL]; simp, rfl⟩⟩, fun G M hM hx => ?_⟩
        have T : TX M x n p := ⟨hx, by rw [hM]; exact h6, hn, by rw [hM]; exact h8, by omega⟩
        have z := c_X4_readOrder_114 (G := G) T h1 h2 hL
        simp only [mF_R, mR_f, mR_R, hM] at z
        exact z
      by_cases hL115 : x (p + 1) = nI 115
      · have hL := hL115
        by_cases h3 : nx x n (p + 2) (nI 97) (nI 104)
        ·
          refine ⟨va_up (va_up (va_up (va_up (va_up (va_up (f3) 9 (x p - nI 48)) 8 (nI (p + 1))) 10 (nI 115)) 8 (nI (p + 2))) 11 (x (p + 2) - nI 97)) 8 (nI (p + 3)), p + 3, (by have := h3.1; omega), (by simp [va_up]), (fun i hi => by simp only [va_up]; repeat rw [if_neg (by omega)]), (by simp [va_up]), ⟨h1, h2, (by simp [va_up]), (by simp [va_up]; exact hL.symm), Or.inr (Or.inl ⟨by rw [hL]; simp, h3, (by simp [va_up]), rfl⟩)⟩, fun G M hM hx => ?_⟩
          have T : TX M x n p := ⟨hx, by rw [hM]; exact h6, hn, by rw [hM]; exact h8, by omega⟩
          have z := c_X4_readOrder_115_y (G := G) T h1 h2 hL h3
          simp only [mF_R, mR_f, mR_R, hM] at z
          exact z
        · exact (bad _ (by omega) (bad_2 h1 h2 (by rw [hL]; simp) h3)).elim
      by_cases hL117 : x (p + 1) = nI 117
      · have hL := hL117
        by_cases h3 : nx x n (p + 2) (nI 97) (nI 104)
        ·
          refine ⟨va_up (va_up (va_up (va_up (va_up (va_up (f3) 9 (x p - nI 48)) 8 (nI (p + 1))) 10 (nI 117)) 8 (nI (p + 2))) 11 (x (p + 2) - nI 97)) 8 (nI (p + 3)), p + 3, (by have := h3.1; omega), (by simp [va_up]), (fun i hi => by simp only [va_up]; repeat rw [if_neg (by omega)]), (by simp [va_up]), ⟨h1, h2, (by simp [va_up]), (by simp [va_up]; exact hL.symm), Or.inr (Or.inl ⟨by rw [hL]; simp, h3, (by simp [va_up]), rfl⟩)⟩, fun G M hM hx => ?_⟩
          have T : TX M x n p := ⟨hx, by rw [hM]; exact h6, hn, by rw [hM]; exact h8, by omega⟩
          have z := c_X4_readOrder_117_y (G := G) T h1 h2 hL h3
          simp only [mF_R, mR_f, mR_R, hM] at z
          exact z
        · exact (bad _ (by omega) (bad_2 h1 h2 (by rw [hL]; simp) h3)).elim
      by_cases hL100 : x (p + 1) = nI 100
      · have hL := hL100
        by_cases h3 : nx x n (p + 2) (nI 97) (nI 104)
        ·
          refine ⟨va_up (va_up (va_up (va_up (va_up (va_up (f3) 9 (x p - nI 48)) 8 (nI (p + 1))) 10 (nI 100)) 8 (nI (p + 2))) 11 (x (p + 2) - nI 97)) 8 (nI (p + 3)), p + 3, (by have := h3.1; omega), (by simp [va_up]), (fun i hi => by simp only [va_up]; repeat rw [if_neg (by omega)]), (by simp [va_up]), ⟨h1, h2, (by simp [va_up]), (by simp [va_up]; exact hL.symm), Or.inr (Or.inl ⟨by rw [hL]; simp, h3, (by simp [va_up]), rfl⟩)⟩, fun G M hM hx => ?_⟩
          have T : TX M x n p := ⟨hx, by rw [hM]; exact h6, hn, by rw [hM]; exact h8, by omega⟩
          have z := c_X4_readOrder_100_y (G := G) T h1 h2 hL h3
          simp only [mF_R, mR_f, mR_R, hM] at z
          exact z
        · exact (bad _ (by omega) (bad_2 h1 h2 (by rw [hL]; simp) h3)).elim
      by_cases hL101 : x (p + 1) = nI 101
      · have hL := hL101
        by_cases h3 : dgt x n (p + 2)
        ·
          refine ⟨va_up (va_up (va_up (va_up (va_up (va_up (f3) 9 (x p - nI 48)) 8 (nI (p + 1))) 10 (nI 101)) 8 (nI (p + 2))) 8 (nI (rnE x n 15 (p + 2)).1)) 11 (nI (rnE x n 15 (p + 2)).2), (rnE x n 15 (p + 2)).1, (rnE_le h3 (by omega)).2.1, (by simp [va_up]), (fun i hi => by simp only [va_up]; repeat rw [if_neg (by omega)]), (by simp [va_up]), ⟨h1, h2, (by simp [va_up]), (by simp [va_up]; exact hL.symm), Or.inr (Or.inr (Or.inl ⟨by rw [hL]; simp, h3, (rnE x n 15 (p + 2)).2, rfl, (by simp [va_up])⟩))⟩, fun G M hM hx => ?_⟩
          have T : TX M x n p := ⟨hx, by rw [hM]; exact h6, hn, by rw [hM]; exact h8, by omega⟩
          have z := c_X4_readOrder_101_y (G := G) T h1 h2 hL h3
          simp only [mF_R, mR_f, mR_R, hM] at z
          exact z
        · exact (bad _ (by omega) (bad_3 h1 h2 (by rw [hL]; simp) h3)).elim
      by_cases hL103 : x (p + 1) = nI 103
      · have hL := hL103
        by_cases h3 : dgt x n (p + 2)
        ·
          refine ⟨va_up (va_up (va_up (va_up (va_up (va_up (f3) 9 (x p - nI 48)) 8 (nI (p + 1))) 10 (nI 103)) 8 (nI (p + 2))) 8 (nI (rnE x n 15 (p + 2)).1)) 11 (nI (rnE x n 15 (p + 2)).2), (rnE x n 15 (p + 2)).1, (rnE_le h3 (by omega)).2.1, (by simp [va_up]), (fun i hi => by simp only [va_up]; repeat rw [if_neg (by omega)]), (by simp [va_up]), ⟨h1, h2, (by simp [va_up]), (by simp [va_up]; exact hL.symm), Or.inr (Or.inr (Or.inl ⟨by rw [hL]; simp, h3, (rnE x n 15 (p + 2)).2, rfl, (by simp [va_up])⟩))⟩, fun G M hM hx => ?_⟩
          have T : TX M x n p := ⟨hx, by rw [hM]; exact h6, hn, by rw [hM]; exact h8, by omega⟩
          have z := c_X4_readOrder_103_y (G := G) T h1 h2 hL h3
          simp only [mF_R, mR_f, mR_R, hM] at z
          exact z
        · exact (bad _ (by omega) (bad_3 h1 h2 (by rw [hL]; simp) h3)).elim
      by_cases hL119 : x (p + 1) = nI 119
      · have hL := hL119
        by_cases h3 : dgt x n (p + 2)
        · have hr := rnE_le (most := 15) h3 (by omega)
          generalize hE : rnE x n 15 (p + 2) = pv at hr
          obtain ⟨p3, v3⟩ := pv
          by_cases h4 : nx x n p3 (nI 61) (nI 61)
          · by_cases h5 : dgt x n (p3 + 1)
            · have hr2 := rnE_le (most := 9999) h5 (by omega)
              refine ⟨va_up (va_up (va_up (va_up (va_up (va_up (va_up (va_up (va_up (f3) 9 (x p - nI 48)) 8 (nI (p + 1))) 10 (nI 119)) 8 (nI (p + 2))) 8 (nI p3)) 11 (nI v3)) 8 (nI (p3 + 1))) 8 (nI (rnE x n 9999 (p3 + 1)).1)) 12 (nI (rnE x n 9999 (p3 + 1)).2), (rnE x n 9999 (p3 + 1)).1, hr2.2.1, (by simp [va_up]), (fun i hi => by simp only [va_up]; repeat rw [if_neg (by omega)]), (by simp [va_up]), ⟨h1, h2, (by simp [va_up]), (by simp [va_up]; exact hL.symm), Or.inr (Or.inr (Or.inr ⟨hL, h3, p3, v3, (rnE x n 9999 (p3 + 1)).2, hE, h4, h5, rfl, (by simp [va_up]), (by simp [va_up])⟩))⟩, fun G M hM hx => ?_⟩
              have T : TX M x n p := ⟨hx, by rw [hM]; exact h6, hn, by rw [hM]; exact h8, by omega⟩
              have z := c_X4_readOrder_119_y (G := G) T h1 h2 hL h3 hE hr.2.1 h4 h5
              simp only [mF_R, mR_f, mR_R, hM] at z
              exact z
            · exact (bad _ (by have := h4.1; omega) (bad_5 h1 h2 hL h3 hE h4 h5)).elim
          · exact (bad _ (by have := hr.2.1; omega) (bad_4 h1 h2 hL h3 hE h4)).elim
        · exact (bad _ (by omega) (bad_3 h1 h2 (Or.inr hL) h3)).elim
      exact (bad _ (by omega) (bad_1 h1 (fun _ => ⟨hL98, hL99, hL114, hL115, hL117, hL100, hL101, hL103, hL119⟩))).elim
    · exact (bad _ (by have := h1.1; omega) (bad_1 h1 (fun z => absurd z h2))).elim
  · exact (bad _ (by omega) (bad_0 hpn h1)).elim
