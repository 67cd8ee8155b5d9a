theorem act_keep {G : sv_G} {M : sv_Mem} (I : INV M) (b : Prop) [Decidable b] : ActOk G M_X3_keep 4 M_X4_keep 1 [.int (bI b)] M := by
  obtain ⟨cs, o, t, n, I⟩ := I
  have hkp := I.2.2.2.2.2.1
  have ht5 := I.2.2.1
  exact act_ok2 I (keep_sim (b := b) I.1) I.1.1.1 (c_X3_keep I.hs) (fun N hN => by
    have z := c_X4_keep (G := G) (M := N) (b := b) (t := t) (by rw [hN]; exact hkp) ht5
    rw [mN_add] at z
    simp only [hN] at z
    exact z)
theorem qry {G : sv_G} {m1 m2 : sv_M} {d1 d2 : Nat} {args : List Value} {M : sv_Mem} {r r2 : Int32} (I : INV M) (hr : r = r2) (h1 : sv_Ct G m1 d1 (.ref (sv_ad G 0 8 0) :: args) M (some (.int r)) M) (h2 : sv_Ct G m2 d2 (.ref (sv_ad G 4 9 0) :: args) M (some (.int r2)) M) : ActOk G m1 d1 m2 d2 args M := ⟨r, M, M, h1, hr ▸ h2, I⟩
theorem qri {x y : Int32} (h : x = y) : x = y := h
theorem mLC_8 (M : sv_Mem) (x : Nat → Int32) (v : Int32) : mL (mC M x) v 8 0 0 = M 8 0 0 ∧ mL (mC M x) v 8 3 0 = x ∧ mL (mC M x) v 8 2 0 1 = v ∧ ∀ i, i ≠ 8 → mL (mC M x) v i = M i := by
  refine ⟨?_, ?_, mL_l _ _, fun i hi => ?_⟩
  · unfold mL mC
    rw [sv_upA_get _ _ (by omega), sv_upA_get _ _ (by omega)]
  · unfold mL mC
    rw [sv_upA_get _ _ (by omega), sv_upA_at]
  · unfold mL mC sv_upA
    rw [va_up_ne _ _ hi, va_up_ne _ _ hi]
theorem act_append {G : sv_G} {M : sv_Mem} (I0 : INV M) (v : Int32) : ActOk G M_X3_append 1 M_X4_append 1 [.int v] M := by
  obtain ⟨cs, o, t, n, I⟩ := id I0
  obtain ⟨h1, h2, h3, h4, h5, h6, h7, h8, h9, h10, h11, h12, h13⟩ := id I
  by_cases hv : inR v (nI 32) (nI 126)
  · obtain ⟨c, hc, rfl⟩ := nI_of2 (M := nI 126) (nI_toInt (by omega)) (fun z => hv.1 (Int32.lt_trans z (by decide))) (Int32.not_lt.mp hv.2)
    have hc32 : 32 ≤ c := by
      rcases Nat.lt_or_ge c 32 with z | z
      · exact absurd (nI_lt z (by omega)) hv.1
      · exact z
    by_cases hn : n < 80
    · obtain ⟨e1, e2, e3, e4⟩ := mLC_8 M (va_up (M 8 3 0) n (nI c)) (nI (n + 1))
      have hct := c_X4_append_y (G := G) (M := mL (mC M (va_up (M 8 3 0) n (nI c))) (nI (n + 1))) hv (by rw [e4 9 (by omega)]; exact h11) hn
      refine ⟨_, _, _, c_X3_append_y hc32 hc h10 hn, hct, cs, o, t, n + 1, ?_⟩
      have g4 : ∀ (N : sv_Mem) (x : Nat → Int32) (w : Int32), mF (mT N x) 6 w 9 4 0 = va_up (N 9 4 0) 6 w := fun N x w => by rw [mF_f, mT_f]
      have g8 : ∀ (N : sv_Mem) (x : Nat → Int32) (w : Int32), mF (mT N x) 6 w 9 8 0 = x := fun N x w => by rw [mF_t, mT_t]
      have go : ∀ (N : sv_Mem) (x : Nat → Int32) (w : Int32) (k : Nat), k ≠ 4 → k ≠ 8 → mF (mT N x) 6 w 9 k 0 = N 9 k 0 := fun N x w k g1 g2 => by
        unfold mF mT
        rw [sv_upA_get _ _ (by omega), sv_upA_get _ _ (by omega)]
      have gi : ∀ (N : sv_Mem) (x : Nat → Int32) (w : Int32) (i : Nat), i ≠ 9 → mF (mT N x) 6 w i = N i := fun N x w i hi => by
        unfold mF mT sv_upA
        rw [va_up_ne _ _ hi, va_up_ne _ _ hi]
      unfold INVp
      rw [g4, g8, go _ _ _ 5 (by omega) (by omega), go _ _ _ 6 (by omega) (by omega), go _ _ _ 7 (by omega) (by omega), gi _ _ _ 0 (by omega), gi _ _ _ 1 (by omega), gi _ _ _ 8 (by omega), e1, e2, e3, e4 0 (by omega), e4 1 (by omega), e4 9 (by omega), va_up_self, va_up_ne _ _ (show (2 : Nat) ≠ 6 by omega), va_up_ne _ _ (show (4 : Nat) ≠ 6 by omega)]
      refine ⟨h1, h2, h3, h4, h5, h6, fun u hu => by rw [gi _ _ _ _ (by omega), e4 _ (by omega)]; exact h7 u hu, h8, by omega, rfl, rfl, by rw [h12], fun i hi => ?_⟩
      by_cases e : i = n
      · subst e
        rw [va_up_self]
        exact ⟨c, hc32, hc, rfl⟩
      · rw [va_up_ne _ _ e]
        exact h13 i (by omega)
    · have hn80 : n = 80 := by omega
      exact qry I0 rfl (c_X3_append_n hc32 hc (by rw [h10, hn80])) (c_X4_append_n hv (by rw [h11, hn80]))
  · exact qry I0 rfl (c_X3_append_b hv) (c_X4_append_b hv)

/-- the reference's single ints below 8 stay -/
theorem INV_R {M : sv_Mem} {f : Nat → Int32} (I : INV M) (hf : ∀ i, i < 8 → f i = M 9 4 0 i) : INV (mR M f) := by
  obtain ⟨cs, o, t, n, h1, h2, h3, h4, h5, h6, h7, h8, h9, h10, h11, h12, h13⟩ := I
  have go : ∀ (k : Nat), k ≠ 4 → mR M f 9 k 0 = M 9 k 0 := fun k g1 => sv_upA_get M f (by omega)
  have gi : ∀ i, i ≠ 9 → mR M f i = M i := fun i hi => by
    unfold mR sv_upA
    rw [va_up_ne _ _ hi]
  refine ⟨cs, o, t, n, ?_⟩
  unfold INVp
  rw [mR_f, go 5 (by omega), go 6 (by omega), go 7 (by omega), go 8 (by omega), gi 0 (by omega), gi 1 (by omega), gi 8 (by omega), hf 2 (by omega), hf 4 (by omega), hf 6 (by omega)]
  exact ⟨h1, h2, h3, h4, h5, h6, fun u hu => by rw [gi _ (by omega)]; exact h7 u hu, h8, h9, h10, h11, h12, h13⟩
theorem INVp.tc {M : sv_Mem} {cs : Nat → Nat} {o t n : Nat} (I : INVp M cs o t n) : TC M (M 9 8 0) n := by
  obtain ⟨h1, h2, h3, h4, h5, h6, h7, h8, h9, h10, h11, h12, h13⟩ := I
  exact ⟨h12, h10, h9, h13⟩
theorem act_fault {G : sv_G} {M : sv_Mem} (I0 : INV M) : ActOk G M_X3_fault 4 M_X4_fault 6 [] M := by
  obtain ⟨cs, o, t, n, I⟩ := id I0
  have hT := I.tc
  obtain ⟨h1, h2, h3, h4, h5, h6, h7, h8, h9, h10, h11, h12, h13⟩ := I
  obtain ⟨f9, hQ, hct⟩ := rt_all (G := G) (M := M) (x := M 9 8 0) rfl h11 h9
  exact ⟨_, M, _, c_X3_fault hT, c_X4_fault h9 hQ hct, INV_R I0 hQ.1⟩
theorem act_clearText {G : sv_G} {M : sv_Mem} (I0 : INV M) : ActOk G M_X3_clearText 0 M_X4_clearText 0 [] M := by
  obtain ⟨cs, o, t, n, h1, h2, h3, h4, h5, h6, h7, h8, h9, h10, h11, h12, h13⟩ := I0
  have g8 : ∀ k j, ¬ (k = 2 ∧ j = 0) → mL M (nI 0) 8 k j = M 8 k j := fun k j hk => sv_upA_get _ _ (by omega)
  have gi : ∀ i, i ≠ 8 → mL M (nI 0) i = M i := fun i hi => by
    unfold mL sv_upA
    rw [va_up_ne _ _ hi]
  have k4 : mF (mL M (nI 0)) 6 (nI 0) 9 4 0 = va_up (M 9 4 0) 6 (nI 0) := by rw [mF_f, gi 9 (by omega)]
  have ko : ∀ k, k ≠ 4 → mF (mL M (nI 0)) 6 (nI 0) 9 k 0 = M 9 k 0 := fun k hk => by
    unfold mF
    rw [sv_upA_get _ _ (by omega), gi 9 (by omega)]
  have ki : ∀ i, i ≠ 9 → mF (mL M (nI 0)) 6 (nI 0) i = mL M (nI 0) i := fun i hi => by
    unfold mF sv_upA
    rw [va_up_ne _ _ hi]
  refine ⟨nI n, mL M (nI 0), mF (mL M (nI 0)) 6 (nI 0), ?_, ?_, cs, o, t, 0, ?_⟩
  · have z := c_X3_clearText (G := G) (M := M)
    rw [h10] at z
    exact z
  · have z := c_X4_clearText (G := G) (M := mL M (nI 0))
    rw [gi 9 (by omega), h11] at z
    exact z
  · unfold INVp
    rw [k4, ko 5 (by omega), ko 6 (by omega), ko 7 (by omega), ko 8 (by omega), ki 0 (by omega), ki 1 (by omega), ki 8 (by omega), g8 0 0 (by omega), g8 3 0 (by omega), gi 0 (by omega), gi 1 (by omega), va_up_self, va_up_ne _ _ (show (2 : Nat) ≠ 6 by omega), va_up_ne _ _ (show (4 : Nat) ≠ 6 by omega), mL_l]
    exact ⟨h1, h2, h3, h4, h5, h6, fun u hu => by rw [ki _ (by omega), gi _ (by omega)]; exact h7 u hu, h8, by omega, rfl, rfl, h12, fun i hi => absurd hi (by omega)⟩
theorem cpK_in {s h : Nat → Int32} {a n : Nat} (hn : n < 810) : cpK s h a 810 n = h (a + n) := if_pos hn
theorem act_undo {G : sv_G} {M : sv_Mem} (I0 : INV M) : ActOk G M_X3_undo 3 M_X4_undo 0 [] M := by
  obtain ⟨cs, o, t, n, h1, h2, h3, h4, h5, h6, h7, h8, h9, h10, h11, h12, h13⟩ := id I0
  cases t with
  | zero => exact qry I0 rfl (c_X3_undo_n h5) (c_X4_undo_n h6)
  | succ t =>
    obtain ⟨c2, hc2⟩ := h7 t (by omega)
    obtain ⟨q1, q2⟩ := RR_cs hc2
    have g9 : sT (mY M 5 (nI t)) 0 (cpS (M 0) (M ((o + t) % 6 + 2)) c2) 9 = M 9 := by rw [sT_ne _ _ (by omega), mY_i _ _ _ (by omega)]
    have g8 : ∀ k j, sT (mY M 5 (nI t)) 0 (cpS (M 0) (M ((o + t) % 6 + 2)) c2) 8 k j = mY M 5 (nI t) 8 k j := fun k j => by rw [sT_ne _ _ (by omega)]
    have gi : ∀ i, i ≠ 0 → i ≠ 8 → sT (mY M 5 (nI t)) 0 (cpS (M 0) (M ((o + t) % 6 + 2)) c2) i = M i := fun i a b => by rw [sT_ne _ _ a, mY_i _ _ _ b]
    have g0 : sT (mY M 5 (nI t)) 0 (cpS (M 0) (M ((o + t) % 6 + 2)) c2) 0 = cpS (M 0) (M ((o + t) % 6 + 2)) c2 := sT_at ..
    have hct := c_X4_undo_y (G := G) (M := sT (mY M 5 (nI t)) 0 (cpS (M 0) (M ((o + t) % 6 + 2)) c2)) (t := t) (by rw [g9]; exact h6) h3
    refine ⟨_, _, _, c_X3_undo_y h4 h2 h5 h3 (q1.w (by omega)) q2, hct, c2, o, t, n, ?_⟩
    generalize sT (mY M 5 (nI t)) 0 (cpS (M 0) (M ((o + t) % 6 + 2)) c2) = N at g9 g8 gi g0
    rw [g9]
    have k4 : mF (mS N (cpK (M 9 5 0) (M 9 6 0) (810 * t) 810)) 2 (nI t) 9 4 0 = va_up (M 9 4 0) 2 (nI t) := by rw [mF_f, mS_f, g9]
    have k5 : mF (mS N (cpK (M 9 5 0) (M 9 6 0) (810 * t) 810)) 2 (nI t) 9 5 0 = cpK (M 9 5 0) (M 9 6 0) (810 * t) 810 := by rw [mF_s, mS_s]
    have ko : ∀ k, k ≠ 4 → k ≠ 5 → mF (mS N (cpK (M 9 5 0) (M 9 6 0) (810 * t) 810)) 2 (nI t) 9 k 0 = M 9 k 0 := fun k a b => by
      unfold mF mS
      rw [sv_upA_get _ _ (by omega), sv_upA_get _ _ (by omega), g9]
    have ki : ∀ i, i ≠ 9 → mF (mS N (cpK (M 9 5 0) (M 9 6 0) (810 * t) 810)) 2 (nI t) i = N i := fun i hi => by
      unfold mF mS sv_upA
      rw [va_up_ne _ _ hi, va_up_ne _ _ hi]
    unfold INVp
    rw [k4, k5, ko 6 (by omega) (by omega), ko 7 (by omega) (by omega), ko 8 (by omega) (by omega), ki 0 (by omega), ki 1 (by omega), ki 8 (by omega), g0, g8 0 0, g8 2 0, g8 3 0, gi 1 (by omega) (by omega), mY_y, mY_o _ _ _ (by omega), mY_o _ _ _ (by omega), va_up_self, va_up_self, va_up_ne _ _ (show (4 : Nat) ≠ 5 by omega), va_up_ne _ _ (show (2 : Nat) ≠ 5 by omega), va_up_ne _ _ (show (4 : Nat) ≠ 2 by omega), va_up_ne _ _ (show (6 : Nat) ≠ 2 by omega)]
    exact ⟨RR_s (copy_sim hc2) (fun a ha => cpK_in ha), h2, by omega, h4, rfl, rfl, fun u hu => by rw [ki _ (by omega), gi _ (by omega) (by omega)]; exact h7 u (by omega), h8, h9, h10, h11, h12, h13⟩
theorem vl_rel {T : sv_T} {s : Nat → Int32} (h : valOk T s) : cnt (fun k => T 11 0 k ≠ -5) 16 = vlR s := cnt_congr (fun k hk => by
  obtain ⟨a, b⟩ := h k hk
  show (T 11 0 k ≠ -5) ↔ (s (8 + k) ≠ -1)
  rw [a]
  exact not_congr (outs_5 b))
theorem act_save {G : sv_G} {M : sv_Mem} (I0 : INV M) : ActOk G M_X3_save 3 M_X4_save 1 [] M := by
  obtain ⟨cs, o, t, n, h1, h2, h3, h4, h5, h6, h7, h8, h9, h10, h11, h12, h13⟩ := id I0
  obtain ⟨q1, q2⟩ := RR_cs h1
  have g9 : mY (sT M 1 (cpS (M 1) (M 0) cs)) 2 (nI 1) 9 = M 9 := by rw [mY_i _ _ _ (by omega), sT_ne _ _ (by omega)]
  have g8 : ∀ k j, ¬ (k = 0 ∧ j = 0) → mY (sT M 1 (cpS (M 1) (M 0) cs)) 2 (nI 1) 8 k j = M 8 k j := fun k j hk => by rw [mY_o _ _ _ (by omega), sT_ne _ _ (by omega)]
  have g80 : mY (sT M 1 (cpS (M 1) (M 0) cs)) 2 (nI 1) 8 0 0 = va_up (M 8 0 0) 2 (nI 1) := by rw [mY_y, sT_ne _ _ (by omega)]
  have gi : ∀ i, i ≠ 1 → i ≠ 8 → mY (sT M 1 (cpS (M 1) (M 0) cs)) 2 (nI 1) i = M i := fun i a b => by rw [mY_i _ _ _ b, sT_ne _ _ a]
  have g1 : mY (sT M 1 (cpS (M 1) (M 0) cs)) 2 (nI 1) 1 = cpS (M 1) (M 0) cs := by rw [mY_i _ _ _ (by omega), sT_at]
  have hct := c_X4_save (G := G) (M := mY (sT M 1 (cpS (M 1) (M 0) cs)) 2 (nI 1))
  rw [g9] at hct
  have hcc := c_X3_save (G := G) q1 q2
  rw [vl_rel h1.2.1] at hcc
  refine ⟨_, _, _, hcc, hct, cs, o, t, n, ?_⟩
  generalize mY (sT M 1 (cpS (M 1) (M 0) cs)) 2 (nI 1) = N at g9 g8 gi g1 g80
  have k4 : mF (mP N (cpK (M 9 7 0) (M 9 5 0) 0 810)) 4 (nI 1) 9 4 0 = va_up (M 9 4 0) 4 (nI 1) := by rw [mF_f, mP_f, g9]
  have k7 : mF (mP N (cpK (M 9 7 0) (M 9 5 0) 0 810)) 4 (nI 1) 9 7 0 = cpK (M 9 7 0) (M 9 5 0) 0 810 := by
    unfold mF
    rw [sv_upA_get _ _ (by omega), mP_p]
  have ko : ∀ k, k ≠ 4 → k ≠ 7 → mF (mP N (cpK (M 9 7 0) (M 9 5 0) 0 810)) 4 (nI 1) 9 k 0 = M 9 k 0 := fun k a b => by
    unfold mF mP
    rw [sv_upA_get _ _ (by omega), sv_upA_get _ _ (by omega), g9]
  have ki : ∀ i, i ≠ 9 → mF (mP N (cpK (M 9 7 0) (M 9 5 0) 0 810)) 4 (nI 1) i = N i := fun i hi => by
    unfold mF mP sv_upA
    rw [va_up_ne _ _ hi, va_up_ne _ _ hi]
  unfold INVp
  rw [k4, k7, ko 5 (by omega) (by omega), ko 6 (by omega) (by omega), ko 8 (by omega) (by omega), ki 0 (by omega), ki 1 (by omega), ki 8 (by omega), g80, g8 2 0 (by omega), g8 3 0 (by omega), g1, gi 0 (by omega) (by omega), va_up_self, va_up_self, va_up_ne _ _ (show (4 : Nat) ≠ 2 by omega), va_up_ne _ _ (show (5 : Nat) ≠ 2 by omega), va_up_ne _ _ (show (2 : Nat) ≠ 4 by omega), va_up_ne _ _ (show (6 : Nat) ≠ 4 by omega)]
  exact ⟨h1, h2, h3, h4, h5, h6, fun u hu => by rw [ki _ (by omega), gi _ (by omega) (by omega)]; exact h7 u hu, Or.inr ⟨rfl, rfl, cs, RR_s (copy_sim h1) (fun a ha => by rw [cpK_in ha, Nat.zero_add])⟩, h9, h10, h11, h12, h13⟩
theorem act_restore {G : sv_G} {M : sv_Mem} (I0 : INV M) : ActOk G M_X3_restore 4 M_X4_restore 1 [] M := by
  obtain ⟨cs, o, t, n, I⟩ := id I0
  obtain ⟨h1, h2, h3, h4, h5, h6, h7, h8, h9, h10, h11, h12, h13⟩ := id I
  rcases h8 with ⟨a1, a2⟩ | ⟨a1, a2, c2, hc2⟩
  · exact qry I0 rfl (c_X3_restore_n a1) (c_X4_restore_n a2)
  · obtain ⟨q1, q2⟩ := RR_cs hc2
    have hR : RR (cpS (M 0) (M 1) c2) (cpK (M 9 5 0) (M 9 7 0) 0 810) c2 := RR_s (copy_sim hc2) (fun a ha => by rw [cpK_in ha, Nat.zero_add])
    exact act_ok2 I hR (congrArg nI (vl_rel hR.2.1)) (c_X3_restore_y I.hs a1 (q1.w (by omega)) q2) (fun N hN => by
      have z := c_X4_restore_y (G := G) (M := N) (t := t) (by rw [hN]; exact a2) (by rw [hN]; exact h6) h3
      rw [mN_add] at z
      simp only [hN] at z
      exact z)
