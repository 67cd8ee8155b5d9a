/-! the invariant of the law's loop, and the calls that it makes -/
def INVp (M : sv_Mem) (cs : Nat → Nat) (o t n : Nat) : Prop := RR (M 0) (M 9 5 0) cs ∧ o < 6 ∧ t ≤ 5 ∧ M 8 0 0 4 = nI o ∧ M 8 0 0 5 = nI t ∧ M 9 4 0 2 = nI t ∧ (∀ u, u < t → ∃ c2, RR (M ((o + u) % 6 + 2)) (fun a => M 9 6 0 (810 * u + a)) c2) ∧ ((M 8 0 0 2 = nI 0 ∧ M 9 4 0 4 = nI 0) ∨ (M 8 0 0 2 = nI 1 ∧ M 9 4 0 4 = nI 1 ∧ ∃ c2, RR (M 1) (M 9 7 0) c2)) ∧ n ≤ 80 ∧ M 8 2 0 1 = nI n ∧ M 9 4 0 6 = nI n ∧ M 8 3 0 = M 9 8 0 ∧ ∀ i, i < n → ∃ c, 32 ≤ c ∧ c ≤ 126 ∧ M 9 8 0 i = nI c
def INV (M : sv_Mem) : Prop := ∃ (cs : Nat → Nat) (o t n : Nat), INVp M cs o t n
theorem RR_cs {T : sv_T} {s : Nat → Int32} {cs : Nat → Nat} (h : RR T s cs) : csOk T cs 13 ∧ (T 10 0 0 = nI 0 ∨ T 10 0 0 = nI 1) := ⟨fun j hj => ⟨(h.2.2.2 j hj).2.1, (h.2.2.2 j hj).1⟩, by rw [h.1.1]; exact h.1.2⟩
theorem INVp.hs {M : sv_Mem} {cs : Nat → Nat} {o t n : Nat} (I : INVp M cs o t n) : hsOk M o t cs := ⟨I.2.2.2.1, I.2.1, I.2.2.2.2.1, I.2.2.1, (RR_cs I.1).1, (RR_cs I.1).2⟩
/-- memories that agree but for the State slots that don't count -/
theorem INV_rm {M : sv_Mem} {cs : Nat → Nat} {o t n : Nat} (I : INVp M cs o t n) : INVp (rmM M o t cs) cs o t n := by
  obtain ⟨h1, h2, h3, h4, h5, h6, h7, h8, h9, h10, h11, h12, h13⟩ := I
  have e : ∀ i, i ≠ (o + t) % 6 + 2 → rmM M o t cs i = M i := fun i hi => sT_ne _ _ hi
  unfold INVp
  rw [e 0 (by omega), e 8 (by omega), e 9 (by omega), e 1 (by omega)]
  exact ⟨h1, h2, h3, h4, h5, h6, fun u hu => by rw [e _ (by omega)]; exact h7 u hu, h8, h9, h10, h11, h12, h13⟩
theorem mX_i (N : sv_Mem) (t : Nat) (n2 s2 : Nat → Int32) {i : Nat} (h : i ≠ 9) : mS (mN (rcM N t) n2) s2 i = N i := by
  unfold mS mN rcM mF mH sv_upA
  rw [va_up_ne _ _ h, va_up_ne _ _ h, va_up_ne _ _ h, va_up_ne _ _ h]
theorem mX_5 (N : sv_Mem) (t : Nat) (n2 s2 : Nat → Int32) : mS (mN (rcM N t) n2) s2 9 5 0 = s2 := mS_s ..
theorem mX_6 (N : sv_Mem) (t : Nat) (n2 s2 : Nat → Int32) : mS (mN (rcM N t) n2) s2 9 6 0 = rcH (N 9 6 0) (N 9 5 0) t := by
  rw [mS_o _ _ (by omega), mN_o _ _ (by omega)]
  unfold rcM
  rw [mF_h, mH_h]
theorem mX_4 (N : sv_Mem) (t : Nat) (n2 s2 : Nat → Int32) : mS (mN (rcM N t) n2) s2 9 4 0 = va_up (N 9 4 0) 2 (nI (if t = 5 then 5 else t + 1)) := by
  rw [mS_f, mN_f]
  unfold rcM
  rw [mF_f, mH_f]
theorem mX_78 (N : sv_Mem) (t : Nat) (n2 s2 : Nat → Int32) {k : Nat} (hk : k = 7 ∨ k = 8) : mS (mN (rcM N t) n2) s2 9 k 0 = N 9 k 0 := by
  rw [mS_o _ _ (by omega), mN_o _ _ (by omega)]
  unfold rcM mF mH
  rw [sv_upA_get _ _ (by omega), sv_upA_get _ _ (by omega)]
theorem rcY_i (N : sv_Mem) (o t : Nat) {i : Nat} (h : i ≠ 8) : rcY N o t i = N i := by
  unfold rcY
  split
  · exact mY_i _ _ _ h
  · exact mY_i _ _ _ h
theorem rcY_8 (N : sv_Mem) (o t : Nat) {k j : Nat} (h : ¬ (k = 0 ∧ j = 0)) : rcY N o t 8 k j = N 8 k j := by
  unfold rcY
  split
  · exact mY_o _ _ _ (by omega)
  · exact mY_o _ _ _ (by omega)
/-- an action that is recorded -/
theorem INV_rec {M : sv_Mem} {cs cs2 : Nat → Nat} {o t n : Nat} {T2 : sv_T} {s2 n2 : Nat → Int32} (I : INVp M cs o t n) (h : RR T2 s2 cs2) : INV (mS (mN (rcM (rcY (sT (rmM M o t cs) 0 T2) o t) t) n2) s2) := by
  obtain ⟨h1, h2, h3, h4, h5, h6, h7, h8, h9, h10, h11, h12, h13⟩ := I
  have e8 : ∀ k j, ¬ (k = 0 ∧ j = 0) → rcY (sT (rmM M o t cs) 0 T2) o t 8 k j = M 8 k j := fun k j hk => by rw [rcY_8 _ _ _ hk, sT_ne _ _ (by omega), rmM_8]
  have e80 : ∀ f, rcY (sT (rmM M o t cs) 0 T2) o t 8 0 0 f = if t < 5 then (if f = 5 then nI (t + 1) else M 8 0 0 f) else (if f = 4 then nI ((o + 1) % 6) else M 8 0 0 f) := fun f => by
    unfold rcY
    split
    · rw [mY_y, sT_ne _ _ (by omega), rmM_8]
      rfl
    · rw [mY_y, sT_ne _ _ (by omega), rmM_8]
      rfl
  have e9 : rcY (sT (rmM M o t cs) 0 T2) o t 9 = M 9 := by rw [rcY_i _ _ _ (by omega), sT_ne _ _ (by omega)]; exact sT_ne _ _ (by omega)
  have e0 : rcY (sT (rmM M o t cs) 0 T2) o t 0 = T2 := by rw [rcY_i _ _ _ (by omega), sT_at]
  have ei : ∀ i, i ≠ 0 → i ≠ 8 → rcY (sT (rmM M o t cs) 0 T2) o t i = rmM M o t cs i := fun i g0 g8 => by rw [rcY_i _ _ _ g8, sT_ne _ _ g0]
  have er : ∀ i, i ≠ (o + t) % 6 + 2 → rmM M o t cs i = M i := fun i hi => sT_ne _ _ hi
  have eh : rmM M o t cs ((o + t) % 6 + 2) = cpS (M ((o + t) % 6 + 2)) (M 0) cs := sT_at ..
  have hcp := copy_sim (T := M ((o + t) % 6 + 2)) h1
  refine ⟨cs2, if t < 5 then o else (o + 1) % 6, if t < 5 then t + 1 else 5, n, ?_⟩
  unfold INVp
  rw [mX_5, mX_6, mX_4, mX_78 _ _ _ _ (Or.inl rfl), mX_78 _ _ _ _ (Or.inr rfl), mX_i _ _ _ _ (show 0 ≠ 9 by omega), mX_i _ _ _ _ (show 8 ≠ 9 by omega), mX_i _ _ _ _ (show 1 ≠ 9 by omega), e9, e0, ei 1 (by omega) (by omega), er 1 (by omega), e8 2 0 (by omega), e8 3 0 (by omega)]
  rw [e80 4, e80 5, e80 2]
  refine ⟨h, by split <;> omega, by split <;> omega, ?_, ?_, ?_, fun u hu => ?_, ?_, h9, h10, ?_, h12, h13⟩
  · split
    · rw [if_neg (by omega)]; exact h4
    · rw [if_pos rfl]
  · split
    · rw [if_pos rfl]
    · rw [if_neg (by omega), h5, show t = 5 by omega]
  · rw [va_up_self]
    by_cases ht : t < 5
    · rw [if_neg (by omega), if_pos ht]
    · rw [if_pos (by omega), if_neg ht]
  · by_cases ht : t < 5
    · rw [if_pos ht] at hu ⊢
      rw [mX_i _ _ _ _ (show (o + u) % 6 + 2 ≠ 9 by omega), ei _ (by omega) (by omega)]
      unfold rcH
      rw [if_neg (by omega)]
      by_cases hut : u = t
      · subst hut
        rw [eh]
        refine ⟨cs, RR_s hcp (fun a ha => ?_)⟩
        unfold rcC
        rw [if_pos (by omega), show 810 * u + a - 810 * u = a by omega]
      · rw [er _ (by omega)]
        obtain ⟨c2, hc2⟩ := h7 u (by omega)
        refine ⟨c2, RR_s hc2 (fun a ha => ?_)⟩
        unfold rcC
        rw [if_neg (by omega)]
    · rw [if_neg ht] at hu ⊢
      have ht5 : t = 5 := by omega
      rw [mX_i _ _ _ _ (show ((o + 1) % 6 + u) % 6 + 2 ≠ 9 by omega), ei _ (by omega) (by omega)]
      unfold rcH
      rw [if_pos ht5]
      by_cases hut : u = 4
      · subst hut
        rw [show ((o + 1) % 6 + 4) % 6 + 2 = (o + t) % 6 + 2 by omega, eh]
        refine ⟨cs, RR_s hcp (fun a ha => ?_)⟩
        unfold rcC
        rw [if_pos (by omega), show 810 * 4 + a - 810 * 4 = a by omega]
      · rw [er _ (by omega), show ((o + 1) % 6 + u) % 6 + 2 = (o + (u + 1)) % 6 + 2 by omega]
        obtain ⟨c2, hc2⟩ := h7 (u + 1) (by omega)
        refine ⟨c2, RR_s hc2 (fun a ha => ?_)⟩
        unfold rcC
        rw [if_neg (by omega)]
        unfold rcS
        rw [if_pos (by omega), show 810 * u + a + 810 = 810 * (u + 1) + a by omega]
  · have e2 : (if t < 5 then (if (2 : Nat) = 5 then nI (t + 1) else M 8 0 0 2) else (if (2 : Nat) = 4 then nI ((o + 1) % 6) else M 8 0 0 2)) = M 8 0 0 2 := by split <;> rw [if_neg (by omega)]
    rw [e2, va_up_ne _ _ (by omega)]
    exact h8
  · rw [va_up_ne _ _ (by omega)]
    exact h11
/-- a call of both, with one answer, that keeps the invariant -/
def ActOk (G : sv_G) (m1 : sv_M) (d1 : Nat) (m2 : sv_M) (d2 : Nat) (args : List Value) (M : sv_Mem) : Prop := ∃ (r : Int32) (M1 M2 : sv_Mem), sv_Ct G m1 d1 (.ref (sv_ad G 0 8 0) :: args) M (some (.int r)) M1 ∧ sv_Ct G m2 d2 (.ref (sv_ad G 4 9 0) :: args) M1 (some (.int r)) M2 ∧ INV M2
theorem act_err {G : sv_G} {m1 m2 : sv_M} {d1 d2 : Nat} {args : List Value} {M : sv_Mem} {cs : Nat → Nat} {o t n : Nat} {r : Int32} (I : INVp M cs o t n) (h1 : sv_Ct G m1 d1 (.ref (sv_ad G 0 8 0) :: args) M (some (.int r)) (rmM M o t cs)) (h2 : sv_Ct G m2 d2 (.ref (sv_ad G 4 9 0) :: args) (rmM M o t cs) (some (.int r)) (rmM M o t cs)) : ActOk G m1 d1 m2 d2 args M := ⟨r, _, _, h1, h2, cs, o, t, n, INV_rm I⟩
theorem act_ok {G : sv_G} {m1 m2 : sv_M} {d1 d2 : Nat} {args : List Value} {M : sv_Mem} {cs cs2 : Nat → Nat} {o t n : Nat} {r r2 : Int32} {T2 : sv_T} {s2 n2 : Nat → Int32} (I : INVp M cs o t n) (h : RR T2 s2 cs2) (hr : r = r2) (h1 : sv_Ct G m1 d1 (.ref (sv_ad G 0 8 0) :: args) M (some (.int r)) (rcY (sT (rmM M o t cs) 0 T2) o t)) (h2 : sv_Ct G m2 d2 (.ref (sv_ad G 4 9 0) :: args) (rcY (sT (rmM M o t cs) 0 T2) o t) (some (.int r2)) (mS (mN (rcM (rcY (sT (rmM M o t cs) 0 T2) o t) t) n2) s2)) : ActOk G m1 d1 m2 d2 args M := ⟨r, _, _, h1, hr ▸ h2, INV_rec I h⟩
theorem mN_add (N : sv_Mem) (t : Nat) (s2 : Nat → Int32) : mS (rcM N t) s2 = mS (mN (rcM N t) (N 9 9 0)) s2 := by rw [← rc_n N t, mN_id]
theorem N9 {M : sv_Mem} {cs : Nat → Nat} {o t : Nat} {T2 : sv_T} : rcY (sT (rmM M o t cs) 0 T2) o t 9 = M 9 := by rw [rcY_i _ _ _ (by omega), sT_ne _ _ (by omega)]; exact sT_ne _ _ (by omega)
theorem R9 {M : sv_Mem} {cs : Nat → Nat} {o t : Nat} : rmM M o t cs 9 = M 9 := sT_ne _ _ (by omega)
theorem inR_ex {v : Int32} {m : Nat} (hm : m < 2 ^ 31) (h : inR v (nI 0) (nI m)) : ∃ q, q ≤ m ∧ v = nI q := nI_of2 (M := nI m) (nI_toInt hm) h.1 (Int32.not_lt.mp h.2)
/-- the answers of whyImpossible -/
theorem why_x {G : sv_G} {M : sv_Mem} {v a b : Int32} (hv : ¬ inR v (nI 0) (nI 2)) : sv_Ct G M_X1_whyImpossible 1 [.ref (sv_ad G 10 0 0), .int v, .int a, .int b] M (some (.int (-1))) M := c_X1_whyImpossible_x hv
theorem why_ab {G : sv_G} {M : sv_Mem} {q c : Nat} {a b : Prop} [Decidable a] [Decidable b] {e : Int32} (hq : q < 3) (hc : M 0 14 q 0 = nI c) (hc2 : c ≤ 13) (he : (if a then (if b then (if c ≠ 0 then nI 0 else -4) else -2) else -1) = e) : sv_Ct G M_X1_whyImpossible 1 [.ref (sv_ad G 10 0 0), .int (nI q), .int (bI a), .int (bI b)] M (some (.int e)) M := he ▸ c_X1_whyImpossible (i := 0) (by decide) hq hc (by omega)
theorem why_tb {G : sv_G} {M : sv_Mem} {q c : Nat} {b : Prop} [Decidable b] {e : Int32} (hq : q < 3) (hc : M 0 14 q 0 = nI c) (hc2 : c ≤ 13) (he : (if b then (if c ≠ 0 then nI 0 else -4) else -2) = e) : sv_Ct G M_X1_whyImpossible 1 [.ref (sv_ad G 10 0 0), .int (nI q), .int (nI 1), .int (bI b)] M (some (.int e)) M := by
  have := why_ab (G := G) (M := M) (a := True) (b := b) (e := e) hq hc hc2 (by rw [if_pos trivial]; exact he)
  rw [bI_t trivial] at this
  exact this
theorem why_at {G : sv_G} {M : sv_Mem} {q c : Nat} {a : Prop} [Decidable a] {e : Int32} (hq : q < 3) (hc : M 0 14 q 0 = nI c) (hc2 : c ≤ 13) (he : (if a then (if c ≠ 0 then nI 0 else -4) else -1) = e) : sv_Ct G M_X1_whyImpossible 1 [.ref (sv_ad G 10 0 0), .int (nI q), .int (bI a), .int (nI 1)] M (some (.int e)) M := by
  have := why_ab (G := G) (M := M) (a := a) (b := True) (e := e) hq hc hc2 (by rw [if_pos trivial]; exact he)
  rw [bI_t (b := True) trivial] at this
  exact this
theorem why_tt {G : sv_G} {M : sv_Mem} {q c : Nat} {e : Int32} (hq : q < 3) (hc : M 0 14 q 0 = nI c) (hc2 : c ≤ 13) (he : (if c ≠ 0 then nI 0 else -4) = e) : sv_Ct G M_X1_whyImpossible 1 [.ref (sv_ad G 10 0 0), .int (nI q), .int (nI 1), .int (nI 1)] M (some (.int e)) M := by
  have := why_tb (G := G) (M := M) (b := True) (e := e) hq hc hc2 (by rw [if_pos trivial]; exact he)
  rw [bI_t (b := True) trivial] at this
  exact this
theorem nrR_congr {f g : Nat → Int32} {nm : Int32} : ∀ {c : Nat}, (∀ p, p < c → f p = g p) → nrR f nm c = nrR g nm c
  | 0, _ => rfl
  | c + 1, h => by
    unfold nrR
    rw [h c (by omega), nrR_congr (fun p hp => h p (by omega))]
theorem nrR_or (f : Nat → Int32) (nm : Int32) : ∀ (c : Nat), nrR f nm c = -5 ∨ ∃ p, p < c ∧ nrR f nm c = nI p
  | 0 => Or.inl rfl
  | c + 1 => by
    unfold nrR
    by_cases h : f c = nm
    · rw [if_pos h]
      exact Or.inr ⟨c, by omega, rfl⟩
    · rw [if_neg h]
      rcases nrR_or f nm c with z | ⟨p, z1, z2⟩
      · exact Or.inl z
      · exact Or.inr ⟨p, by omega, z2⟩
theorem er_c : isEr (-1) ∧ isEr (-2) ∧ isEr (-3) ∧ isEr (-4) := by decide
theorem ne_c : (-1 : Int32) ≠ 0 ∧ (-2 : Int32) ≠ 0 ∧ (-3 : Int32) ≠ 0 ∧ (-4 : Int32) ≠ 0 := by decide
