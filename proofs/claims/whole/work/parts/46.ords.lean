/-! one order of a script: both carry it out alike -/
def Fld (N : sv_Mem) (f : Nat → Int32) : Prop := N 9 4 0 9 = f 9 ∧ N 9 4 0 10 = f 10 ∧ N 9 4 0 11 = f 11 ∧ N 9 4 0 12 = f 12
def OrdC (G : sv_G) (x : Nat → Int32) (n p : Nat) (T T2 : sv_T) (r : Int32) : Prop := ∀ N : sv_Mem, N 0 = T → TC N x n → sv_Ct G M_X3_performOrder 5 [.ref (sv_ad G 0 8 0), .int (nI p)] N (some (.int r)) (sT N 0 T2)
def OrdE (G : sv_G) (s f : Nat → Int32) (e : Int32) : Prop := ∀ N : sv_Mem, N 9 5 0 = s → Fld N f → sv_Ct G M_X4_errorOfOrder 3 [.ref (sv_ad G 4 9 0)] N (some (.int e)) N
def OrdR (G : sv_G) (s nn f : Nat → Int32) (r : Int32) (s2 n2 : Nat → Int32) : Prop := ∀ N : sv_Mem, N 9 5 0 = s → N 9 9 0 = nn → Fld N f → sv_Ct G M_X4_carryOut 4 [.ref (sv_ad G 4 9 0)] N (some (.int r)) (mS (mN N n2) s2)
def OrdQ (G : sv_G) (x : Nat → Int32) (n p : Nat) (f : Nat → Int32) (T : sv_T) (s nn : Nat → Int32) : Prop := ∃ (r : Int32) (T2 : sv_T) (s2 : Nat → Int32) (cs2 : Nat → Nat) (n2 : Nat → Int32), RR T2 s2 cs2 ∧ OrdC G x n p T T2 r ∧ r ≠ -7 ∧ ((isEr r ∧ T2 = T ∧ s2 = s ∧ ∃ e, e < 0 ∧ OrdE G s f e) ∨ (¬ isEr r ∧ OrdE G s f (nI 0) ∧ OrdR G s nn f r s2 n2))
theorem rnL_num {x : Nat → Int32} {n most : Nat} : ∀ {c p v p2 v2 : Nat}, rnL x n most c p v = (p2, v2) → p ≤ p2 ∧ (∀ i, p ≤ i → i < p2 → inR (x i) (nI 48) (nI 57)) ∧ v2 = nuN x (p2 - p) p v
  | 0, p, v, p2, v2, h => by
    cases h
    exact ⟨Nat.le_refl _, fun i h1 h2 => by omega, by rw [Nat.sub_self]; rfl⟩
  | c + 1, p, v, p2, v2, h => by
    by_cases z : 0 < v ∧ dgt x n p ∧ 10 * v + dg (x p) ≤ most
    · have e : rnL x n most (c + 1) p v = rnL x n most c (p + 1) (10 * v + dg (x p)) := if_pos z
      rw [e] at h
      obtain ⟨a1, a2, a3⟩ := rnL_num h
      refine ⟨by omega, fun i h1 h2 => ?_, ?_⟩
      · by_cases e2 : i = p
        · rw [e2]; exact z.2.1.2
        · exact a2 i (by omega) h2
      · rw [a3, show p2 - p = (p2 - (p + 1)) + 1 by omega]
        rfl
    · have e : rnL x n most (c + 1) p v = (p, v) := if_neg z
      rw [e] at h
      cases h
      exact ⟨Nat.le_refl _, fun i h1 h2 => by omega, by rw [Nat.sub_self]; rfl⟩
theorem eoN_eq {x : Nat → Int32} {p2 n : Nat} (hn : p2 = n ∨ ¬ inR (x p2) (nI 48) (nI 57)) : ∀ (c p : Nat), p + c = n → p ≤ p2 → p2 ≤ n → (∀ i, p ≤ i → i < p2 → inR (x i) (nI 48) (nI 57)) → eoN x c p = p2
  | 0, p, h, h1, h2, _ => by
    show p = p2
    omega
  | c + 1, p, h, h1, h2, hd => by
    unfold eoN
    by_cases e : p = p2
    · rw [if_neg (by rw [e]; exact hn.resolve_left (by omega)), e]
    · rw [if_pos (hd p (Nat.le_refl _) (by omega))]
      exact eoN_eq hn c (p + 1) (by omega) (by omega) h2 (fun i g1 g2 => hd i (by omega) g2)
theorem num_rel {x : Nat → Int32} {n most p p2 v : Nat} (hd : dgt x n p) (hE : rnE x n most p = (p2, v)) (h2 : p2 ≤ n) (hn : p2 = n ∨ ¬ inR (x p2) (nI 48) (nI 57)) : eoR x n p = p2 ∧ nuR x n p = v ∧ p < p2 ∧ ∀ i, p ≤ i → i < p2 → inR (x i) (nI 48) (nI 57) := by
  unfold rnE at hE
  obtain ⟨a1, a2, a3⟩ := rnL_num hE
  have hall : ∀ i, p ≤ i → i < p2 → inR (x i) (nI 48) (nI 57) := fun i g1 g2 => by
    by_cases e : i = p
    · rw [e]; exact hd.2
    · exact a2 i (by omega) g2
  have e : eoR x n p = p2 := eoN_eq hn (n - p) p (by have := hd.1; omega) (by omega) h2 hall
  refine ⟨e, ?_, by omega, hall⟩
  unfold nuR
  rw [e, a3, show p2 - p = (p2 - (p + 1)) + 1 by omega]
  show nuN x (p2 - (p + 1)) (p + 1) (10 * 0 + dg (x p)) = _
  rw [Nat.mul_zero, Nat.zero_add]
theorem sub_ex {c a b : Int32} {i j : Nat} (ha : a = nI i) (hb : b = nI (i + j)) (hj : i + j < 2 ^ 31) (h : inR c a b) : ∃ q, q ≤ j ∧ c = nI (i + q) ∧ c - a = nI q := by
  subst ha hb
  obtain ⟨k, hk, rfl⟩ := nI_of2 (M := nI (i + j)) (nI_toInt hj) (fun z => h.1 (Int32.lt_of_lt_of_le z (nI_pos' (by omega)))) (Int32.not_lt.mp h.2)
  have hki : i ≤ k := by
    rcases Nat.lt_or_ge k i with z | z
    · exact absurd (nI_lt z (by omega)) h.1
    · exact z
  exact ⟨k - i, by omega, by congr 1; omega, pk_sub hki⟩
theorem n59 : ¬ inR (nI 59) (nI 48) (nI 57) ∧ ¬ inR (nI 61) (nI 48) (nI 57) ∧ ¬ inR (nI 59) (nI 48) (nI 50) ∧ ¬ inR (nI 59) (nI 97) (nI 104) := by decide
/-- no ';' stands inside an order -/
theorem okO_59 {x : Nat → Int32} {n p p2 : Nat} {f : Nat → Int32} (h : okO x n p p2 f) (hend : p2 = n ∨ x p2 = nI 59) : ∀ i, p ≤ i → i < p2 → x i ≠ nI 59 := by
  have hnd : p2 = n ∨ ¬ inR (x p2) (nI 48) (nI 57) := hend.imp id (fun z => by rw [z]; exact n59.1)
  have h2n := (okO_ff h).2.1
  obtain ⟨h1, h2, -, -, h⟩ := h
  have dig : ∀ c : Int32, inR c (nI 48) (nI 57) → c ≠ nI 59 := fun c hc e => n59.1 (e ▸ hc)
  have x0 : x p ≠ nI 59 := fun e => n59.2.2.1 (e ▸ h1.2)
  have hL : x (p + 1) ≠ nI 59 := by
    rcases h with ⟨hL, -⟩ | ⟨hL, -⟩ | ⟨hL, -⟩ | ⟨hL, -⟩
    · intro e; rw [e] at hL; exact absurd hL (by decide)
    · intro e; rw [e] at hL; exact absurd hL (by decide)
    · intro e; rw [e] at hL; exact absurd hL (by decide)
    · intro e; rw [e] at hL; exact absurd hL (by decide)
  intro i g1 g2
  rcases (show i = p ∨ i = p + 1 ∨ p + 2 ≤ i by omega) with rfl | rfl | g3
  · exact x0
  · exact hL
  · rcases h with ⟨-, rfl⟩ | ⟨-, h3, -, rfl⟩ | ⟨-, h3, v, hE, -⟩ | ⟨-, h3, p3, v3, v, hE, h4, h5, hE2, -, -⟩
    · omega
    · have e : i = p + 2 := by omega
      subst e
      exact fun e => n59.2.2.2 (e ▸ h3.2)
    · exact dig _ ((num_rel h3 hE h2n hnd).2.2.2 i g3 g2)
    · have e61 := inR_11 h4.2
      obtain ⟨-, -, b3, b4⟩ := num_rel h3 hE (by have := h4.1; omega) (Or.inr (by rw [e61]; exact n59.2.1))
      obtain ⟨-, -, c3, c4⟩ := num_rel h5 hE2 h2n hnd
      rcases (show i < p3 ∨ i = p3 ∨ p3 + 1 ≤ i by omega) with g4 | rfl | g4
      · exact dig _ (b4 i g3 g4)
      · rw [e61]; decide
      · exact dig _ (c4 i g4 g2)
theorem nI_n7 (n : Nat) (h : n < 2 ^ 31) : nI n ≠ -7 := (nI_n67 n h).2

set_option maxHeartbeats 2000000 in
theorem ord_sim {G : sv_G} {x : Nat → Int32} {n p p2 : Nat} {f : Nat → Int32} {T : sv_T} {s : Nat → Int32} {cs : Nat → Nat} (hok : okO x n p p2 f) (hend : p2 = n ∨ x p2 = nI 59) (h : RR T s cs) (nn : Nat → Int32) : OrdQ G x n p f T s nn := by
  have hnd : p2 = n ∨ ¬ inR (x p2) (nI 48) (nI 57) := hend.imp id (fun z => by rw [z]; exact n59.1)
  have h2n := (okO_ff hok).2.1
  obtain ⟨h1, hp1, f9, f10, hk⟩ := hok
  obtain ⟨q, hq, hx, hxq⟩ := sub_ex (i := 48) (j := 2) rfl rfl (by omega) h1.2
  have hq3 : q < 3 := by omega
  have hs := h.2.2.2 q hq3
  have hc : T 14 q 0 = nI (cs q) := hs.2.1
  have hc13 := hs.1
  have hmq0 : s (27 + q) = nI (cs q - 1) := hs.2.2.2.1
  rw [hxq] at f9
  have FE : ∀ N, Fld N f → N 9 4 0 9 = nI q := fun N hF => hF.1.trans f9
  have FL : ∀ N c, Fld N f → x (p + 1) = nI c → N 9 4 0 10 = nI c := fun N c hF hL => hF.2.1.trans (f10.trans hL)
  have ne7 : (-4 : Int32) ≠ -7 ∧ (-3 : Int32) ≠ -7 := by decide
  have mNs : ∀ (N : sv_Mem) (s3 : Nat → Int32), mS N s3 = mS (mN N (N 9 9 0)) s3 := fun N s3 => by rw [mN_id]
  rcases hk with ⟨hLm, -⟩ | ⟨hLm, h3, f11, -⟩ | ⟨hLm, h3, v, hE, f11⟩ | ⟨hLm, h3, p3, v3, v, hE, h4, h5, hE2, f11, f12⟩
  · simp only [List.mem_cons, List.not_mem_nil, or_false] at hLm
    rcases hLm with hL | hL | hL
    · by_cases hz : cs q = 0
      · obtain ⟨hR, hret⟩ := open_sim h hq3 hz
        exact ⟨nI (cnt (fun j => va_up cs q 1 j ≠ 0) 3), aM T q 0, bgF s q, va_up cs q 1, nn, hR, (fun N h0 hT => c_X3_performOrder_98 hT hp1 hL (by rw [hxq]; exact opS_open_y hq3 (RR_cs h).1 (by rw [hc, hz]) N h0)), nI_n7 _ (by have := cnt_le (fun j => va_up cs q 1 j ≠ 0) 3; omega), Or.inr ⟨er_n _ (by have := cnt_le (fun j => va_up cs q 1 j ≠ 0) 3; omega), (fun N hs5 hF => by
          have z := c_X4_errorOfOrder_98 (G := G) (M := N) (FE N hF) hq3 (FL N 98 hF hL)
          rw [hs5, if_neg (ses_c hs hz).2] at z
          exact z), (fun N hs5 hn5 hF => by
          have z := c_X4_carryOut_98 (G := G) (M := N)  (FE N hF) hq3 (FL N 98 hF hL)
          rw [mNs, hs5, hn5, ← hret] at z
          exact z)⟩⟩
      · obtain ⟨mq, hm, hm12, ho, hmq⟩ := ses_o hs hz
        exact ⟨-4, T, s, cs, nn, h, (fun N h0 hT => c_X3_performOrder_98 hT hp1 hL (by rw [hxq]; exact opS_open_n hq3 hc hc13 hz N h0)), ne7.1, Or.inl ⟨er_c.2.2.2, rfl, rfl, -4, by decide, (fun N hs5 hF => by
          have z := c_X4_errorOfOrder_98 (G := G) (M := N) (FE N hF) hq3 (FL N 98 hF hL)
          rw [hs5, if_pos ho] at z
          exact z)⟩⟩
    · by_cases hz : cs q = 0
      · exact ⟨-4, T, s, cs, nn, h, (fun N h0 hT => c_X3_performOrder_99 hT hp1 hL (by rw [hxq]; exact opS_commit_n hq3 hc hc13 hz N h0)), ne7.1, Or.inl ⟨er_c.2.2.2, rfl, rfl, -4, by decide, (fun N hs5 hF => by
          have z := c_X4_errorOfOrder_99 (G := G) (M := N) (FE N hF) hq3 (FL N 99 hF hL)
          rw [hs5, if_neg (ses_c hs hz).2] at z
          exact z)⟩⟩
      · obtain ⟨mq, hm, hm12, ho, hmq⟩ := ses_o hs hz
        have hc1 : T 14 q 0 = nI (mq + 1) := by rw [hc, hm]
        obtain ⟨hR, hret⟩ := commit_sim h hq3 hm
        exact ⟨nI (cnt (difP T q 0 (mq + 1)) 16), inc (clT T q) 0, cmF s q mq, va_up cs q 0, nn, hR, (fun N h0 hT => c_X3_performOrder_99 hT hp1 hL (by rw [hxq]; exact opS_commit_y hq3 hc1 (by omega) (by omega) N h0)), nI_n7 _ (by have := cnt_le (difP T q 0 (mq + 1)) 16; omega), Or.inr ⟨er_n _ (by have := cnt_le (difP T q 0 (mq + 1)) 16; omega), (fun N hs5 hF => by
          have z := c_X4_errorOfOrder_99 (G := G) (M := N) (FE N hF) hq3 (FL N 99 hF hL)
          rw [hs5, if_pos ho] at z
          exact z), (fun N hs5 hn5 hF => by
          have z := c_X4_carryOut_99 (G := G) (M := N) (mq := mq) (by rw [hs5]; exact hmq) hm12 (FE N hF) hq3 (FL N 99 hF hL)
          rw [mNs, hs5, hn5, ← hret] at z
          exact z)⟩⟩
    · by_cases hz : cs q = 0
      · exact ⟨-4, T, s, cs, nn, h, (fun N h0 hT => c_X3_performOrder_114 hT hp1 hL (by rw [hxq]; exact opS_roll_n hq3 hc hc13 hz N h0)), ne7.1, Or.inl ⟨er_c.2.2.2, rfl, rfl, -4, by decide, (fun N hs5 hF => by
          have z := c_X4_errorOfOrder_114 (G := G) (M := N) (FE N hF) hq3 (FL N 114 hF hL)
          rw [hs5, if_neg (ses_c hs hz).2] at z
          exact z)⟩⟩
      · obtain ⟨mq, hm, hm12, ho, hmq⟩ := ses_o hs hz
        have hc1 : T 14 q 0 = nI (mq + 1) := by rw [hc, hm]
        obtain ⟨hR, hret⟩ := roll_sim h hq3 hm
        exact ⟨nI (cnt (difP T q 0 (mq + 1)) 16), inc (clT (unT T q 0 (mq + 1)) q) 1, rbF s q mq, va_up cs q 0, nn, hR, (fun N h0 hT => c_X3_performOrder_114 hT hp1 hL (by rw [hxq]; exact opS_roll_y hq3 hc1 (by omega) (by omega) N h0)), nI_n7 _ (by have := cnt_le (difP T q 0 (mq + 1)) 16; omega), Or.inr ⟨er_n _ (by have := cnt_le (difP T q 0 (mq + 1)) 16; omega), (fun N hs5 hF => by
          have z := c_X4_errorOfOrder_114 (G := G) (M := N) (FE N hF) hq3 (FL N 114 hF hL)
          rw [hs5, if_pos ho] at z
          exact z), (fun N hs5 hn5 hF => by
          have z := c_X4_carryOut_114 (G := G) (M := N) (mq := mq) (by rw [hs5]; exact hmq) hm12 (FE N hF) hq3 (FL N 114 hF hL)
          rw [mNs, hs5, hn5, ← hret] at z
          exact z)⟩⟩
  · obtain ⟨a, ha, ha1, ha2⟩ := sub_ex (i := 97) (j := 7) rfl rfl (by omega) h3.2
    rw [ha2] at f11
    have hn : inR (nI a) (nI 0) (nI 7) := inR_lt ha (by omega)
    have F11 : ∀ N, Fld N f → N 9 4 0 11 = nI a := fun N hF => hF.2.2.1.trans f11
    simp only [List.mem_cons, List.not_mem_nil, or_false] at hLm
    rcases hLm with hL | hL | hL
    · by_cases hz : cs q = 0
      · exact ⟨-4, T, s, cs, nn, h, (fun N h0 hT => c_X3_performOrder_115 hT hp1 hL h3.1 (by rw [hxq, ha2]; exact opS_save_n hq3 hc hc13 hn hz N h0)), ne7.1, Or.inl ⟨er_c.2.2.2, rfl, rfl, -4, by decide, (fun N hs5 hF => by
          have z := c_X4_errorOfOrder_115 (G := G) (M := N) (nm := nI a) (FE N hF) hq3 (FL N 115 hF hL) (F11 N hF)
          rw [hs5, spE_n hn (ses_c hs hz).2] at z
          exact z)⟩⟩
      · obtain ⟨mq, hm, hm12, ho, hmq⟩ := ses_o hs hz
        have hc1 : T 14 q 0 = nI (mq + 1) := by rw [hc, hm]
        by_cases h12 : mq = 12
        · subst h12
          exact ⟨-3, T, s, cs, nn, h, (fun N h0 hT => c_X3_performOrder_115 hT hp1 hL h3.1 (by rw [hxq, ha2]; exact opS_save_f hq3 hc1 hn N h0)), ne7.2, Or.inl ⟨er_c.2.2.1, rfl, rfl, -3, by decide, (fun N hs5 hF => by
            have z := c_X4_errorOfOrder_115 (G := G) (M := N) (nm := nI a) (FE N hF) hq3 (FL N 115 hF hL) (F11 N hF)
            rw [hs5, spE_f hn ho hmq] at z
            exact z)⟩⟩
        · have h12b : ¬ s (27 + q) = nI 12 := fun z => h12 ((nI_eq (by omega) (by omega)).mp (hmq.symm.trans z))
          exact ⟨nI mq, inc (aM (tu T 16 q mq (nI a)) q (mq + 1)) 6, spF s q mq (nI a), va_up cs q (mq + 2), nn, save_sim (nm := nI a) h hq3 hm (by omega), (fun N h0 hT => c_X3_performOrder_115 hT hp1 hL h3.1 (by rw [hxq, ha2]; exact opS_save_y hq3 hc1 (by omega) hn N h0)), nI_n7 _ (by omega), Or.inr ⟨er_n _ (by omega), (fun N hs5 hF => by
            have z := c_X4_errorOfOrder_115 (G := G) (M := N) (nm := nI a) (FE N hF) hq3 (FL N 115 hF hL) (F11 N hF)
            rw [hs5, spE_y hn ho h12b] at z
            exact z), (fun N hs5 hn5 hF => by
            have z := c_X4_carryOut_115 (G := G) (M := N) (mq := mq) (nm := nI a) (by rw [hs5]; exact hmq) hm12 h12 (F11 N hF) (FE N hF) hq3 (FL N 115 hF hL)
            rw [mNs, hs5, hn5] at z
            exact z)⟩⟩
    · by_cases hz : cs q = 0
      · exact ⟨-4, T, s, cs, nn, h, (fun N h0 hT => c_X3_performOrder_117 hT hp1 hL h3.1 (by rw [hxq, ha2]; exact opS_undo_e (by decide) (spo_n hq3 hc hc13 hn hz) N h0)), ne7.1, Or.inl ⟨er_c.2.2.2, rfl, rfl, -4, by decide, (fun N hs5 hF => by
          have z := c_X4_errorOfOrder_117 (G := G) (M := N) (mq := cs q - 1) (nm := nI a) (by rw [hs5]; exact hmq0) (by omega) (FE N hF) hq3 (FL N 117 hF hL) (F11 N hF)
          rw [hs5, nmE_n hn (ses_c hs hz).2] at z
          exact z)⟩⟩
      · obtain ⟨mq, hm, hm12, ho, hmq⟩ := ses_o hs hz
        have hc1 : T 14 q 0 = nI (mq + 1) := by rw [hc, hm]
        have hs1 : sesB T s q (mq + 1) := hm ▸ hs
        have hnr := nm_rel (nm := nI a) hs1
        rcases nrR_or (T 16 q) (nI a) mq with hp | ⟨pp, hpl, hp⟩
        · exact ⟨-4, T, s, cs, nn, h, (fun N h0 hT => c_X3_performOrder_117 hT hp1 hL h3.1 (by rw [hxq, ha2]; exact opS_undo_e (by decide) (spo_0 hq3 hc1 (by omega) hn (by omega) hp) N h0)), ne7.1, Or.inl ⟨er_c.2.2.2, rfl, rfl, -4, by decide, (fun N hs5 hF => by
            have z := c_X4_errorOfOrder_117 (G := G) (M := N) (mq := mq) (nm := nI a) (by rw [hs5]; exact hmq) hm12 (FE N hF) hq3 (FL N 117 hF hL) (F11 N hF)
            rw [hs5, nmE_0 hn (hnr.symm.trans hp)] at z
            exact z)⟩⟩
        · have hp9 := hnr.symm.trans hp
          have hS := spo_y (G := G) (T := T) (p := pp) hq3 hc1 (by omega) hn (by omega) hp (by omega)
          obtain ⟨hR, hret⟩ := undo_sim h hq3 hm (m := pp + 1) (by omega)
          exact ⟨nI (cnt (difP T q (pp + 1) (mq + 1)) 16), inc (drT (unT T q (pp + 1) (mq + 1)) q (pp + 1) (mq + 1)) 5, utF s q (pp + 1) mq, va_up cs q (pp + 1 + 1), nn, hR, (fun N h0 hT => c_X3_performOrder_117 hT hp1 hL h3.1 (by rw [hxq, ha2]; exact opS_undo_y hq3 hc1 (by omega) (by omega) hS N h0)), nI_n7 _ (by have := cnt_le (difP T q (pp + 1) (mq + 1)) 16; omega), Or.inr ⟨er_n _ (by have := cnt_le (difP T q (pp + 1) (mq + 1)) 16; omega), (fun N hs5 hF => by
            have z := c_X4_errorOfOrder_117 (G := G) (M := N) (mq := mq) (nm := nI a) (by rw [hs5]; exact hmq) hm12 (FE N hF) hq3 (FL N 117 hF hL) (F11 N hF)
            rw [hs5, nmE_y hn ho hp9 (by omega)] at z
            exact z), (fun N hs5 hn5 hF => by
            have z := c_X4_carryOut_117 (G := G) (M := N) (mq := mq) (p := pp) (nm := nI a) (by rw [hs5]; exact hmq) hm12 (by rw [hs5]; exact hp9) hpl (F11 N hF) (FE N hF) hq3 (FL N 117 hF hL)
            rw [mNs, hs5, hn5, ← hret] at z
            exact z)⟩⟩
    · by_cases hz : cs q = 0
      · exact ⟨-4, T, s, cs, nn, h, (fun N h0 hT => c_X3_performOrder_100 hT hp1 hL h3.1 (by rw [hxq, ha2]; exact opS_rel_e (by decide) (spo_n hq3 hc hc13 hn hz) N h0)), ne7.1, Or.inl ⟨er_c.2.2.2, rfl, rfl, -4, by decide, (fun N hs5 hF => by
          have z := c_X4_errorOfOrder_100 (G := G) (M := N) (mq := cs q - 1) (nm := nI a) (by rw [hs5]; exact hmq0) (by omega) (FE N hF) hq3 (FL N 100 hF hL) (F11 N hF)
          rw [hs5, nmE_n hn (ses_c hs hz).2] at z
          exact z)⟩⟩
      · obtain ⟨mq, hm, hm12, ho, hmq⟩ := ses_o hs hz
        have hc1 : T 14 q 0 = nI (mq + 1) := by rw [hc, hm]
        have hs1 : sesB T s q (mq + 1) := hm ▸ hs
        have hnr := nm_rel (nm := nI a) hs1
        rcases nrR_or (T 16 q) (nI a) mq with hp | ⟨pp, hpl, hp⟩
        · exact ⟨-4, T, s, cs, nn, h, (fun N h0 hT => c_X3_performOrder_100 hT hp1 hL h3.1 (by rw [hxq, ha2]; exact opS_rel_e (by decide) (spo_0 hq3 hc1 (by omega) hn (by omega) hp) N h0)), ne7.1, Or.inl ⟨er_c.2.2.2, rfl, rfl, -4, by decide, (fun N hs5 hF => by
            have z := c_X4_errorOfOrder_100 (G := G) (M := N) (mq := mq) (nm := nI a) (by rw [hs5]; exact hmq) hm12 (FE N hF) hq3 (FL N 100 hF hL) (F11 N hF)
            rw [hs5, nmE_0 hn (hnr.symm.trans hp)] at z
            exact z)⟩⟩
        · have hp9 := hnr.symm.trans hp
          have hS := spo_y (G := G) (T := T) (p := pp) hq3 hc1 (by omega) hn (by omega) hp (by omega)
          exact ⟨nI (mq + 1 - 1 - pp), drT T q pp (mq + 1), rlF s q pp mq, va_up cs q (pp + 1), nn, rel_sim h hq3 hm (p := pp) (by omega), (fun N h0 hT => c_X3_performOrder_100 hT hp1 hL h3.1 (by rw [hxq, ha2]; exact opS_rel_y hq3 hc1 (by omega) (by omega) hS N h0)), nI_n7 _ (by omega), Or.inr ⟨er_n _ (by omega), (fun N hs5 hF => by
            have z := c_X4_errorOfOrder_100 (G := G) (M := N) (mq := mq) (nm := nI a) (by rw [hs5]; exact hmq) hm12 (FE N hF) hq3 (FL N 100 hF hL) (F11 N hF)
            rw [hs5, nmE_y hn ho hp9 (by omega)] at z
            exact z), (fun N hs5 hn5 hF => by
            have z := c_X4_carryOut_100 (G := G) (M := N) (mq := mq) (p := pp) (nm := nI a) (by rw [hs5]; exact hmq) hm12 (by rw [hs5]; exact hp9) hpl (F11 N hF) (FE N hF) hq3 (FL N 100 hF hL)
            rw [mNs, hs5, hn5] at z
            exact z)⟩⟩
  · obtain ⟨e1, e2, -, -⟩ := num_rel h3 hE h2n hnd
    have hv15 : v ≤ 15 := by have := (rnE_le (most := 15) h3 (by omega)).2.2; rw [hE] at this; exact this
    have hv16 : v < 16 := by omega
    have F11 : ∀ N, Fld N f → N 9 4 0 11 = nI v := fun N hF => hF.2.2.1.trans f11
    simp only [List.mem_cons, List.not_mem_nil, or_false] at hLm
    rcases hLm with hL | hL
    · by_cases hz : cs q = 0
      · exact ⟨-4, T, s, cs, nn, h, (fun N h0 hT => c_X3_performOrder_101 hT hp1 hL (by have := h3.1; omega) (by rw [hxq, e2]; exact opS_erase_n hq3 hc hc13 hv16 hz N h0)), ne7.1, Or.inl ⟨er_c.2.2.2, rfl, rfl, -4, by decide, (fun N hs5 hF => by
          have z := c_X4_errorOfOrder_101 (G := G) (M := N) (FE N hF) hq3 (FL N 101 hF hL)
          rw [hs5, if_neg (ses_c hs hz).2] at z
          exact z)⟩⟩
      · obtain ⟨mq, hm, hm12, ho, hmq⟩ := ses_o hs hz
        have hc1 : T 14 q 0 = nI (mq + 1) := by rw [hc, hm]
        obtain ⟨hR, hret, her⟩ := write_sim (v := -1) (n := nn) (k := v) h hq3 hv16 hm vok_c
        have hr7 : rvC (bsT T q mq) q v ≠ -7 := by rw [hret]; split; decide; exact (outs_ok (h.2.1 v hv16).2).2.1
        exact ⟨rvC (bsT T q mq) q v, enT (rvT (bsT T q mq) q v (mq + 1) (-5)) q mq (rvC (bsT T q mq) q v), dwS s (fg1 nn 0) q v mq (-1), cs, dwN s (fg1 nn 0) q v, by rw [show (-5 : Int32) = outs (-1) from outs_1.symm]; exact hR, (fun N h0 hT => c_X3_performOrder_101 hT hp1 hL (by have := h3.1; omega) (by rw [hxq, e2]; exact opS_erase_y hq3 hc1 hm12 hv16 N h0)), hr7, Or.inr ⟨her, (fun N hs5 hF => by
          have z := c_X4_errorOfOrder_101 (G := G) (M := N) (FE N hF) hq3 (FL N 101 hF hL)
          rw [hs5, if_pos ho] at z
          exact z), (fun N hs5 hn5 hF => by
          have z := c_X4_carryOut_101 (G := G) (M := N) (mq := mq) (k := v) (by rw [hs5]; exact hmq) hm12 hv16 (F11 N hF) (FE N hF) hq3 (FL N 101 hF hL)
          rw [hs5, hn5, ← hret] at z
          exact z)⟩⟩
    · by_cases hz : cs q = 0
      · exact ⟨-4, T, s, cs, nn, h, (fun N h0 hT => c_X3_performOrder_103 hT hp1 hL (by have := h3.1; omega) (by rw [hxq, e2]; exact opS_read_n hq3 hc hc13 hv16 hz N h0)), ne7.1, Or.inl ⟨er_c.2.2.2, rfl, rfl, -4, by decide, (fun N hs5 hF => by
          have z := c_X4_errorOfOrder_103 (G := G) (M := N) (FE N hF) hq3 (FL N 103 hF hL)
          rw [hs5, if_neg (ses_c hs hz).2] at z
          exact z)⟩⟩
      · obtain ⟨mq, hm, hm12, ho, hmq⟩ := ses_o hs hz
        have hc1 : T 14 q 0 = nI (mq + 1) := by rw [hc, hm]
        obtain ⟨hR, hret, her⟩ := read_sim (n := nn) (k := v) h hq3 hv16 hm
        have hr7 : rdC (bsT T q mq) q v ≠ -7 := by rw [hret]; split; decide; exact (outs_ok (h.2.1 v hv16).2).2.1
        exact ⟨rdC (bsT T q mq) q v, enT (tkT (bsT T q mq) q v (nI 1)) q mq (rdC (bsT T q mq) q v), drS s (fg1 nn 0) q v mq, cs, drN s (fg1 nn 0) q v, hR, (fun N h0 hT => c_X3_performOrder_103 hT hp1 hL (by have := h3.1; omega) (by rw [hxq, e2]; exact opS_read_y hq3 hc1 hm12 hv16 N h0)), hr7, Or.inr ⟨her, (fun N hs5 hF => by
          have z := c_X4_errorOfOrder_103 (G := G) (M := N) (FE N hF) hq3 (FL N 103 hF hL)
          rw [hs5, if_pos ho] at z
          exact z), (fun N hs5 hn5 hF => by
          have z := c_X4_carryOut_103 (G := G) (M := N) (mq := mq) (k := v) (by rw [hs5]; exact hmq) hm12 hv16 (F11 N hF) (FE N hF) hq3 (FL N 103 hF hL)
          rw [hs5, hn5, ← hret] at z
          exact z)⟩⟩
  · have hL := hLm
    have e61 := inR_11 h4.2
    obtain ⟨e1, e2, -, -⟩ := num_rel h3 hE (by have := h4.1; omega) (Or.inr (by rw [e61]; exact n59.2.1))
    obtain ⟨g1, g2, -, -⟩ := num_rel h5 hE2 h2n hnd
    have hv15 : v3 ≤ 15 := by have := (rnE_le (most := 15) h3 (by omega)).2.2; rw [hE] at this; exact this
    have hv9 : v ≤ 9999 := by have := (rnE_le (most := 9999) h5 (by omega)).2.2; rw [hE2] at this; exact this
    have hv16 : v3 < 16 := by omega
    have hu : inR (nI v) (nI 0) (nI 9999) := inR_lt hv9 (by omega)
    have F11 : ∀ N, Fld N f → N 9 4 0 11 = nI v3 := fun N hF => hF.2.2.1.trans f11
    have F12 : ∀ N, Fld N f → N 9 4 0 12 = nI v := fun N hF => hF.2.2.2.trans f12
    by_cases hz : cs q = 0
    · exact ⟨-4, T, s, cs, nn, h, (fun N h0 hT => c_X3_performOrder_119 hT hp1 hL (by have := h3.1; omega) (by rw [e1]; have := h4.1; omega) (by rw [hxq, e2, e1, g2]; exact opS_write_n hq3 hc hc13 hv16 hu hz N h0)), ne7.1, Or.inl ⟨er_c.2.2.2, rfl, rfl, -4, by decide, (fun N hs5 hF => by
        have z := c_X4_errorOfOrder_119 (G := G) (M := N) (FE N hF) hq3 (FL N 119 hF hL)
        rw [hs5, if_neg (ses_c hs hz).2] at z
        exact z)⟩⟩
    · obtain ⟨mq, hm, hm12, ho, hmq⟩ := ses_o hs hz
      have hc1 : T 14 q 0 = nI (mq + 1) := by rw [hc, hm]
      obtain ⟨hR, hret, her⟩ := write_sim (v := nI v) (n := nn) (k := v3) h hq3 hv16 hm (Or.inr hu)
      rw [outs_v hu] at hR
      have hr7 : rvC (bsT T q mq) q v3 ≠ -7 := by rw [hret]; split; decide; exact (outs_ok (h.2.1 v3 hv16).2).2.1
      exact ⟨rvC (bsT T q mq) q v3, enT (rvT (bsT T q mq) q v3 (mq + 1) (nI v)) q mq (rvC (bsT T q mq) q v3), dwS s (fg1 nn 0) q v3 mq (nI v), cs, dwN s (fg1 nn 0) q v3, hR, (fun N h0 hT => c_X3_performOrder_119 hT hp1 hL (by have := h3.1; omega) (by rw [e1]; have := h4.1; omega) (by rw [hxq, e2, e1, g2]; exact opS_write_y hq3 hc1 hm12 hv16 hu N h0)), hr7, Or.inr ⟨her, (fun N hs5 hF => by
        have z := c_X4_errorOfOrder_119 (G := G) (M := N) (FE N hF) hq3 (FL N 119 hF hL)
        rw [hs5, if_pos ho] at z
        exact z), (fun N hs5 hn5 hF => by
        have z := c_X4_carryOut_119 (G := G) (M := N) (mq := mq) (k := v3) (v := nI v) (by rw [hs5]; exact hmq) hm12 hv16 (F11 N hF) (F12 N hF) (FE N hF) hq3 (FL N 119 hF hL)
        rw [hs5, hn5, ← hret] at z
        exact z)⟩⟩
