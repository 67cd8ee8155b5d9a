theorem M0_T {i k j n : Nat} (h1 : k ≠ 11) (h2 : k ≠ 5) : sv_M0 i k j n = nI 0 := by rw [sv_M0_0 h1 h2]; rfl
theorem M0_v {k : Nat} (h : k < 16) : sv_M0 0 11 0 k = -5 := by
  rw [sv_M0_11]
  exact if_pos h
theorem M0_s {k : Nat} (h : k < 16) : sv_M0 9 5 0 (8 + k) = -1 := by
  rw [sv_M0_5]
  exact if_pos (by omega)
theorem M0_z {a : Nat} (h : ¬ (8 ≤ a ∧ a < 24)) : sv_M0 9 5 0 a = nI 0 := by
  rw [sv_M0_5]
  exact if_neg h
theorem RR_0 : RR (sv_M0 0) (sv_M0 9 5 0) (fun _ => 0) := by
  refine ⟨⟨?_, ?_⟩, fun k hk => ⟨?_, ?_⟩, fun w hw => ?_, fun q hq => ⟨Nat.zero_le _, ?_, ?_, ?_, ?_, ?_, ?_, ?_, ?_⟩⟩
  · rw [M0_T (by decide) (by decide), M0_z (by omega)]
  · exact Or.inl (M0_z (by omega))
  · rw [M0_v hk, M0_s hk]; decide
  · rw [M0_s hk]; exact Or.inl rfl
  · rw [M0_T (by decide) (by decide), M0_z (by omega)]
  · exact M0_T (by decide) (by decide)
  · rw [if_pos rfl]; exact M0_z (by omega)
  · exact M0_z (by omega)
  · rw [M0_T (by decide) (by decide), M0_z (by omega)]
  · exact fun _ => M0_z (by omega)
  · intro p hp; exact absurd hp (Nat.not_lt_zero _)
  · intro r hr; exact absurd hr (Nat.not_lt_zero _)
  · intro r _ hr
    exact ⟨M0_z (by unfold rAt; omega), M0_z (by unfold rAt; omega)⟩
theorem INV_0 : INV sv_M0 := by
  refine ⟨fun _ => 0, 0, 0, 0, RR_0, by omega, by omega, M0_T (by decide) (by decide), M0_T (by decide) (by decide), M0_T (by decide) (by decide), fun u hu => by omega, Or.inl ⟨M0_T (by decide) (by decide), M0_T (by decide) (by decide)⟩, by omega, M0_T (by decide) (by decide), M0_T (by decide) (by decide), ?_, fun i hi => by omega⟩
  rw [sv_M0_0 (by decide) (by decide), sv_M0_0 (by decide) (by decide)]
theorem lw_more {L i : Nat} (hL : L ≤ 2560) (hi : i ≤ 2560) (h : ¬ (nI L - nI 5 < nI i)) : i + 5 ≤ L := by
  by_cases z : i + 5 ≤ L
  · exact z
  · exfalso
    apply h
    rw [Int32.lt_iff_toInt_lt, pk_sub_toInt (by omega) (by omega), nI_toInt (by omega)]
    omega
theorem sv_L_setD {ls ls2 : Array Slot} {nL : Nat} {lo lo2 : List (Option Value)} {w : Value} (h : sv_L ls nL lo) {i : Nat}
    (h2 : lv_has ls2 nL ((i, w) :: (sv_lst lo).filter (fun q => !(q.1 == i) && (!(q.1 == i + 1) && !(q.1 + 1 == i && q.2.category == 2))))) (hi : i < lo.length) (he : (lo.set i (some w)).set (i + 1) none = lo2)
    (hc : ∀ (k : Nat) (v : Value), lo[k]? = some (some v) → v.category = 2 → k + 1 = i → False) : sv_L ls2 nL lo2 := by
  subst he
  refine ⟨h2.1, h2.2.1, by rw [List.length_set, List.length_set]; exact h.2.2.1, fun k v hk => ?_⟩
  by_cases hk1 : k = i + 1
  · subst hk1
    by_cases hl : i + 1 < (lo.set i (some w)).length
    · rw [List.getElem?_set_self hl] at hk
      cases hk
    · rw [List.getElem?_eq_none (by rw [List.length_set]; omega)] at hk
      cases hk
  · rw [List.getElem?_set_ne (fun z => hk1 z.symm)] at hk
    by_cases hki : k = i
    · subst hki
      rw [List.getElem?_set_self hi] at hk
      cases hk
      exact h2.2.2 (k, w) List.mem_cons_self
    · rw [List.getElem?_set_ne (fun z => hki z.symm)] at hk
      refine h2.2.2 (k, v) (List.mem_cons_of_mem _ (List.mem_filter.mpr ⟨sv_lst_mem.mpr hk, ?_⟩))
      simp only [Bool.and_eq_true, Bool.not_eq_true', beq_eq_false_iff_ne, ne_eq, Bool.and_eq_false_iff]
      refine ⟨hki, hk1, ?_⟩
      by_cases hq : k + 1 = i
      · exact Or.inr (fun z => hc k v hk z hq)
      · exact Or.inl hq
section LWR
variable {G : sv_G} {K : sv_K} {cc : ByteArray} {own : String} {nL d : Nat} {M : sv_Mem} {pc : Nat} {lo : List (Option Value)} {rest : List Value}
theorem sw_sld (X : sv_X G K cc own nL d) {b L : Nat} {xs : Nat → Int32} (hX : va_X b L xs (ks K) (kH K)) (hbl : b < (kH K).size) (hbA : ¬ kA K b) {x : Int32} {i : Nat} (hx : x = nI i) (hi : i < L) (hL : L ≤ 5000) (hd : decode cc pc = .ok (.iaload, 1)) (kk : sw_W G K nL (pc + 1) lo (.int (xs i) :: rest) M) : sw_W G K nL pc lo (.int x :: .ref b :: rest) M := by
  intro H locs ls hP hS hl
  obtain ⟨h1, h2⟩ := sv_in hx hi hL
  refine va_sld X.1 X.2.1 hX hbl hbA hS h1 hd ?_
  rw [h2]
  exact kk H locs ls hP hS hl
theorem sw_slen (X : sv_X G K cc own nL d) {b L : Nat} {xs : Nat → Int32} (hX : va_X b L xs (ks K) (kH K)) (hbl : b < (kH K).size) (hbA : ¬ kA K b) (hd : decode cc pc = .ok (.arraylength, 1)) (kk : sw_W G K nL (pc + 1) lo (.int (nI L) :: rest) M) : sw_W G K nL pc lo (.ref b :: rest) M := fun H locs ls hP hS hl => va_slen X.1 X.2.1 hX hbl hbA hS hd (kk H locs ls hP hS hl)
theorem sw_flag (X : sv_X G K cc own nL d) {x : Int32} (h1 : decode cc pc = .ok (.ifCond .eq 7, 3)) (h2 : decode cc (pc + 3) = .ok (.iconst 1, 1)) (h3 : decode cc (pc + 4) = .ok (.goto 4, 3)) (h4 : decode cc (pc + 7) = .ok (.iconst 0, 1)) (kk : sw_W G K nL (pc + 8) lo (.int (bI (¬ x = 0)) :: rest) M) : sw_W G K nL pc lo (.int x :: rest) M := by
  refine sw_if_eq X (pc + 7) h1 (by omega) (fun h => ?_) (fun h => ?_)
  · refine sw_iconst X (nI 0) h4 (by decide) ?_
    rw [bI_f (fun z => z h)] at kk
    exact kk
  · refine sw_iconst X (nI 1) h2 (by decide) ?_
    refine sw_goto X (pc + 8) h3 (by omega) ?_
    rw [bI_t h] at kk
    exact kk
theorem sw_dload (X : sv_X G K cc own nL d) {i : Nat} {x : UInt64} (hl : lo[i]? = some (some (.double x))) (hd : decode cc pc = .ok (.dload i, 2)) (kk : sw_W G K nL (pc + 2) lo (.double x :: rest) M) : sw_W G K nL pc lo rest M := fun H locs ls hP hS hL => lv_dload X.1 X.2.1 hd (hL.2.2.2 i _ hl) (kk H locs ls hP hS hL)
theorem sw_dstore (X : sv_X G K cc own nL d) {i : Nat} {x : UInt64} {lo2 : List (Option Value)} (hi : i + 1 < lo.length) (hc : ∀ (k : Nat) (v : Value), lo[k]? = some (some v) → v.category = 2 → k + 1 = i → False) (he : (lo.set i (some (.double x))).set (i + 1) none = lo2) (hd : decode cc pc = .ok (.dstore i, 2)) (kk : sw_W G K nL (pc + 2) lo2 rest M) : sw_W G K nL pc lo (.double x :: rest) M := fun H locs ls hP hS hL => lv_dstore X.1 X.2.1 hd (sv_L_has hL) (by rw [← hL.2.2.1]; exact hi) rfl (fun ls2 h2 => kk H locs ls2 hP hS (sv_L_setD hL h2 (by omega) he hc))
end LWR
