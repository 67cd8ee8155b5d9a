def roQ (G : sv_G) (M : sv_Mem) (x : Nat → Int32) (n p p2 : Nat) (f : Nat → Int32) : Prop := p2 ≤ n ∧ f 8 = nI p2 ∧ (∀ i, i < 8 → f i = M 9 4 0 i) ∧ f 13 = M 9 4 0 13 ∧ ((okO x n p p2 f ∧ sv_Ct G M_X4_readOrder 4 [.ref (sv_ad G 4 9 0)] M (some (.int (bI True))) (mR M f)) ∨ (ffR x (n - p) p (nI 0) = nI p2 ∧ sv_Ct G M_X4_readOrder 4 [.ref (sv_ad G 4 9 0)] M (some (.int (bI False))) (mR M f)))
theorem ro_t {G : sv_G} {M N : sv_Mem} {x : Nat → Int32} {n p p2 : Nat} (hp : p2 ≤ n) (h8 : N 9 4 0 8 = nI p2) (hi : ∀ i, i < 8 → N 9 4 0 i = M 9 4 0 i) (h13 : N 9 4 0 13 = M 9 4 0 13) (hN : N = mR M (N 9 4 0)) (ho : okO x n p p2 (N 9 4 0)) (hc : sv_Ct G M_X4_readOrder 4 [.ref (sv_ad G 4 9 0)] M (some (.int (bI True))) N) : ∃ (f : Nat → Int32) (p2 : Nat), roQ G M x n p p2 f :=
  ⟨N 9 4 0, p2, hp, h8, hi, h13, Or.inl ⟨ho, hN ▸ hc⟩⟩
theorem ro_f {G : sv_G} {M N : sv_Mem} {x : Nat → Int32} {n p p2 : Nat} (hp : p2 ≤ n) (h8 : N 9 4 0 8 = nI p2) (hi : ∀ i, i < 8 → N 9 4 0 i = M 9 4 0 i) (h13 : N 9 4 0 13 = M 9 4 0 13) (hN : N = mR M (N 9 4 0)) (ho : ffR x (n - p) p (nI 0) = nI p2) (hc : sv_Ct G M_X4_readOrder 4 [.ref (sv_ad G 4 9 0)] M (some (.int (bI False))) N) : ∃ (f : Nat → Int32) (p2 : Nat), roQ G M x n p p2 f :=
  ⟨N 9 4 0, p2, hp, h8, hi, h13, Or.inr ⟨ho, hN ▸ hc⟩⟩

set_option maxHeartbeats 4000000 in
theorem ro_all {G : sv_G} {M : sv_Mem} {x : Nat → Int32} {n p : Nat} (T : TX M x n p) (hpn : p ≤ n) : ∃ (f : Nat → Int32) (p2 : Nat), roQ G M x n p p2 f := by
  have hn80 := T.2.2.1
  by_cases h1 : nx x n p (nI 48) (nI 50)
  · by_cases h2 : p + 1 < n
    ·
      by_cases hL98 : x (p + 1) = nI 98
      · have hL := hL98
        exact ro_t (p2 := p + 2) (by omega) (by simp only [mF_f]; simp [va_up]) (fun i hi => by simp only [mF_f]; simp only [va_up]; repeat rw [if_neg (by omega)]) (by simp only [mF_f]; simp [va_up]) (by simp only [mF_R, mR_f, mR_R]) ⟨h1, h2, (by simp only [mF_f]; simp [va_up]), (by simp only [mF_f]; simp [va_up]; exact hL.symm), Or.inl ⟨by rw [hL]; simp, rfl⟩⟩ (c_X4_readOrder_98 T h1 h2 hL)
      by_cases hL99 : x (p + 1) = nI 99
      · have hL := hL99
        exact ro_t (p2 := p + 2) (by omega) (by simp only [mF_f]; simp [va_up]) (fun i hi => by simp only [mF_f]; simp only [va_up]; repeat rw [if_neg (by omega)]) (by simp only [mF_f]; simp [va_up]) (by simp only [mF_R, mR_f, mR_R]) ⟨h1, h2, (by simp only [mF_f]; simp [va_up]), (by simp only [mF_f]; simp [va_up]; exact hL.symm), Or.inl ⟨by rw [hL]; simp, rfl⟩⟩ (c_X4_readOrder_99 T h1 h2 hL)
      by_cases hL114 : x (p + 1) = nI 114
      · have hL := hL114
        exact ro_t (p2 := p + 2) (by omega) (by simp only [mF_f]; simp [va_up]) (fun i hi => by simp only [mF_f]; simp only [va_up]; repeat rw [if_neg (by omega)]) (by simp only [mF_f]; simp [va_up]) (by simp only [mF_R, mR_f, mR_R]) ⟨h1, h2, (by simp only [mF_f]; simp [va_up]), (by simp only [mF_f]; simp [va_up]; exact hL.symm), Or.inl ⟨by rw [hL]; simp, rfl⟩⟩ (c_X4_readOrder_114 T h1 h2 hL)
      by_cases hL115 : x (p + 1) = nI 115
      · have hL := hL115
        by_cases h3 : nx x n (p + 2) (nI 97) (nI 104)
        · exact ro_t (p2 := p + 3) (by have := h3.1; omega) (by simp only [mF_f]; simp [va_up]) (fun i hi => by simp only [mF_f]; simp only [va_up]; repeat rw [if_neg (by omega)]) (by simp only [mF_f]; simp [va_up]) (by simp only [mF_R, mR_f, mR_R]) ⟨h1, h2, (by simp only [mF_f]; simp [va_up]), (by simp only [mF_f]; simp [va_up]; exact hL.symm), Or.inr (Or.inl ⟨by rw [hL]; simp, h3, (by simp only [mF_f]; simp [va_up]), rfl⟩)⟩ (c_X4_readOrder_115_y T h1 h2 hL h3)
        · exact ro_f (p2 := p + 2) (by omega) (by simp only [mF_f]; simp [va_up]) (fun i hi => by simp only [mF_f]; simp only [va_up]; repeat rw [if_neg (by omega)]) (by simp only [mF_f]; simp [va_up]) (by simp only [mF_R, mR_f, mR_R]) (bad_2 h1 h2 (by rw [hL]; simp) h3) (c_X4_readOrder_115_n T h1 h2 hL h3)
      by_cases hL117 : x (p + 1) = nI 117
      · have hL := hL117
        by_cases h3 : nx x n (p + 2) (nI 97) (nI 104)
        · exact ro_t (p2 := p + 3) (by have := h3.1; omega) (by simp only [mF_f]; simp [va_up]) (fun i hi => by simp only [mF_f]; simp only [va_up]; repeat rw [if_neg (by omega)]) (by simp only [mF_f]; simp [va_up]) (by simp only [mF_R, mR_f, mR_R]) ⟨h1, h2, (by simp only [mF_f]; simp [va_up]), (by simp only [mF_f]; simp [va_up]; exact hL.symm), Or.inr (Or.inl ⟨by rw [hL]; simp, h3, (by simp only [mF_f]; simp [va_up]), rfl⟩)⟩ (c_X4_readOrder_117_y T h1 h2 hL h3)
        · exact ro_f (p2 := p + 2) (by omega) (by simp only [mF_f]; simp [va_up]) (fun i hi => by simp only [mF_f]; simp only [va_up]; repeat rw [if_neg (by omega)]) (by simp only [mF_f]; simp [va_up]) (by simp only [mF_R, mR_f, mR_R]) (bad_2 h1 h2 (by rw [hL]; simp) h3) (c_X4_readOrder_117_n T h1 h2 hL h3)
      by_cases hL100 : x (p + 1) = nI 100
      · have hL := hL100
        by_cases h3 : nx x n (p + 2) (nI 97) (nI 104)
        · exact ro_t (p2 := p + 3) (by have := h3.1; omega) (by simp only [mF_f]; simp [va_up]) (fun i hi => by simp only [mF_f]; simp only [va_up]; repeat rw [if_neg (by omega)]) (by simp only [mF_f]; simp [va_up]) (by simp only [mF_R, mR_f, mR_R]) ⟨h1, h2, (by simp only [mF_f]; simp [va_up]), (by simp only [mF_f]; simp [va_up]; exact hL.symm), Or.inr (Or.inl ⟨by rw [hL]; simp, h3, (by simp only [mF_f]; simp [va_up]), rfl⟩)⟩ (c_X4_readOrder_100_y T h1 h2 hL h3)
        · exact ro_f (p2 := p + 2) (by omega) (by simp only [mF_f]; simp [va_up]) (fun i hi => by simp only [mF_f]; simp only [va_up]; repeat rw [if_neg (by omega)]) (by simp only [mF_f]; simp [va_up]) (by simp only [mF_R, mR_f, mR_R]) (bad_2 h1 h2 (by rw [hL]; simp) h3) (c_X4_readOrder_100_n T h1 h2 hL h3)
      by_cases hL101 : x (p + 1) = nI 101
      · have hL := hL101
        by_cases h3 : dgt x n (p + 2)
        · exact ro_t (p2 := (rnE x n 15 (p + 2)).1) (rnE_le h3 (by omega)).2.1 (by simp only [mF_f]; simp [va_up]) (fun i hi => by simp only [mF_f]; simp only [va_up]; repeat rw [if_neg (by omega)]) (by simp only [mF_f]; simp [va_up]) (by simp only [mF_R, mR_f, mR_R]) ⟨h1, h2, (by simp only [mF_f]; simp [va_up]), (by simp only [mF_f]; simp [va_up]; exact hL.symm), Or.inr (Or.inr (Or.inl ⟨by rw [hL]; simp, h3, (rnE x n 15 (p + 2)).2, rfl, (by simp only [mF_f]; simp [va_up])⟩))⟩ (c_X4_readOrder_101_y T h1 h2 hL h3)
        · exact ro_f (p2 := p + 2) (by omega) (by simp only [mF_f]; simp [va_up]) (fun i hi => by simp only [mF_f]; simp only [va_up]; repeat rw [if_neg (by omega)]) (by simp only [mF_f]; simp [va_up]) (by simp only [mF_R, mR_f, mR_R]) (bad_3 h1 h2 (by rw [hL]; simp) h3) (c_X4_readOrder_101_n T h1 h2 hL h3)
      by_cases hL103 : x (p + 1) = nI 103
      · have hL := hL103
        by_cases h3 : dgt x n (p + 2)
        · exact ro_t (p2 := (rnE x n 15 (p + 2)).1) (rnE_le h3 (by omega)).2.1 (by simp only [mF_f]; simp [va_up]) (fun i hi => by simp only [mF_f]; simp only [va_up]; repeat rw [if_neg (by omega)]) (by simp only [mF_f]; simp [va_up]) (by simp only [mF_R, mR_f, mR_R]) ⟨h1, h2, (by simp only [mF_f]; simp [va_up]), (by simp only [mF_f]; simp [va_up]; exact hL.symm), Or.inr (Or.inr (Or.inl ⟨by rw [hL]; simp, h3, (rnE x n 15 (p + 2)).2, rfl, (by simp only [mF_f]; simp [va_up])⟩))⟩ (c_X4_readOrder_103_y T h1 h2 hL h3)
        · exact ro_f (p2 := p + 2) (by omega) (by simp only [mF_f]; simp [va_up]) (fun i hi => by simp only [mF_f]; simp only [va_up]; repeat rw [if_neg (by omega)]) (by simp only [mF_f]; simp [va_up]) (by simp only [mF_R, mR_f, mR_R]) (bad_3 h1 h2 (by rw [hL]; simp) h3) (c_X4_readOrder_103_n T h1 h2 hL h3)
      by_cases hL119 : x (p + 1) = nI 119
      · have hL := hL119
        by_cases h3 : dgt x n (p + 2)
        · have hr := rnE_le (most := 15) h3 (by omega)
          generalize hE : rnE x n 15 (p + 2) = pv at hr
          obtain ⟨p3, v3⟩ := pv
          by_cases h4 : nx x n p3 (nI 61) (nI 61)
          · by_cases h5 : dgt x n (p3 + 1)
            · have hr2 := rnE_le (most := 9999) h5 (by omega)
              exact ro_t (p2 := (rnE x n 9999 (p3 + 1)).1) hr2.2.1 (by simp only [mF_f]; simp [va_up]) (fun i hi => by simp only [mF_f]; simp only [va_up]; repeat rw [if_neg (by omega)]) (by simp only [mF_f]; simp [va_up]) (by simp only [mF_R, mR_f, mR_R]) ⟨h1, h2, (by simp only [mF_f]; simp [va_up]), (by simp only [mF_f]; simp [va_up]; exact hL.symm), Or.inr (Or.inr (Or.inr ⟨hL, h3, p3, v3, (rnE x n 9999 (p3 + 1)).2, hE, h4, h5, rfl, (by simp only [mF_f]; simp [va_up]), (by simp only [mF_f]; simp [va_up])⟩))⟩ (c_X4_readOrder_119_y T h1 h2 hL h3 hE hr.2.1 h4 h5)
            · exact ro_f (p2 := p3 + 1) (by have := h4.1; omega) (by simp only [mF_f]; simp [va_up]) (fun i hi => by simp only [mF_f]; simp only [va_up]; repeat rw [if_neg (by omega)]) (by simp only [mF_f]; simp [va_up]) (by simp only [mF_R, mR_f, mR_R]) (bad_5 h1 h2 hL h3 hE h4 h5) (c_X4_readOrder_119_v T h1 h2 hL h3 hE hr.2.1 h4 h5)
          · exact ro_f (p2 := p3) hr.2.1 (by simp only [mF_f]; simp [va_up]) (fun i hi => by simp only [mF_f]; simp only [va_up]; repeat rw [if_neg (by omega)]) (by simp only [mF_f]; simp [va_up]) (by simp only [mF_R, mR_f, mR_R]) (bad_4 h1 h2 hL h3 hE h4) (c_X4_readOrder_119_e T h1 h2 hL h3 hE hr.2.1 h4)
        · exact ro_f (p2 := p + 2) (by omega) (by simp only [mF_f]; simp [va_up]) (fun i hi => by simp only [mF_f]; simp only [va_up]; repeat rw [if_neg (by omega)]) (by simp only [mF_f]; simp [va_up]) (by simp only [mF_R, mR_f, mR_R]) (bad_3 h1 h2 (Or.inr hL) h3) (c_X4_readOrder_119_k T h1 h2 hL h3)
      have hB := And.intro hL98 (And.intro hL99 (And.intro hL114 (And.intro hL115 (And.intro hL117 (And.intro hL100 (And.intro hL101 (And.intro hL103 hL119)))))))
      exact ro_f (p2 := p + 1) (by omega) (by simp only [mF_f]; simp [va_up]) (fun i hi => by simp only [mF_f]; simp only [va_up]; repeat rw [if_neg (by omega)]) (by simp only [mF_f]; simp [va_up]) (by simp only [mF_R, mR_f, mR_R]) (bad_1 h1 (fun _ => hB)) (c_X4_readOrder_b T h1 h2 hB)
    · exact ro_f (p2 := p + 1) (by have := h1.1; omega) (by simp only [mF_f]; simp [va_up]) (fun i hi => by simp only [mF_f]; simp only [va_up]; repeat rw [if_neg (by omega)]) (by simp only [mF_f]; simp [va_up]) (by simp only [mF_R, mR_f, mR_R]) (bad_1 h1 (fun z => absurd z h2)) (c_X4_readOrder_l T h1 h2)
  · exact ro_f (N := M) (p2 := p) hpn T.2.2.2.1 (fun _ _ => rfl) rfl (mR_id M).symm (bad_0 hpn h1) (c_X4_readOrder_s T h1)
abbrev ffT (x : Nat → Int32) (n : Nat) : Int32 := ffR x n 0 (nI 0)
def rtQ (M : sv_Mem) (x : Nat → Int32) (n : Nat) (f : Nat → Int32) : Prop := (∀ i, i < 8 → f i = M 9 4 0 i) ∧ (ffT x n = -5 ∨ ∃ pe, pe ≤ n ∧ f 8 = nI pe ∧ ffT x n = nI pe)
theorem TX_R {M : sv_Mem} {x f : Nat → Int32} {n p : Nat} (hx : M 9 8 0 = x) (hl : f 6 = nI n) (hn : n ≤ 80) (hp : f 8 = nI p) (hp2 : p ≤ 82) : TX (mR M f) x n p := ⟨by rw [mR_t]; exact hx, by rw [mR_f]; exact hl, hn, by rw [mR_f]; exact hp, hp2⟩
theorem up4R (M : sv_Mem) (f : Nat → Int32) (n : Nat) (v : Int32) : sv_up (mR M f) 9 4 0 n v = mR M (va_up f n v) := by
  rw [up4, mF_R, mR_f, mR_R]
theorem ff_neg (pe : Nat) (h : pe ≤ 80) : nI pe ≠ -5 := fun z => nI_pos (n := pe) (by omega) (by rw [z]; decide)

set_option maxHeartbeats 4000000 in
set_option maxRecDepth 100000 in
theorem rt_false {G : sv_G} {M : sv_Mem} {x f : Nat → Int32} {n p2 : Nat} (hn : n ≤ 80) (hp2 : p2 ≤ n) (hff : ffT x n = nI p2) : ∀ K : sv_K, sv_X G K cX4_readText RX4 3 5 → sv_Y G K (some .boolean) (some (.int (bI (ffT x n = -5)))) (mR M f) → sw_W G K 3 15 [some (.ref (sv_ad G 4 9 0)), some (.int (nI 0)), some (.int (nI 0))] [] (mR M f) := by
  intro K X Y
  refine sw_iload_2 X dX4_readText_15 ?_
  refine sw_if_eq X 89 dX4_readText_16 (by decide) (fun h16 => ?_) (fun h16 => ?_)
  ·
    refine sw_iconst X (nI 0) dX4_readText_89 (by decide) ?_
    exact sw_zret X Y dX4_readText_90 (by first | rfl | exact sv_nzB) (rb_f (fun z => ff_neg p2 (by omega) (hff.symm.trans z))) (rfl)
  ·
    exact absurd rfl h16
set_option maxHeartbeats 4000000 in
set_option maxRecDepth 100000 in
theorem rt_loop {G : sv_G} {M : sv_Mem} {x : Nat → Int32} {n : Nat} (hx : M 9 8 0 = x) (hl : M 9 4 0 6 = nI n) (hn : n ≤ 80) : ∀ (c p p2 : Nat) (f : Nat → Int32), n < p + c → (∀ i, i < 8 → f i = M 9 4 0 i) → f 8 = nI p2 → okO x n p p2 f → ffT x n = ffR x (n - p) p (nI 0) → ∃ f9, rtQ M x n f9 ∧ ∀ K : sv_K, sv_X G K cX4_readText RX4 3 5 → sv_Y G K (some .boolean) (some (.int (bI (ffT x n = -5)))) (mR M f9) → sw_W G K 3 15 [some (.ref (sv_ad G 4 9 0)), some (.int (nI 0)), some (.int (nI 1))] [] (mR M f) := by
  intro c
  induction c with
  | zero =>
    intro p p2 f hc hi h8 hok hff
    have := hok.1.1
    omega
  | succ c ih =>
    intro p p2 f hc hi h8 hok hff
    obtain ⟨hlt, hpn, q, ⟨hce, hne⟩, he⟩ := okO_ff hok
    have h6 : f 6 = nI n := (hi 6 (by omega)).trans hl
    rw [he] at hff
    by_cases hp2 : p2 = n
    · rw [hp2, ff_end hce] at hff
      refine ⟨va_up f 13 (f 13 + nI 1), ⟨fun i h => by rw [va_up_ne _ _ (by omega)]; exact hi i h, Or.inl hff⟩, ?_⟩
      intro K X Y

      refine sw_iload_2 X dX4_readText_15 ?_
      refine sw_if_eq X 89 dX4_readText_16 (by decide) (fun h16 => ?_) (fun h16 => ?_)
      ·
        exact absurd h16 (by decide)
      ·
        refine sw_iload_1 X dX4_readText_19 ?_
        refine sw_if_eq X 41 dX4_readText_20 (by decide) (fun h20 => ?_) (fun h20 => ?_)
        ·
          refine sw_aload_0 X dX4_readText_41 ?_
          refine sw_dup X dX4_readText_42 rfl ?_
          refine gf_X4_198 X dX4_readText_43 ?_
          refine sw_tope (v2 := f 13) (by rw [mR_f]) ?_
          refine sw_iconst X (nI 1) dX4_readText_46 (by decide) ?_
          refine sw_iadd X dX4_readText_47 ?_
          refine pf_X4_198 X dX4_readText_48 ?_
          refine sw_mem (up4R M f 13 _) ?_
          refine sw_aload_0 X dX4_readText_51 ?_
          refine gf_X4_167 X dX4_readText_52 ?_
          refine sw_tope (v2 := nI p2) (by rw [mR_f, va_up_ne _ _ (by omega)]; exact h8) ?_
          refine sw_aload_0 X dX4_readText_55 ?_
          refine gf_X4_164 X dX4_readText_56 ?_
          refine sw_tope (v2 := nI n) (by rw [mR_f, va_up_ne _ _ (by omega)]; exact h6) ?_
          refine sw_icmp_ne X 64 dX4_readText_59 (by decide) (fun h59 => ?_) (fun h59 => ?_)
          ·
            exact absurd (congrArg nI hp2) h59
          ·
            refine sw_iconst X (nI 1) dX4_readText_62 (by decide) ?_
            exact sw_zret X Y dX4_readText_63 (by first | rfl | exact sv_nzB) (rb_t hff) (rfl)
        ·
          exact absurd rfl h20
    · have TXX : TX (mR M (va_up f 13 (f 13 + nI 1))) x n p2 := TX_R hx (by rw [va_up_ne _ _ (by omega)]; exact h6) hn (by rw [va_up_ne _ _ (by omega)]; exact h8) (by omega)
      by_cases hns : nx x n p2 (nI 59) (nI 59)
      · have e59 := inR_11 hns.2
        rw [ff_step (q2 := nI 0) hns.1 (by rw [e59]; exact pa_59 hce) (by decide)] at hff
        have hmem3 : mF (mR M (va_up f 13 (f 13 + nI 1))) 8 (nI (p2 + 1)) = mR M (va_up (va_up f 13 (f 13 + nI 1)) 8 (nI (p2 + 1))) := by rw [mF_R, mR_f, mR_R]
        have TX3 : TX (mR M (va_up (va_up f 13 (f 13 + nI 1)) 8 (nI (p2 + 1)))) x n (p2 + 1) := hmem3 ▸ TX_8 TXX (by omega)
        obtain ⟨f4, p4, a1, a2, a3, a4, a5⟩ := ro_all (G := G) TX3 (by have := hns.1; omega)
        simp only [mR_f, mR_R] at a3 a4 a5
        have hi4 : ∀ i, i < 8 → f4 i = M 9 4 0 i := fun i h => by rw [a3 i h, va_up_ne _ _ (by omega), va_up_ne _ _ (by omega)]; exact hi i h
        rcases a5 with ⟨hok4, hct⟩ | ⟨hff4, hct⟩
        · obtain ⟨f9, q1, q2⟩ := ih (p2 + 1) p4 f4 (by omega) hi4 a2 hok4 hff
          refine ⟨f9, q1, ?_⟩
          intro K X Y
          refine sw_iload_2 X dX4_readText_15 ?_
          refine sw_if_eq X 89 dX4_readText_16 (by decide) (fun h16 => ?_) (fun h16 => ?_)
          ·
            exact absurd h16 (by decide)
          ·
            refine sw_iload_1 X dX4_readText_19 ?_
            refine sw_if_eq X 41 dX4_readText_20 (by decide) (fun h20 => ?_) (fun h20 => ?_)
            ·
              refine sw_aload_0 X dX4_readText_41 ?_
              refine sw_dup X dX4_readText_42 rfl ?_
              refine gf_X4_198 X dX4_readText_43 ?_
              refine sw_tope (v2 := f 13) (by rw [mR_f]) ?_
              refine sw_iconst X (nI 1) dX4_readText_46 (by decide) ?_
              refine sw_iadd X dX4_readText_47 ?_
              refine pf_X4_198 X dX4_readText_48 ?_
              refine sw_mem (up4R M f 13 _) ?_
              refine sw_aload_0 X dX4_readText_51 ?_
              refine gf_X4_167 X dX4_readText_52 ?_
              refine sw_tope (v2 := nI p2) (by rw [mR_f, va_up_ne _ _ (by omega)]; exact h8) ?_
              refine sw_aload_0 X dX4_readText_55 ?_
              refine gf_X4_164 X dX4_readText_56 ?_
              refine sw_tope (v2 := nI n) (by rw [mR_f, va_up_ne _ _ (by omega)]; exact h6) ?_
              refine sw_icmp_ne X 64 dX4_readText_59 (by decide) (fun h59 => ?_) (fun h59 => ?_)
              ·
                refine sw_aload_0 X dX4_readText_64 ?_
                refine sw_bipush X (nI 59) dX4_readText_65 (by decide) ?_
                refine ca_X4_192 X (by decide) dX4_readText_67 (Nat.le_of_ble_eq_true rfl) (c_X4_passes_y TXX hns) ?_
                refine sw_ifB_eq X 84 dX4_readText_70 (by decide) (fun h70 => ?_) (fun h70 => ?_)
                ·
                  exact absurd hns h70
                ·
                  rw [hmem3]
                  refine sw_aload_0 X dX4_readText_73 ?_
                  refine ca_X4_201 X (by decide) dX4_readText_74 (Nat.le_of_ble_eq_true rfl) hct ?_
                  refine sw_ifB_eq X 84 dX4_readText_77 (by decide) (fun h77 => ?_) (fun h77 => ?_)
                  ·
                    exact absurd trivial h77
                  ·
                    refine sw_iconst X (nI 1) dX4_readText_80 (by decide) ?_
                    refine sw_goto X 85 dX4_readText_81 (by decide) ?_
                    refine sw_istore_2 X dX4_readText_85 trivial ?_
                    refine sw_goto X 15 dX4_readText_86 (by decide) ?_
                    exact q2 K X Y
              ·
                exact absurd ((nI_eq (by omega) (by omega)).mp (by first | exact h59 | exact Decidable.of_not_not h59)) hp2
            ·
              exact absurd rfl h20
        · refine ⟨f4, ⟨hi4, Or.inr ⟨p4, a1, a2, hff.trans hff4⟩⟩, ?_⟩
          intro K X Y
          refine sw_iload_2 X dX4_readText_15 ?_
          refine sw_if_eq X 89 dX4_readText_16 (by decide) (fun h16 => ?_) (fun h16 => ?_)
          ·
            exact absurd h16 (by decide)
          ·
            refine sw_iload_1 X dX4_readText_19 ?_
            refine sw_if_eq X 41 dX4_readText_20 (by decide) (fun h20 => ?_) (fun h20 => ?_)
            ·
              refine sw_aload_0 X dX4_readText_41 ?_
              refine sw_dup X dX4_readText_42 rfl ?_
              refine gf_X4_198 X dX4_readText_43 ?_
              refine sw_tope (v2 := f 13) (by rw [mR_f]) ?_
              refine sw_iconst X (nI 1) dX4_readText_46 (by decide) ?_
              refine sw_iadd X dX4_readText_47 ?_
              refine pf_X4_198 X dX4_readText_48 ?_
              refine sw_mem (up4R M f 13 _) ?_
              refine sw_aload_0 X dX4_readText_51 ?_
              refine gf_X4_167 X dX4_readText_52 ?_
              refine sw_tope (v2 := nI p2) (by rw [mR_f, va_up_ne _ _ (by omega)]; exact h8) ?_
              refine sw_aload_0 X dX4_readText_55 ?_
              refine gf_X4_164 X dX4_readText_56 ?_
              refine sw_tope (v2 := nI n) (by rw [mR_f, va_up_ne _ _ (by omega)]; exact h6) ?_
              refine sw_icmp_ne X 64 dX4_readText_59 (by decide) (fun h59 => ?_) (fun h59 => ?_)
              ·
                refine sw_aload_0 X dX4_readText_64 ?_
                refine sw_bipush X (nI 59) dX4_readText_65 (by decide) ?_
                refine ca_X4_192 X (by decide) dX4_readText_67 (Nat.le_of_ble_eq_true rfl) (c_X4_passes_y TXX hns) ?_
                refine sw_ifB_eq X 84 dX4_readText_70 (by decide) (fun h70 => ?_) (fun h70 => ?_)
                ·
                  exact absurd hns h70
                ·
                  rw [hmem3]
                  refine sw_aload_0 X dX4_readText_73 ?_
                  refine ca_X4_201 X (by decide) dX4_readText_74 (Nat.le_of_ble_eq_true rfl) hct ?_
                  refine sw_ifB_eq X 84 dX4_readText_77 (by decide) (fun h77 => ?_) (fun h77 => ?_)
                  ·
                    refine sw_iconst X (nI 0) dX4_readText_84 (by decide) ?_
                    refine sw_istore_2 X dX4_readText_85 trivial ?_
                    refine sw_goto X 15 dX4_readText_86 (by decide) ?_
                    exact rt_false hn a1 (hff.trans hff4) K X Y
                  ·
                    exact absurd h77 id
              ·
                exact absurd ((nI_eq (by omega) (by omega)).mp (by first | exact h59 | exact Decidable.of_not_not h59)) hp2
            ·
              exact absurd rfl h20
      · have hpl : p2 < n := by omega
        rw [ff_bad hpl (hne hpl (fun z => hns ⟨hpl, by rw [z]; exact inR_rfl _⟩))] at hff
        refine ⟨va_up f 13 (f 13 + nI 1), ⟨fun i h => by rw [va_up_ne _ _ (by omega)]; exact hi i h, Or.inr ⟨p2, hpn, by rw [va_up_ne _ _ (by omega)]; exact h8, hff⟩⟩, ?_⟩
        intro K X Y
        refine sw_iload_2 X dX4_readText_15 ?_
        refine sw_if_eq X 89 dX4_readText_16 (by decide) (fun h16 => ?_) (fun h16 => ?_)
        ·
          exact absurd h16 (by decide)
        ·
          refine sw_iload_1 X dX4_readText_19 ?_
          refine sw_if_eq X 41 dX4_readText_20 (by decide) (fun h20 => ?_) (fun h20 => ?_)
          ·
            refine sw_aload_0 X dX4_readText_41 ?_
            refine sw_dup X dX4_readText_42 rfl ?_
            refine gf_X4_198 X dX4_readText_43 ?_
            refine sw_tope (v2 := f 13) (by rw [mR_f]) ?_
            refine sw_iconst X (nI 1) dX4_readText_46 (by decide) ?_
            refine sw_iadd X dX4_readText_47 ?_
            refine pf_X4_198 X dX4_readText_48 ?_
            refine sw_mem (up4R M f 13 _) ?_
            refine sw_aload_0 X dX4_readText_51 ?_
            refine gf_X4_167 X dX4_readText_52 ?_
            refine sw_tope (v2 := nI p2) (by rw [mR_f, va_up_ne _ _ (by omega)]; exact h8) ?_
            refine sw_aload_0 X dX4_readText_55 ?_
            refine gf_X4_164 X dX4_readText_56 ?_
            refine sw_tope (v2 := nI n) (by rw [mR_f, va_up_ne _ _ (by omega)]; exact h6) ?_
            refine sw_icmp_ne X 64 dX4_readText_59 (by decide) (fun h59 => ?_) (fun h59 => ?_)
            ·
              refine sw_aload_0 X dX4_readText_64 ?_
              refine sw_bipush X (nI 59) dX4_readText_65 (by decide) ?_
              refine ca_X4_192 X (by decide) dX4_readText_67 (Nat.le_of_ble_eq_true rfl) (c_X4_passes_n TXX hns) ?_
              refine sw_ifB_eq X 84 dX4_readText_70 (by decide) (fun h70 => ?_) (fun h70 => ?_)
              ·
                refine sw_iconst X (nI 0) dX4_readText_84 (by decide) ?_
                refine sw_istore_2 X dX4_readText_85 trivial ?_
                refine sw_goto X 15 dX4_readText_86 (by decide) ?_
                exact rt_false hn hpn hff K X Y
              ·
                exact absurd h70 hns
            ·
              exact absurd ((nI_eq (by omega) (by omega)).mp (by first | exact h59 | exact Decidable.of_not_not h59)) hp2
          ·
            exact absurd rfl h20
set_option maxHeartbeats 4000000 in
set_option maxRecDepth 100000 in
/-- readText(false): whether the text is a script; else the place is the fault -/
theorem rt_all {G : sv_G} {M : sv_Mem} {x : Nat → Int32} {n : Nat} (hx : M 9 8 0 = x) (hl : M 9 4 0 6 = nI n) (hn : n ≤ 80) : ∃ f9, rtQ M x n f9 ∧ sv_Ct G M_X4_readText 5 [.ref (sv_ad G 4 9 0), .int (nI 0)] M (some (.int (bI (ffT x n = -5)))) (mR M f9) := by
  have TX0 : TX (mR M (va_up (va_up (M 9 4 0) 8 (nI 0)) 13 (nI 0))) x n 0 := TX_R hx (by rw [va_up_ne _ _ (by omega), va_up_ne _ _ (by omega)]; exact hl) hn (by rw [va_up_ne _ _ (by omega), va_up_self]) (by omega)
  obtain ⟨f1, p1, a1, a2, a3, a4, a5⟩ := ro_all (G := G) TX0 (by omega)
  simp only [mR_f, mR_R] at a3 a4 a5
  have hi : ∀ i, i < 8 → f1 i = M 9 4 0 i := fun i h => by rw [a3 i h, va_up_ne _ _ (by omega), va_up_ne _ _ (by omega)]
  rcases a5 with ⟨hok, hct⟩ | ⟨hff, hct⟩
  · obtain ⟨f9, q1, q2⟩ := rt_loop (G := G) hx hl hn (n + 1) 0 p1 f1 (by omega) hi a2 hok rfl
    refine ⟨f9, q1, ?_⟩
    refine sv_Ct_of (lo := [some (.ref (sv_ad G 4 9 0)), some (.int (nI 0)), none]) (pn_X4) rfl (Nat.le_of_ble_eq_true rfl) rfl (fun K X Y => ?_)
    replace X : sv_X G K cX4_readText RX4 3 5 := X
    replace Y : sv_Y G K (some .boolean) _ _ := Y
    show sw_W G K 3 0 _ _ _
    refine sw_aload_0 X dX4_readText_0 ?_
    refine sw_iconst X (nI 0) dX4_readText_1 (by decide) ?_
    refine pf_X4_167 X dX4_readText_2 ?_
    refine sw_aload_0 X dX4_readText_5 ?_
    refine sw_iconst X (nI 0) dX4_readText_6 (by decide) ?_
    refine pf_X4_198 X dX4_readText_7 ?_
    refine sw_mem (M2 := mR M (va_up (va_up (M 9 4 0) 8 (nI 0)) 13 (nI 0))) (by rw [up4, up4, mF_R, mF_R, mR_f, mR_R]) ?_
    refine sw_aload_0 X dX4_readText_10 ?_
    refine ca_X4_201 X (by decide) dX4_readText_11 (Nat.le_of_ble_eq_true rfl) hct ?_
    refine sw_istore_2 X dX4_readText_14 trivial ?_
    exact q2 K X Y
  · refine ⟨f1, ⟨hi, Or.inr ⟨p1, a1, a2, hff⟩⟩, ?_⟩
    refine sv_Ct_of (lo := [some (.ref (sv_ad G 4 9 0)), some (.int (nI 0)), none]) (pn_X4) rfl (Nat.le_of_ble_eq_true rfl) rfl (fun K X Y => ?_)
    replace X : sv_X G K cX4_readText RX4 3 5 := X
    replace Y : sv_Y G K (some .boolean) _ _ := Y
    show sw_W G K 3 0 _ _ _
    refine sw_aload_0 X dX4_readText_0 ?_
    refine sw_iconst X (nI 0) dX4_readText_1 (by decide) ?_
    refine pf_X4_167 X dX4_readText_2 ?_
    refine sw_aload_0 X dX4_readText_5 ?_
    refine sw_iconst X (nI 0) dX4_readText_6 (by decide) ?_
    refine pf_X4_198 X dX4_readText_7 ?_
    refine sw_mem (M2 := mR M (va_up (va_up (M 9 4 0) 8 (nI 0)) 13 (nI 0))) (by rw [up4, up4, mF_R, mF_R, mR_f, mR_R]) ?_
    refine sw_aload_0 X dX4_readText_10 ?_
    refine ca_X4_201 X (by decide) dX4_readText_11 (Nat.le_of_ble_eq_true rfl) hct ?_
    refine sw_istore_2 X dX4_readText_14 trivial ?_
    exact rt_false hn a1 hff K X Y
set_option maxHeartbeats 4000000 in
set_option maxRecDepth 100000 in
theorem c_X4_fault {G : sv_G} {M : sv_Mem} {x f9 : Nat → Int32} {n : Nat} (hn : n ≤ 80) (hQ : rtQ M x n f9) (hct : sv_Ct G M_X4_readText 5 [.ref (sv_ad G 4 9 0), .int (nI 0)] M (some (.int (bI (ffT x n = -5)))) (mR M f9)) : sv_Ct G M_X4_fault 6 [.ref (sv_ad G 4 9 0)] M (some (.int (ffT x n))) (mR M f9) := by
  refine sv_Ct_of (lo := [some (.ref (sv_ad G 4 9 0))]) (pn_X4) rfl (Nat.le_of_ble_eq_true rfl) rfl (fun K X Y => ?_)
  replace X : sv_X G K cX4_fault RX4 1 6 := X
  replace Y : sv_Y G K (some .int) _ _ := Y
  show sw_W G K 1 0 _ _ _
  refine sw_aload_0 X dX4_fault_0 ?_
  refine sw_iconst X (nI 0) dX4_fault_1 (by decide) ?_
  refine ca_X4_211 X (by decide) dX4_fault_2 (Nat.le_of_ble_eq_true rfl) hct ?_
  refine sw_ifB_eq X 13 dX4_fault_5 (by decide) (fun h5 => ?_) (fun h5 => ?_)
  ·
    refine sw_aload_0 X dX4_fault_13 ?_
    refine gf_X4_167 X dX4_fault_14 ?_
    exact sw_iret X Y dX4_fault_17 (by first | (rw [h5]; done) | (obtain ⟨pe, -, e8, e9⟩ := hQ.2.resolve_left h5; rw [mR_f, e8, e9]; done)) (rfl)
  ·
    refine sw_bipush X (-5) dX4_fault_8 (by decide) ?_
    refine sw_goto X 17 dX4_fault_10 (by decide) ?_
    exact sw_iret X Y dX4_fault_17 (by first | (rw [h5]; done) | (obtain ⟨pe, -, e8, e9⟩ := hQ.2.resolve_left h5; rw [mR_f, e8, e9]; done)) (rfl)
