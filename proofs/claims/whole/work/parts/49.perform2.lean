set_option maxHeartbeats 4000000 in
set_option maxRecDepth 100000 in
/-- readText(false) of a script; what it leaves doesn't hang on the memory -/
theorem rt_vloop {x : Nat → Int32} {n : Nat} (hn : n ≤ 80) (hval : ffT x n = -5) : ∀ (c p p2 : Nat) (f : Nat → Int32), n < p + c → okO x n p p2 f → f 6 = nI n → f 8 = nI p2 → ffT x n = ffR x (n - p) p (nI 0) → ∃ f9 : Nat → Int32, (∀ i, i < 8 → f9 i = f i) ∧ ∀ (G : sv_G) (M : sv_Mem) (K : sv_K), M 9 4 0 = f → M 9 8 0 = x → sv_X G K cX4_readText RX4 3 5 → sv_Y G K (some .boolean) (some (.int (bI True))) (mR M f9) → sw_W G K 3 15 [some (.ref (sv_ad G 4 9 0)), some (.int (nI 0)), some (.int (nI 1))] [] M := by
  intro c
  induction c with
  | zero =>
    intro p p2 f hc hok
    have := hok.1.1
    omega
  | succ c ih =>
    intro p p2 f hc hok f6 f8 hff
    obtain ⟨hlt, h2n, q, ⟨hce, hne⟩, he⟩ := okO_ff hok
    rw [he] at hff
    by_cases hp2 : p2 = n
    · refine ⟨va_up f 13 (f 13 + nI 1), fun i hi => va_up_ne _ _ (by omega), ?_⟩
      intro G M K hf hx8 X Y
      refine sw_iload_2 X dX4_readText_15 ?_
      refine sw_if_eq X 89 dX4_readText_16 (by decide) (fun h16 => ?_) (fun h16 => ?_)
      ·
        exact absurd h16 (by decide)
      ·
        refine sw_iload_1 X dX4_readText_19 ?_
        refine sw_if_eq X 41 dX4_readText_20 (by decide) (fun h20 => ?_) (fun h20 => ?_)
        ·
          refine sw_aload_0 X dX4_readText_41 ?_
          refine sw_dup X dX4_readText_42 rfl ?_
          refine gf_X4_198 X dX4_readText_43 ?_
          refine sw_tope (v2 := f 13) (by rw [hf]) ?_
          refine sw_iconst X (nI 1) dX4_readText_46 (by decide) ?_
          refine sw_iadd X dX4_readText_47 ?_
          refine pf_X4_198 X dX4_readText_48 ?_
          refine sw_mem (M2 := mR M (va_up f 13 (f 13 + nI 1))) (by rw [up4, mF_R, hf]) ?_
          refine sw_aload_0 X dX4_readText_51 ?_
          refine gf_X4_167 X dX4_readText_52 ?_
          refine sw_tope (v2 := nI p2) (by rw [mR_f, va_up_ne _ _ (by omega)]; exact f8) ?_
          refine sw_aload_0 X dX4_readText_55 ?_
          refine gf_X4_164 X dX4_readText_56 ?_
          refine sw_tope (v2 := nI n) (by rw [mR_f, va_up_ne _ _ (by omega)]; exact f6) ?_
          refine sw_icmp_ne X 64 dX4_readText_59 (by decide) (fun h59 => ?_) (fun h59 => ?_)
          ·
            exact absurd (congrArg nI hp2) h59
          ·
            refine sw_iconst X (nI 1) dX4_readText_62 (by decide) ?_
            exact sw_zret X Y dX4_readText_63 (rfl) (rfl) (rfl)
        ·
          exact absurd rfl h20
    · have x59 : x p2 = nI 59 := Decidable.of_not_not (fun z => by
        rw [ff_bad (by omega) (hne (by omega) z)] at hff
        exact ff_neg p2 (by omega) (hff.symm.trans hval))
      rw [ff_step (q2 := nI 0) (by omega) (by rw [x59]; exact pa_59 hce) (by decide)] at hff
      obtain ⟨f4, p4, a1, a2, a3, a4, hok4, hct⟩ := ro_val (x := x) (f3 := va_up (va_up f 13 (f 13 + nI 1)) 8 (nI (p2 + 1))) (n := n) (p := p2 + 1) hn (by rw [va_up_ne _ _ (by omega), va_up_ne _ _ (by omega)]; exact f6) (by rw [va_up_self]) (by omega) (hff.symm.trans hval)
      obtain ⟨f9, c1, c2⟩ := ih (p2 + 1) p4 f4 (by omega) hok4 (by rw [a3 6 (by omega), va_up_ne _ _ (by omega), va_up_ne _ _ (by omega)]; exact f6) a2 hff
      refine ⟨f9, fun i hi => by rw [c1 i hi, a3 i hi, va_up_ne _ _ (by omega), va_up_ne _ _ (by omega)], ?_⟩
      intro G M K hf hx8 X Y
      have TXX : TX (mR M (va_up f 13 (f 13 + nI 1))) x n p2 := TX_R hx8 (by rw [va_up_ne _ _ (by omega)]; exact f6) hn (by rw [va_up_ne _ _ (by omega)]; exact f8) (by omega)
      have hns : nx x n p2 (nI 59) (nI 59) := ⟨by omega, by rw [x59]; exact inR_rfl _⟩
      have hmem3 : mF (mR M (va_up f 13 (f 13 + nI 1))) 8 (nI (p2 + 1)) = mR M (va_up (va_up f 13 (f 13 + nI 1)) 8 (nI (p2 + 1))) := by rw [mF_R, mR_f, mR_R]
      have hct2 := hct G (mR M (va_up (va_up f 13 (f 13 + nI 1)) 8 (nI (p2 + 1)))) (mR_f _ _) (by rw [mR_t]; exact hx8)
      rw [mR_R] at hct2
      have c3 := c2 G (mR M f4) K (mR_f _ _) (by rw [mR_t]; exact hx8) X
      rw [mR_R] at c3
      refine sw_iload_2 X dX4_readText_15 ?_
      refine sw_if_eq X 89 dX4_readText_16 (by decide) (fun h16 => ?_) (fun h16 => ?_)
      ·
        exact absurd h16 (by decide)
      ·
        refine sw_iload_1 X dX4_readText_19 ?_
        refine sw_if_eq X 41 dX4_readText_20 (by decide) (fun h20 => ?_) (fun h20 => ?_)
        ·
          refine sw_aload_0 X dX4_readText_41 ?_
          refine sw_dup X dX4_readText_42 rfl ?_
          refine gf_X4_198 X dX4_readText_43 ?_
          refine sw_tope (v2 := f 13) (by rw [hf]) ?_
          refine sw_iconst X (nI 1) dX4_readText_46 (by decide) ?_
          refine sw_iadd X dX4_readText_47 ?_
          refine pf_X4_198 X dX4_readText_48 ?_
          refine sw_mem (M2 := mR M (va_up f 13 (f 13 + nI 1))) (by rw [up4, mF_R, hf]) ?_
          refine sw_aload_0 X dX4_readText_51 ?_
          refine gf_X4_167 X dX4_readText_52 ?_
          refine sw_tope (v2 := nI p2) (by rw [mR_f, va_up_ne _ _ (by omega)]; exact f8) ?_
          refine sw_aload_0 X dX4_readText_55 ?_
          refine gf_X4_164 X dX4_readText_56 ?_
          refine sw_tope (v2 := nI n) (by rw [mR_f, va_up_ne _ _ (by omega)]; exact f6) ?_
          refine sw_icmp_ne X 64 dX4_readText_59 (by decide) (fun h59 => ?_) (fun h59 => ?_)
          ·
            refine sw_aload_0 X dX4_readText_64 ?_
            refine sw_bipush X (nI 59) dX4_readText_65 (by decide) ?_
            refine ca_X4_192 X (by decide) dX4_readText_67 (Nat.le_of_ble_eq_true rfl) (c_X4_passes_y TXX hns) ?_
            refine sw_ifB_eq X 84 dX4_readText_70 (by decide) (fun h70 => ?_) (fun h70 => ?_)
            ·
              exact absurd hns h70
            ·
              rw [hmem3]
              refine sw_aload_0 X dX4_readText_73 ?_
              refine ca_X4_201 X (by decide) dX4_readText_74 (Nat.le_of_ble_eq_true rfl) hct2 ?_
              refine sw_ifB_eq X 84 dX4_readText_77 (by decide) (fun h77 => ?_) (fun h77 => ?_)
              ·
                exact absurd trivial h77
              ·
                refine sw_iconst X (nI 1) dX4_readText_80 (by decide) ?_
                refine sw_goto X 85 dX4_readText_81 (by decide) ?_
                refine sw_istore_2 X dX4_readText_85 trivial ?_
                refine sw_goto X 15 dX4_readText_86 (by decide) ?_
                exact c3 Y
          ·
            exact absurd ((nI_eq (by omega) (by omega)).mp (by first | exact h59 | exact Decidable.of_not_not h59)) hp2
        ·
          exact absurd rfl h20
set_option maxHeartbeats 4000000 in
set_option maxRecDepth 100000 in
theorem rt_val {x F : Nat → Int32} {n : Nat} (hn : n ≤ 80) (hval : ffT x n = -5) (h6 : F 6 = nI n) : ∃ f9 : Nat → Int32, (∀ i, i < 8 → f9 i = F i) ∧ ∀ (G : sv_G) (M : sv_Mem), M 9 4 0 = F → M 9 8 0 = x → sv_Ct G M_X4_readText 5 [.ref (sv_ad G 4 9 0), .int (nI 0)] M (some (.int (bI True))) (mR M f9) := by
  obtain ⟨f, p2, a1, a2, a3, a4, hok, hct⟩ := ro_val (x := x) (f3 := (va_up (va_up (F) 8 (nI 0)) 13 (nI 0))) (n := n) (p := 0) hn (by rw [va_up_ne _ _ (by omega), va_up_ne _ _ (by omega)]; exact h6) (by rw [va_up_ne _ _ (by omega), va_up_self]) (by omega) hval
  obtain ⟨f9, c1, c2⟩ := rt_vloop hn hval (n + 1) 0 p2 f (by omega) hok (by rw [a3 6 (by omega), va_up_ne _ _ (by omega), va_up_ne _ _ (by omega)]; exact h6) a2 rfl
  refine ⟨f9, fun i hi => by rw [c1 i hi, a3 i hi, va_up_ne _ _ (by omega), va_up_ne _ _ (by omega)], ?_⟩
  intro G M hM hx8
  subst hM
  have hct2 := hct G (mR M (va_up (va_up (M 9 4 0) 8 (nI 0)) 13 (nI 0))) (mR_f _ _) (by rw [mR_t]; exact hx8)
  rw [mR_R] at hct2
  refine sv_Ct_of (lo := [some (.ref (sv_ad G 4 9 0)), some (.int (nI 0)), none]) (pn_X4) rfl (Nat.le_of_ble_eq_true rfl) rfl (fun K X Y => ?_)
  replace X : sv_X G K cX4_readText RX4 3 5 := X
  replace Y : sv_Y G K (some .boolean) _ _ := Y
  show sw_W G K 3 0 _ _ _
  refine sw_aload_0 X dX4_readText_0 ?_
  refine sw_iconst X (nI 0) dX4_readText_1 (by decide) ?_
  refine pf_X4_167 X dX4_readText_2 ?_
  refine sw_aload_0 X dX4_readText_5 ?_
  refine sw_iconst X (nI 0) dX4_readText_6 (by decide) ?_
  refine pf_X4_198 X dX4_readText_7 ?_
  refine sw_mem (M2 := mR M (va_up (va_up (M 9 4 0) 8 (nI 0)) 13 (nI 0))) (by rw [up4, up4, mF_R, mF_R, mR_f, mR_R]) ?_
  refine sw_aload_0 X dX4_readText_10 ?_
  refine ca_X4_201 X (by decide) dX4_readText_11 (Nat.le_of_ble_eq_true rfl) hct2 ?_
  refine sw_istore_2 X dX4_readText_14 trivial ?_
  have c3 := c2 G (mR M f) K (mR_f _ _) (by rw [mR_t]; exact hx8) X
  rw [mR_R] at c3
  exact c3 Y
set_option maxHeartbeats 4000000 in
set_option maxRecDepth 100000 in
/-- readText(true): the script is carried out -/
theorem rt_true {G : sv_G} {M : sv_Mem} {x f s nn s9 n9 : Nat → Int32} {k9 : Nat} (hx8 : M 9 8 0 = x) (hs : M 9 5 0 = s) (hnn : M 9 9 0 = nn) (hct : ∀ (G : sv_G) (N : sv_Mem), N 9 4 0 = (va_up (va_up (M 9 4 0) 8 (nI 0)) 13 (nI 0)) → N 9 8 0 = x → sv_Ct G M_X4_readOrder 4 [.ref (sv_ad G 4 9 0)] N (some (.int (bI True))) (mR N f)) (hR : RRun G x f s nn s9 n9 k9) : ∃ f9 : Nat → Int32, (∀ i, i < 8 → f9 i = f i) ∧ f9 13 = nI k9 ∧ sv_Ct G M_X4_readText 5 [.ref (sv_ad G 4 9 0), .int (nI 1)] M (some (.int (bI True))) (mS (mN (mR M f9) n9) s9) := by
  obtain ⟨f9, c1, c2, c3⟩ := hR (mR M f) (by rw [mR_s]; exact hs) (by rw [mR_n]; exact hnn) (mR_f _ _) (by rw [mR_t]; exact hx8)
  refine ⟨f9, c1, c2, ?_⟩
  have hct2 := hct G (mR M (va_up (va_up (M 9 4 0) 8 (nI 0)) 13 (nI 0))) (mR_f _ _) (by rw [mR_t]; exact hx8)
  rw [mR_R] at hct2
  rw [mR_R] at c3
  refine sv_Ct_of (lo := [some (.ref (sv_ad G 4 9 0)), some (.int (nI 1)), none]) (pn_X4) rfl (Nat.le_of_ble_eq_true rfl) rfl (fun K X Y => ?_)
  replace X : sv_X G K cX4_readText RX4 3 5 := X
  replace Y : sv_Y G K (some .boolean) _ _ := Y
  show sw_W G K 3 0 _ _ _
  refine sw_aload_0 X dX4_readText_0 ?_
  refine sw_iconst X (nI 0) dX4_readText_1 (by decide) ?_
  refine pf_X4_167 X dX4_readText_2 ?_
  refine sw_aload_0 X dX4_readText_5 ?_
  refine sw_iconst X (nI 0) dX4_readText_6 (by decide) ?_
  refine pf_X4_198 X dX4_readText_7 ?_
  refine sw_mem (M2 := mR M (va_up (va_up (M 9 4 0) 8 (nI 0)) 13 (nI 0))) (by rw [up4, up4, mF_R, mF_R, mR_f, mR_R]) ?_
  refine sw_aload_0 X dX4_readText_10 ?_
  refine ca_X4_201 X (by decide) dX4_readText_11 (Nat.le_of_ble_eq_true rfl) hct2 ?_
  refine sw_istore_2 X dX4_readText_14 trivial ?_
  exact c3 K X Y
set_option maxHeartbeats 4000000 in
set_option maxRecDepth 100000 in
theorem c_X4_perform_n {G : sv_G} {M : sv_Mem} {x f9 : Nat → Int32} {n : Nat} (hn : n ≤ 80) (hQ : rtQ M x n f9) (hf : ffT x n ≠ -5) (hct : sv_Ct G M_X4_readText 5 [.ref (sv_ad G 4 9 0), .int (nI 0)] M (some (.int (bI (ffT x n = -5)))) (mR M f9)) : sv_Ct G M_X4_perform 6 [.ref (sv_ad G 4 9 0)] M (some (.int (-100 - ffT x n))) (mR M f9) := by
  refine sv_Ct_of (lo := [some (.ref (sv_ad G 4 9 0))]) (pn_X4) rfl (Nat.le_of_ble_eq_true rfl) rfl (fun K X Y => ?_)
  replace X : sv_X G K cX4_perform RX4 1 6 := X
  replace Y : sv_Y G K (some .int) _ _ := Y
  show sw_W G K 1 0 _ _ _
  refine sw_aload_0 X dX4_perform_0 ?_
  refine sw_iconst X (nI 0) dX4_perform_1 (by decide) ?_
  refine ca_X4_211 X (by decide) dX4_perform_2 (Nat.le_of_ble_eq_true rfl) hct ?_
  refine sw_ifB_ne X 16 dX4_perform_5 (by decide) (fun h5 => ?_) (fun h5 => ?_)
  ·
    exact absurd h5 hf
  ·
    refine sw_bipush X (-100) dX4_perform_8 (by decide) ?_
    refine sw_aload_0 X dX4_perform_10 ?_
    refine gf_X4_167 X dX4_perform_11 ?_
    refine sw_isub X dX4_perform_14 ?_
    exact sw_iret X Y dX4_perform_15 (by obtain ⟨pe, -, e8, e9⟩ := hQ.2.resolve_left hf; rw [mR_f, e8, e9]) (rfl)
set_option maxHeartbeats 4000000 in
set_option maxRecDepth 100000 in
theorem c_X4_perform_y {G : sv_G} {M : sv_Mem} {f1 : Nat → Int32} {t k9 : Nat} {M9 : sv_Mem} (hct : sv_Ct G M_X4_readText 5 [.ref (sv_ad G 4 9 0), .int (nI 0)] M (some (.int (bI True))) (mR M f1)) (hkp : f1 2 = nI t) (ht : t ≤ 5) (hct2 : sv_Ct G M_X4_readText 5 [.ref (sv_ad G 4 9 0), .int (nI 1)] (rcM (mR M f1) t) (some (.int (bI True))) M9) (hk9 : M9 9 4 0 13 = nI k9) : sv_Ct G M_X4_perform 6 [.ref (sv_ad G 4 9 0)] M (some (.int (nI k9))) (M9) := by
  refine sv_Ct_of (lo := [some (.ref (sv_ad G 4 9 0))]) (pn_X4) rfl (Nat.le_of_ble_eq_true rfl) rfl (fun K X Y => ?_)
  replace X : sv_X G K cX4_perform RX4 1 6 := X
  replace Y : sv_Y G K (some .int) _ _ := Y
  show sw_W G K 1 0 _ _ _
  refine sw_aload_0 X dX4_perform_0 ?_
  refine sw_iconst X (nI 0) dX4_perform_1 (by decide) ?_
  refine ca_X4_211 X (by decide) dX4_perform_2 (Nat.le_of_ble_eq_true rfl) hct ?_
  refine sw_ifB_ne X 16 dX4_perform_5 (by decide) (fun h5 => ?_) (fun h5 => ?_)
  ·
    refine sw_aload_0 X dX4_perform_16 ?_
    refine ca_X4_65 X (by decide) dX4_perform_17 (Nat.le_of_ble_eq_true rfl) (c_X4_record (by rw [mR_f]; exact hkp) ht) ?_
    refine sw_aload_0 X dX4_perform_20 ?_
    refine sw_iconst X (nI 1) dX4_perform_21 (by decide) ?_
    refine ca_X4_211 X (by decide) dX4_perform_22 (Nat.le_of_ble_eq_true rfl) hct2 ?_
    refine sw_ifB_eq X 35 dX4_perform_25 (by decide) (fun h25 => ?_) (fun h25 => ?_)
    ·
      exact absurd trivial h25
    ·
      refine sw_aload_0 X dX4_perform_28 ?_
      refine gf_X4_198 X dX4_perform_29 ?_
      refine sw_goto X 36 dX4_perform_32 (by decide) ?_
      exact sw_iret X Y dX4_perform_36 (ri_of hk9.symm) (rfl)
  ·
    exact absurd trivial h5
theorem act_perform {G : sv_G} {M : sv_Mem} (I0 : INV M) : ActOk G M_X3_perform 6 M_X4_perform 6 [] M := by
  obtain ⟨cs, o, t, n, I⟩ := id I0
  have hT := I.tc
  have hH := I.hs
  obtain ⟨h1, h2, h3, h4, h5, h6, h7, h8, h9, h10, h11, h12, h13⟩ := id I
  by_cases hf : ffT (M 9 8 0) n = -5
  · obtain ⟨f1, u1, u2⟩ := rt_val (x := M 9 8 0) (F := M 9 4 0) h9 hf h11
    have g6 : va_up f1 2 (nI (if t = 5 then 5 else t + 1)) 6 = nI n := by rw [va_up_ne _ _ (by omega), u1 6 (by omega)]; exact h11
    obtain ⟨f, p2, a1, a2, a3, a4, hok, hct⟩ := ro_val (x := M 9 8 0) (f3 := (va_up (va_up (va_up f1 2 (nI (if t = 5 then 5 else t + 1))) 8 (nI 0)) 13 (nI 0))) (n := n) (p := 0) h9 (by rw [va_up_ne _ _ (by omega), va_up_ne _ _ (by omega)]; exact g6) (by rw [va_up_ne _ _ (by omega), va_up_self]) (by omega) hf
    obtain ⟨T9, s9, n9, cs9, k9, b1, b2, b3, b4⟩ := perf_run (G := G) h9 hf (n + 1) 0 p2 0 f (M 0) (M 9 5 0) (M 9 9 0) cs (by omega) hok (by rw [a3 6 (by omega), va_up_ne _ _ (by omega), va_up_ne _ _ (by omega)]; exact g6) a2 (by rw [a4, va_up_self]) (Or.inl rfl) rfl h1
    have hcl := c_X3_perform_y (G := G) (M := M) hT hf hH (k9 := k9) (by omega) b3
    have hI := INV_rec (n2 := n9) I b2
    have hN9 : rcY (sT (rmM M o t cs) 0 T9) o t 9 = M 9 := N9
    generalize rcY (sT (rmM M o t cs) 0 T9) o t = N at hcl hI hN9
    have r4 : rcM (mR N f1) t 9 4 0 = va_up f1 2 (nI (if t = 5 then 5 else t + 1)) := by
      unfold rcM
      rw [mF_f, mH_f, mR_f]
    obtain ⟨f9, c1, c2, c3⟩ := rt_true (G := G) (M := rcM (mR N f1) t) (x := M 9 8 0) (f := f) (s := M 9 5 0) (nn := M 9 9 0) (s9 := s9) (n9 := n9) (k9 := k9) (by
      unfold rcM mF mH
      rw [sv_upA_get _ _ (by omega), sv_upA_get _ _ (by omega), mR_t, hN9]) (by rw [rc_s, mR_s, hN9]) (by rw [rc_n, mR_n, hN9]) (by rw [r4]; exact hct) b4
    have hfin := c_X4_perform_y (G := G) (M := N) (f1 := f1) (t := t) (k9 := k9) (u2 G N (by rw [hN9]) (by rw [hN9])) (by rw [u1 2 (by omega)]; exact h6) h3 c3 (by rw [mSN_f, mR_f]; exact c2)
    have eM : mS (mN (mR (rcM (mR N f1) t) f9) n9) s9 = mR (mS (mN (rcM N t) n9) s9) f9 := by
      unfold rcM
      rw [mR_h, mR_s, mR_H, mF_R, mR_f, mR_R, mR_R, mF_R, mR_N, mR_S, mR_N, mR_S, mR_R]
    rw [eM] at hfin
    refine ⟨_, _, _, hcl, hfin, INV_R hI (fun i hi => ?_)⟩
    rw [c1 i hi, a3 i hi, va_up_ne _ _ (by omega), va_up_ne _ _ (by omega), mX_4, hN9]
    by_cases e2 : i = 2
    · subst e2
      rw [va_up_self, va_up_self]
    · rw [va_up_ne _ _ e2, va_up_ne _ _ e2]
      exact u1 i hi
  · obtain ⟨f9, hQ, hct⟩ := rt_all (G := G) (M := M) (x := M 9 8 0) rfl h11 h9
    exact ⟨_, M, _, c_X3_perform_n hT hf, c_X4_perform_n h9 hQ hf hct, INV_R I0 hQ.1⟩
