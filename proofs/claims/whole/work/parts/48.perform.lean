/-! perform: the orders of a script, one after the other, in both -/
theorem TC_sT {N : sv_Mem} {x : Nat → Int32} {n : Nat} {T : sv_T} (h : TC N x n) : TC (sT N 0 T) x n := by
  obtain ⟨a, b, c, d⟩ := h
  exact ⟨by rw [sT_ne _ _ (by omega)]; exact a, by rw [sT_ne _ _ (by omega)]; exact b, c, d⟩
def CRun (G : sv_G) (x : Nat → Int32) (n p k : Nat) (T T9 : sv_T) (k9 : Nat) : Prop := ∀ K : sv_K, sv_X G K cX3_perform RX3 5 6 → ∀ (N : sv_Mem) (l1 : Int32) (l4 : Option Value), N 0 = T → TC N x n → (∀ (l3 : Int32) (l5 : Option Value), sw_W G K 5 90 [some (.ref (sv_ad G 0 8 0)), some (.int l1), some (.int (nI k9)), some (.int l3), l5] [] (sT N 0 T9)) → sw_W G K 5 27 [some (.ref (sv_ad G 0 8 0)), some (.int l1), some (.int (nI k)), some (.int (nI p)), l4] [] N
def RRun (G : sv_G) (x f s nn s9 n9 : Nat → Int32) (k9 : Nat) : Prop := ∀ N : sv_Mem, N 9 5 0 = s → N 9 9 0 = nn → N 9 4 0 = f → N 9 8 0 = x → ∃ f9 : Nat → Int32, (∀ i, i < 8 → f9 i = f i) ∧ f9 13 = nI k9 ∧ ∀ K : sv_K, sv_X G K cX4_readText RX4 3 5 → sv_Y G K (some .boolean) (some (.int (bI True))) (mS (mN (mR N f9) n9) s9) → sw_W G K 3 15 [some (.ref (sv_ad G 4 9 0)), some (.int (nI 1)), some (.int (nI 1))] [] N
theorem mR_S (M : sv_Mem) (f s : Nat → Int32) : mS (mR M f) s = mR (mS M s) f := sv_upA_comm M f s (by omega)
theorem mR_N (M : sv_Mem) (f s : Nat → Int32) : mN (mR M f) s = mR (mN M s) f := sv_upA_comm M f s (by omega)
theorem mR_H (M : sv_Mem) (f h : Nat → Int32) : mH (mR M f) h = mR (mH M h) f := sv_upA_comm M f h (by omega)
theorem mR_h (M : sv_Mem) (f : Nat → Int32) : mR M f 9 6 0 = M 9 6 0 := sv_upA_get M f (by omega)
theorem mR_same {N : sv_Mem} {f : Nat → Int32} (h : N 9 4 0 = f) : mR N f = N := by rw [← h, mR_id]
theorem mSN_f (N : sv_Mem) (n2 s2 : Nat → Int32) : mS (mN N n2) s2 9 4 0 = N 9 4 0 := by rw [mS_f, mN_f]
theorem mSN_x (N : sv_Mem) (n2 s2 : Nat → Int32) : mS (mN N n2) s2 9 8 0 = N 9 8 0 := by rw [mS_o _ _ (by omega), mN_o _ _ (by omega)]
theorem mSN_SN (N : sv_Mem) (n2 s2 n3 s3 : Nat → Int32) : mS (mN (mS (mN N n2) s2) n3) s3 = mS (mN N n3) s3 := by rw [mN_mS, mS_mS, mN_mN]

set_option maxHeartbeats 1000000 in
theorem c_skip {G : sv_G} {K : sv_K} {x : Nat → Int32} {n : Nat} (X : sv_X G K cX3_perform RX3 5 6) {N : sv_Mem} (hT : TC N x n) {l1 l2 : Int32} {l4 : Option Value} : ∀ (c i e : Nat), i + c = e → e ≤ n → 1 ≤ i → (∀ j, i ≤ j → j < e → x (j - 1) ≠ nI 59) → sw_W G K 5 27 [some (.ref (sv_ad G 0 8 0)), some (.int l1), some (.int l2), some (.int (nI e)), l4] [] N → sw_W G K 5 27 [some (.ref (sv_ad G 0 8 0)), some (.int l1), some (.int l2), some (.int (nI i)), l4] [] N := by
  intro c
  induction c with
  | zero =>
    intro i e h he hi hx hW
    rw [show i = e by omega]
    exact hW
  | succ c ih =>
    intro i e h he hi hx hW
    have hn80 := hT.2.2.1
    refine sw_iload_3 X dX3_perform_27 ?_
    refine sw_aload_0 X dX3_perform_28 ?_
    refine gf_X3_26 X dX3_perform_29 ?_
    refine gf_X3_81 X dX3_perform_32 ?_
    refine sw_tope hT.2.1 ?_
    refine sw_icmp_ge X 90 dX3_perform_35 (by decide) (fun h35 => ?_) (fun h35 => ?_)
    ·
      exact absurd ((nI_leI (by omega) (by omega)).mp h35) (by omega)
    ·
      refine sw_aload_0 X dX3_perform_38 ?_
      refine gf_X3_26 X dX3_perform_39 ?_
      refine sw_iload_3 X dX3_perform_42 ?_
      refine ca_X3_89 X (by decide) dX3_perform_43 (Nat.le_of_ble_eq_true rfl) (c_X0_startsOrder hT (by omega)) ?_
      refine sw_ifB_eq X 84 dX3_perform_46 (by decide) (fun h46 => ?_) (fun h46 => ?_)
      ·
        first | refine sw_inc1_3 X dX3_perform_84 trivial ?_ | refine sw_iinc_3 X _ dX3_perform_84 rfl trivial ?_
        refine sw_goto X 27 dX3_perform_87 (by decide) ?_
        exact ih (i + 1) e (by omega) he (by omega) (fun j g1 g2 => hx j (by omega) g2) hW
      ·
        exact absurd h46 (fun z => z.elim (fun y => by omega) (hx i (Nat.le_refl _) (by omega)))
theorem c_exit {G : sv_G} {K : sv_K} {x : Nat → Int32} {n : Nat} (X : sv_X G K cX3_perform RX3 5 6) {N : sv_Mem} (hT : TC N x n) {l1 l2 : Int32} {l4 : Option Value} (hW : sw_W G K 5 90 [some (.ref (sv_ad G 0 8 0)), some (.int l1), some (.int l2), some (.int (nI n)), l4] [] N) : sw_W G K 5 27 [some (.ref (sv_ad G 0 8 0)), some (.int l1), some (.int l2), some (.int (nI n)), l4] [] N := by
  have hn80 := hT.2.2.1
  refine sw_iload_3 X dX3_perform_27 ?_
  refine sw_aload_0 X dX3_perform_28 ?_
  refine gf_X3_26 X dX3_perform_29 ?_
  refine gf_X3_81 X dX3_perform_32 ?_
  refine sw_tope hT.2.1 ?_
  refine sw_icmp_ge X 90 dX3_perform_35 (by decide) (fun h35 => ?_) (fun h35 => ?_)
  ·
    exact hW
  ·
    exact absurd (nI_le (Nat.le_refl n) (by omega)) h35
set_option maxHeartbeats 4000000 in
set_option maxRecDepth 100000 in
theorem perf_run {G : sv_G} {x : Nat → Int32} {n : Nat} (hn : n ≤ 80) (hval : ffT x n = -5) : ∀ (c p p2 k : Nat) (f : Nat → Int32) (T : sv_T) (s nn : Nat → Int32) (cs : Nat → Nat), n < p + c → okO x n p p2 f → f 6 = nI n → f 8 = nI p2 → f 13 = nI k → (p = 0 ∨ x (p - 1) = nI 59) → ffT x n = ffR x (n - p) p (nI 0) → RR T s cs → ∃ (T9 : sv_T) (s9 n9 : Nat → Int32) (cs9 : Nat → Nat) (k9 : Nat), k9 ≤ k + c ∧ RR T9 s9 cs9 ∧ CRun G x n p k T T9 k9 ∧ RRun G x f s nn s9 n9 k9 := by
  intro c
  induction c with
  | zero =>
    intro p p2 k f T s nn cs hc hok
    have := hok.1.1
    omega
  | succ c ih =>
    intro p p2 k f T s nn cs hc hok f6 f8 f13 hst hff hRR
    obtain ⟨hlt, h2n, q, ⟨hce, hne⟩, he⟩ := okO_ff hok
    have hpn := hok.1.1
    rw [he] at hff
    have hend : p2 = n ∨ x p2 = nI 59 := by
      by_cases e : p2 = n
      · exact Or.inl e
      · refine Or.inr (Decidable.of_not_not (fun z => ?_))
        rw [ff_bad (by omega) (hne (by omega) z)] at hff
        exact ff_neg p2 (by omega) (hff.symm.trans hval)
    have h59 := okO_59 hok hend
    obtain ⟨r, T2, s2, cs2, n2, hR2, hC, hr7, hcase⟩ := ord_sim (G := G) hok hend hRR nn
    have hFld : ∀ N : sv_Mem, N 9 4 0 = f → Fld N f := fun N h => by unfold Fld; rw [h]; exact ⟨rfl, rfl, rfl, rfl⟩
    rcases hcase with ⟨her, rfl, rfl, e, he0, hE⟩ | ⟨her, hE, hRc⟩
    · refine ⟨T2, s2, nn, cs, k, by omega, hRR, ?_, ?_⟩
      · intro K X N l1 l4 h0 hT hfin
        have hn80 := hT.2.2.1
        refine sw_iload_3 X dX3_perform_27 ?_
        refine sw_aload_0 X dX3_perform_28 ?_
        refine gf_X3_26 X dX3_perform_29 ?_
        refine gf_X3_81 X dX3_perform_32 ?_
        refine sw_tope hT.2.1 ?_
        refine sw_icmp_ge X 90 dX3_perform_35 (by decide) (fun h35 => ?_) (fun h35 => ?_)
        ·
          exact absurd ((nI_leI (by omega) (by omega)).mp h35) (by omega)
        ·
          refine sw_aload_0 X dX3_perform_38 ?_
          refine gf_X3_26 X dX3_perform_39 ?_
          refine sw_iload_3 X dX3_perform_42 ?_
          refine ca_X3_89 X (by decide) dX3_perform_43 (Nat.le_of_ble_eq_true rfl) (c_X0_startsOrder hT (by omega)) ?_
          refine sw_ifB_eq X 84 dX3_perform_46 (by decide) (fun h46 => ?_) (fun h46 => ?_)
          ·
            exact absurd hst h46
          ·
            refine sw_aload_0 X dX3_perform_49 ?_
            refine sw_iload_3 X dX3_perform_50 ?_
            refine ca_X3_93 X (by decide) dX3_perform_51 (Nat.le_of_ble_eq_true rfl) (hC N h0 hT) ?_
            refine sw_istore_4 X dX3_perform_54 trivial ?_
            refine sw_iload_4 X dX3_perform_56 ?_
            refine ca_X3_96 X (by decide) dX3_perform_58 (Nat.le_of_ble_eq_true rfl) c_X3_isError ?_
            refine sw_ifB_ne X 90 dX3_perform_61 (by decide) (fun h61 => ?_) (fun h61 => ?_)
            ·
              exact hfin _ _
            ·
              exact absurd her h61
      · intro N hs5 hn5 hf hx8
        refine ⟨f, fun _ _ => rfl, f13, ?_⟩
        intro K X Y
        rw [mR_same hf, ← hn5, mN_id, ← hs5, mS_id] at Y
        refine sw_iload_2 X dX4_readText_15 ?_
        refine sw_if_eq X 89 dX4_readText_16 (by decide) (fun h16 => ?_) (fun h16 => ?_)
        ·
          exact absurd h16 (by decide)
        ·
          refine sw_iload_1 X dX4_readText_19 ?_
          refine sw_if_eq X 41 dX4_readText_20 (by decide) (fun h20 => ?_) (fun h20 => ?_)
          ·
            exact absurd h20 (by decide)
          ·
            refine sw_aload_0 X dX4_readText_23 ?_
            refine ca_X4_204 X (by decide) dX4_readText_24 (Nat.le_of_ble_eq_true rfl) (hE N hs5 (hFld N hf)) ?_
            refine sw_if_lt X 39 dX4_readText_27 (by decide) (fun h27 => ?_) (fun h27 => ?_)
            ·
              refine sw_iconst X (nI 1) dX4_readText_39 (by decide) ?_
              exact sw_zret X Y dX4_readText_40 (rfl) (rfl) (rfl)
            ·
              exact absurd he0 h27
    · by_cases h6 : r = -6
      · refine ⟨T2, s2, n2, cs2, k, by omega, hR2, ?_, ?_⟩
        · intro K X N l1 l4 h0 hT hfin
          have hn80 := hT.2.2.1
          refine sw_iload_3 X dX3_perform_27 ?_
          refine sw_aload_0 X dX3_perform_28 ?_
          refine gf_X3_26 X dX3_perform_29 ?_
          refine gf_X3_81 X dX3_perform_32 ?_
          refine sw_tope hT.2.1 ?_
          refine sw_icmp_ge X 90 dX3_perform_35 (by decide) (fun h35 => ?_) (fun h35 => ?_)
          ·
            exact absurd ((nI_leI (by omega) (by omega)).mp h35) (by omega)
          ·
            refine sw_aload_0 X dX3_perform_38 ?_
            refine gf_X3_26 X dX3_perform_39 ?_
            refine sw_iload_3 X dX3_perform_42 ?_
            refine ca_X3_89 X (by decide) dX3_perform_43 (Nat.le_of_ble_eq_true rfl) (c_X0_startsOrder hT (by omega)) ?_
            refine sw_ifB_eq X 84 dX3_perform_46 (by decide) (fun h46 => ?_) (fun h46 => ?_)
            ·
              exact absurd hst h46
            ·
              refine sw_aload_0 X dX3_perform_49 ?_
              refine sw_iload_3 X dX3_perform_50 ?_
              refine ca_X3_93 X (by decide) dX3_perform_51 (Nat.le_of_ble_eq_true rfl) (hC N h0 hT) ?_
              refine sw_istore_4 X dX3_perform_54 trivial ?_
              refine sw_iload_4 X dX3_perform_56 ?_
              refine ca_X3_96 X (by decide) dX3_perform_58 (Nat.le_of_ble_eq_true rfl) c_X3_isError ?_
              refine sw_ifB_ne X 90 dX3_perform_61 (by decide) (fun h61 => ?_) (fun h61 => ?_)
              ·
                exact absurd h61 her
              ·
                refine sw_iload_4 X dX3_perform_64 ?_
                refine sw_bipush X (-6) dX3_perform_66 (by decide) ?_
                refine sw_icmp_eq X 90 dX3_perform_68 (by decide) (fun h68 => ?_) (fun h68 => ?_)
                ·
                  exact hfin _ _
                ·
                  exact absurd h6 h68
        · intro N hs5 hn5 hf hx8
          refine ⟨f, fun _ _ => rfl, f13, ?_⟩
          intro K X Y
          rw [mR_same hf] at Y
          refine sw_iload_2 X dX4_readText_15 ?_
          refine sw_if_eq X 89 dX4_readText_16 (by decide) (fun h16 => ?_) (fun h16 => ?_)
          ·
            exact absurd h16 (by decide)
          ·
            refine sw_iload_1 X dX4_readText_19 ?_
            refine sw_if_eq X 41 dX4_readText_20 (by decide) (fun h20 => ?_) (fun h20 => ?_)
            ·
              exact absurd h20 (by decide)
            ·
              refine sw_aload_0 X dX4_readText_23 ?_
              refine ca_X4_204 X (by decide) dX4_readText_24 (Nat.le_of_ble_eq_true rfl) (hE N hs5 (hFld N hf)) ?_
              refine sw_if_lt X 39 dX4_readText_27 (by decide) (fun h27 => ?_) (fun h27 => ?_)
              ·
                exact absurd h27 (by decide)
              ·
                refine sw_aload_0 X dX4_readText_30 ?_
                refine ca_X4_208 X (by decide) dX4_readText_31 (Nat.le_of_ble_eq_true rfl) (hRc N hs5 hn5 (hFld N hf)) ?_
                refine sw_bipush X (-6) dX4_readText_34 (by decide) ?_
                refine sw_icmp_ne X 41 dX4_readText_36 (by decide) (fun h36 => ?_) (fun h36 => ?_)
                ·
                  exact absurd h6 h36
                ·
                  refine sw_iconst X (nI 1) dX4_readText_39 (by decide) ?_
                  exact sw_zret X Y dX4_readText_40 (rfl) (rfl) (rfl)
      · by_cases hp2 : p2 = n
        · refine ⟨T2, s2, n2, cs2, k + 1, by omega, hR2, ?_, ?_⟩
          · intro K X N l1 l4 h0 hT hfin
            have hn80 := hT.2.2.1
            refine sw_iload_3 X dX3_perform_27 ?_
            refine sw_aload_0 X dX3_perform_28 ?_
            refine gf_X3_26 X dX3_perform_29 ?_
            refine gf_X3_81 X dX3_perform_32 ?_
            refine sw_tope hT.2.1 ?_
            refine sw_icmp_ge X 90 dX3_perform_35 (by decide) (fun h35 => ?_) (fun h35 => ?_)
            ·
              exact absurd ((nI_leI (by omega) (by omega)).mp h35) (by omega)
            ·
              refine sw_aload_0 X dX3_perform_38 ?_
              refine gf_X3_26 X dX3_perform_39 ?_
              refine sw_iload_3 X dX3_perform_42 ?_
              refine ca_X3_89 X (by decide) dX3_perform_43 (Nat.le_of_ble_eq_true rfl) (c_X0_startsOrder hT (by omega)) ?_
              refine sw_ifB_eq X 84 dX3_perform_46 (by decide) (fun h46 => ?_) (fun h46 => ?_)
              ·
                exact absurd hst h46
              ·
                refine sw_aload_0 X dX3_perform_49 ?_
                refine sw_iload_3 X dX3_perform_50 ?_
                refine ca_X3_93 X (by decide) dX3_perform_51 (Nat.le_of_ble_eq_true rfl) (hC N h0 hT) ?_
                refine sw_istore_4 X dX3_perform_54 trivial ?_
                refine sw_iload_4 X dX3_perform_56 ?_
                refine ca_X3_96 X (by decide) dX3_perform_58 (Nat.le_of_ble_eq_true rfl) c_X3_isError ?_
                refine sw_ifB_ne X 90 dX3_perform_61 (by decide) (fun h61 => ?_) (fun h61 => ?_)
                ·
                  exact absurd h61 her
                ·
                  refine sw_iload_4 X dX3_perform_64 ?_
                  refine sw_bipush X (-6) dX3_perform_66 (by decide) ?_
                  refine sw_icmp_eq X 90 dX3_perform_68 (by decide) (fun h68 => ?_) (fun h68 => ?_)
                  ·
                    exact absurd h68 h6
                  ·
                    refine sw_iload_4 X dX3_perform_71 ?_
                    refine sw_bipush X (-7) dX3_perform_73 (by decide) ?_
                    refine sw_icmp_ne X 81 dX3_perform_75 (by decide) (fun h75 => ?_) (fun h75 => ?_)
                    ·
                      first | refine sw_inc1_2 X dX3_perform_81 trivial ?_ | refine sw_iinc_2 X _ dX3_perform_81 rfl trivial ?_
                      first | refine sw_inc1_3 X dX3_perform_84 trivial ?_ | refine sw_iinc_3 X _ dX3_perform_84 rfl trivial ?_
                      refine sw_goto X 27 dX3_perform_87 (by decide) ?_
                      exact c_skip X (TC_sT hT) (n - (p + 1)) (p + 1) n (by omega) (Nat.le_refl _) (by omega) (fun j g1 g2 => h59 (j - 1) (by omega) (by omega)) (c_exit X (TC_sT hT) (hfin _ _))
                    ·
                      exact absurd h75 hr7
          · intro N hs5 hn5 hf hx8
            refine ⟨va_up f 13 (nI (k + 1)), fun i hi => va_up_ne _ _ (by omega), by rw [va_up_self], ?_⟩
            intro K X Y
            have hN2 : mS (mN N n2) s2 9 4 0 = f := (mSN_f N n2 s2).trans hf
            refine sw_iload_2 X dX4_readText_15 ?_
            refine sw_if_eq X 89 dX4_readText_16 (by decide) (fun h16 => ?_) (fun h16 => ?_)
            ·
              exact absurd h16 (by decide)
            ·
              refine sw_iload_1 X dX4_readText_19 ?_
              refine sw_if_eq X 41 dX4_readText_20 (by decide) (fun h20 => ?_) (fun h20 => ?_)
              ·
                exact absurd h20 (by decide)
              ·
                refine sw_aload_0 X dX4_readText_23 ?_
                refine ca_X4_204 X (by decide) dX4_readText_24 (Nat.le_of_ble_eq_true rfl) (hE N hs5 (hFld N hf)) ?_
                refine sw_if_lt X 39 dX4_readText_27 (by decide) (fun h27 => ?_) (fun h27 => ?_)
                ·
                  exact absurd h27 (by decide)
                ·
                  refine sw_aload_0 X dX4_readText_30 ?_
                  refine ca_X4_208 X (by decide) dX4_readText_31 (Nat.le_of_ble_eq_true rfl) (hRc N hs5 hn5 (hFld N hf)) ?_
                  refine sw_bipush X (-6) dX4_readText_34 (by decide) ?_
                  refine sw_icmp_ne X 41 dX4_readText_36 (by decide) (fun h36 => ?_) (fun h36 => ?_)
                  ·
                    refine sw_aload_0 X dX4_readText_41 ?_
                    refine sw_dup X dX4_readText_42 rfl ?_
                    refine gf_X4_198 X dX4_readText_43 ?_
                    refine sw_tope (v2 := nI k) (by rw [hN2]; exact f13) ?_
                    refine sw_iconst X (nI 1) dX4_readText_46 (by decide) ?_
                    refine sw_iadd X dX4_readText_47 ?_
                    try refine sw_tope (nI_add _ _) ?_
                    refine pf_X4_198 X dX4_readText_48 ?_
                    refine sw_mem (M2 := mR (mS (mN N n2) s2) (va_up f 13 (nI (k + 1)))) (by rw [up4, mF_R, hN2]) ?_
                    refine sw_aload_0 X dX4_readText_51 ?_
                    refine gf_X4_167 X dX4_readText_52 ?_
                    refine sw_tope (v2 := nI p2) (by rw [mR_f, va_up_ne _ _ (by omega)]; exact f8) ?_
                    refine sw_aload_0 X dX4_readText_55 ?_
                    refine gf_X4_164 X dX4_readText_56 ?_
                    refine sw_tope (v2 := nI n) (by rw [mR_f, va_up_ne _ _ (by omega)]; exact f6) ?_
                    refine sw_icmp_ne X 64 dX4_readText_59 (by decide) (fun h59_ => ?_) (fun h59_ => ?_)
                    ·
                      exact absurd (congrArg nI hp2) h59_
                    ·
                      refine sw_iconst X (nI 1) dX4_readText_62 (by decide) ?_
                      exact sw_zret X Y dX4_readText_63 (rfl) (rfl) (by rw [mR_N, mR_S])
                  ·
                    exact absurd (by first | exact h36 | exact Decidable.of_not_not h36) h6
        · have x59 := hend.resolve_left hp2
          rw [ff_step (q2 := nI 0) (by omega) (by rw [x59]; exact pa_59 hce) (by decide)] at hff
          obtain ⟨f4, p4, a1, a2, a3, a4, hok4, hct⟩ := ro_val (x := x) (f3 := va_up (va_up f 13 (nI (k + 1))) 8 (nI (p2 + 1))) (n := n) (p := p2 + 1) hn (by rw [va_up_ne _ _ (by omega), va_up_ne _ _ (by omega)]; exact f6) (by rw [va_up_self]) (by omega) (hff.symm.trans hval)
          obtain ⟨T9, s9, n9, cs9, k9, b1, b2, b3, b4⟩ := ih (p2 + 1) p4 (k + 1) f4 T2 s2 n2 cs2 (by omega) hok4 (by rw [a3 6 (by omega), va_up_ne _ _ (by omega), va_up_ne _ _ (by omega)]; exact f6) a2 (by rw [a4, va_up_ne _ _ (by omega), va_up_self]) (Or.inr (by rw [show p2 + 1 - 1 = p2 by omega]; exact x59)) hff hR2
          refine ⟨T9, s9, n9, cs9, k9, by omega, b2, ?_, ?_⟩
          · intro K X N l1 l4 h0 hT hfin
            have hn80 := hT.2.2.1
            refine sw_iload_3 X dX3_perform_27 ?_
            refine sw_aload_0 X dX3_perform_28 ?_
            refine gf_X3_26 X dX3_perform_29 ?_
            refine gf_X3_81 X dX3_perform_32 ?_
            refine sw_tope hT.2.1 ?_
            refine sw_icmp_ge X 90 dX3_perform_35 (by decide) (fun h35 => ?_) (fun h35 => ?_)
            ·
              exact absurd ((nI_leI (by omega) (by omega)).mp h35) (by omega)
            ·
              refine sw_aload_0 X dX3_perform_38 ?_
              refine gf_X3_26 X dX3_perform_39 ?_
              refine sw_iload_3 X dX3_perform_42 ?_
              refine ca_X3_89 X (by decide) dX3_perform_43 (Nat.le_of_ble_eq_true rfl) (c_X0_startsOrder hT (by omega)) ?_
              refine sw_ifB_eq X 84 dX3_perform_46 (by decide) (fun h46 => ?_) (fun h46 => ?_)
              ·
                exact absurd hst h46
              ·
                refine sw_aload_0 X dX3_perform_49 ?_
                refine sw_iload_3 X dX3_perform_50 ?_
                refine ca_X3_93 X (by decide) dX3_perform_51 (Nat.le_of_ble_eq_true rfl) (hC N h0 hT) ?_
                refine sw_istore_4 X dX3_perform_54 trivial ?_
                refine sw_iload_4 X dX3_perform_56 ?_
                refine ca_X3_96 X (by decide) dX3_perform_58 (Nat.le_of_ble_eq_true rfl) c_X3_isError ?_
                refine sw_ifB_ne X 90 dX3_perform_61 (by decide) (fun h61 => ?_) (fun h61 => ?_)
                ·
                  exact absurd h61 her
                ·
                  refine sw_iload_4 X dX3_perform_64 ?_
                  refine sw_bipush X (-6) dX3_perform_66 (by decide) ?_
                  refine sw_icmp_eq X 90 dX3_perform_68 (by decide) (fun h68 => ?_) (fun h68 => ?_)
                  ·
                    exact absurd h68 h6
                  ·
                    refine sw_iload_4 X dX3_perform_71 ?_
                    refine sw_bipush X (-7) dX3_perform_73 (by decide) ?_
                    refine sw_icmp_ne X 81 dX3_perform_75 (by decide) (fun h75 => ?_) (fun h75 => ?_)
                    ·
                      first | refine sw_inc1_2 X dX3_perform_81 trivial ?_ | refine sw_iinc_2 X _ dX3_perform_81 rfl trivial ?_
                      first | refine sw_inc1_3 X dX3_perform_84 trivial ?_ | refine sw_iinc_3 X _ dX3_perform_84 rfl trivial ?_
                      refine sw_goto X 27 dX3_perform_87 (by decide) ?_
                      refine c_skip X (TC_sT hT) (p2 + 1 - (p + 1)) (p + 1) (p2 + 1) (by omega) (by omega) (by omega) (fun j g1 g2 => h59 (j - 1) (by omega) (by omega)) ?_
                      refine b3 K X (sT N 0 T2) l1 _ (sT_at ..) (TC_sT hT) (fun l3 l5 => ?_)
                      rw [sT_sT]
                      exact hfin l3 l5
                    ·
                      exact absurd h75 hr7
          · intro N hs5 hn5 hf hx8
            have hN2 : mS (mN N n2) s2 9 4 0 = f := (mSN_f N n2 s2).trans hf
            obtain ⟨f9, c1, c2, c3⟩ := b4 (mR (mS (mN N n2) s2) f4) (by rw [mR_s, mS_s]) (by rw [mR_n, mS_n, mN_n]) (mR_f _ _) (by rw [mR_t, mSN_x]; exact hx8)
            refine ⟨f9, fun i hi => by rw [c1 i hi, a3 i hi, va_up_ne _ _ (by omega), va_up_ne _ _ (by omega)], c2, ?_⟩
            intro K X Y
            have eF : mS (mN (mR (mR (mS (mN N n2) s2) f4) f9) n9) s9 = mS (mN (mR N f9) n9) s9 := by rw [mR_R, mR_N, mR_N, mR_S, mR_S, mSN_SN]
            rw [← eF] at Y
            have TXX : TX (mR (mS (mN N n2) s2) (va_up f 13 (nI (k + 1)))) x n p2 := TX_R (by rw [mSN_x]; exact hx8) (by rw [va_up_ne _ _ (by omega)]; exact f6) hn (by rw [va_up_ne _ _ (by omega)]; exact f8) (by omega)
            have hns : nx x n p2 (nI 59) (nI 59) := ⟨by omega, by rw [x59]; exact inR_rfl _⟩
            have hmem3 : mF (mR (mS (mN N n2) s2) (va_up f 13 (nI (k + 1)))) 8 (nI (p2 + 1)) = mR (mS (mN N n2) s2) (va_up (va_up f 13 (nI (k + 1))) 8 (nI (p2 + 1))) := by rw [mF_R, mR_f, mR_R]
            have hct2 := hct G (mR (mS (mN N n2) s2) (va_up (va_up f 13 (nI (k + 1))) 8 (nI (p2 + 1)))) (mR_f _ _) (by rw [mR_t, mSN_x]; exact hx8)
            rw [mR_R] at hct2
            refine sw_iload_2 X dX4_readText_15 ?_
            refine sw_if_eq X 89 dX4_readText_16 (by decide) (fun h16 => ?_) (fun h16 => ?_)
            ·
              exact absurd h16 (by decide)
            ·
              refine sw_iload_1 X dX4_readText_19 ?_
              refine sw_if_eq X 41 dX4_readText_20 (by decide) (fun h20 => ?_) (fun h20 => ?_)
              ·
                exact absurd h20 (by decide)
              ·
                refine sw_aload_0 X dX4_readText_23 ?_
                refine ca_X4_204 X (by decide) dX4_readText_24 (Nat.le_of_ble_eq_true rfl) (hE N hs5 (hFld N hf)) ?_
                refine sw_if_lt X 39 dX4_readText_27 (by decide) (fun h27 => ?_) (fun h27 => ?_)
                ·
                  exact absurd h27 (by decide)
                ·
                  refine sw_aload_0 X dX4_readText_30 ?_
                  refine ca_X4_208 X (by decide) dX4_readText_31 (Nat.le_of_ble_eq_true rfl) (hRc N hs5 hn5 (hFld N hf)) ?_
                  refine sw_bipush X (-6) dX4_readText_34 (by decide) ?_
                  refine sw_icmp_ne X 41 dX4_readText_36 (by decide) (fun h36 => ?_) (fun h36 => ?_)
                  ·
                    refine sw_aload_0 X dX4_readText_41 ?_
                    refine sw_dup X dX4_readText_42 rfl ?_
                    refine gf_X4_198 X dX4_readText_43 ?_
                    refine sw_tope (v2 := nI k) (by rw [hN2]; exact f13) ?_
                    refine sw_iconst X (nI 1) dX4_readText_46 (by decide) ?_
                    refine sw_iadd X dX4_readText_47 ?_
                    try refine sw_tope (nI_add _ _) ?_
                    refine pf_X4_198 X dX4_readText_48 ?_
                    refine sw_mem (M2 := mR (mS (mN N n2) s2) (va_up f 13 (nI (k + 1)))) (by rw [up4, mF_R, hN2]) ?_
                    refine sw_aload_0 X dX4_readText_51 ?_
                    refine gf_X4_167 X dX4_readText_52 ?_
                    refine sw_tope (v2 := nI p2) (by rw [mR_f, va_up_ne _ _ (by omega)]; exact f8) ?_
                    refine sw_aload_0 X dX4_readText_55 ?_
                    refine gf_X4_164 X dX4_readText_56 ?_
                    refine sw_tope (v2 := nI n) (by rw [mR_f, va_up_ne _ _ (by omega)]; exact f6) ?_
                    refine sw_icmp_ne X 64 dX4_readText_59 (by decide) (fun h59_ => ?_) (fun h59_ => ?_)
                    ·
                      refine sw_aload_0 X dX4_readText_64 ?_
                      refine sw_bipush X (nI 59) dX4_readText_65 (by decide) ?_
                      refine ca_X4_192 X (by decide) dX4_readText_67 (Nat.le_of_ble_eq_true rfl) (c_X4_passes_y TXX hns) ?_
                      refine sw_ifB_eq X 84 dX4_readText_70 (by decide) (fun h70 => ?_) (fun h70 => ?_)
                      ·
                        exact absurd hns h70
                      ·
                        rw [hmem3]
                        refine sw_aload_0 X dX4_readText_73 ?_
                        refine ca_X4_201 X (by decide) dX4_readText_74 (Nat.le_of_ble_eq_true rfl) hct2 ?_
                        refine sw_ifB_eq X 84 dX4_readText_77 (by decide) (fun h77 => ?_) (fun h77 => ?_)
                        ·
                          exact absurd trivial h77
                        ·
                          refine sw_iconst X (nI 1) dX4_readText_80 (by decide) ?_
                          refine sw_goto X 85 dX4_readText_81 (by decide) ?_
                          refine sw_istore_2 X dX4_readText_85 trivial ?_
                          refine sw_goto X 15 dX4_readText_86 (by decide) ?_
                          exact c3 K X Y
                    ·
                      exact absurd ((nI_eq (by omega) (by omega)).mp (by first | exact h59_ | exact Decidable.of_not_not h59_)) hp2
                  ·
                    exact absurd (by first | exact h36 | exact Decidable.of_not_not h36) h6
set_option maxHeartbeats 4000000 in
set_option maxRecDepth 100000 in
theorem c_X3_perform_n {G : sv_G} {M : sv_Mem} {x : Nat → Int32} {n : Nat} (T : TC M x n) (hf : ffT x n ≠ -5) : sv_Ct G M_X3_perform 6 [.ref (sv_ad G 0 8 0)] M (some (.int (-100 - ffT x n))) (M) := by
  refine sv_Ct_of (lo := [some (.ref (sv_ad G 0 8 0)), none, none, none, none]) (pn_X3) rfl (Nat.le_of_ble_eq_true rfl) rfl (fun K X Y => ?_)
  replace X : sv_X G K cX3_perform RX3 5 6 := X
  replace Y : sv_Y G K (some .int) _ _ := Y
  show sw_W G K 5 0 _ _ _
  refine sw_aload_0 X dX3_perform_0 ?_
  refine gf_X3_26 X dX3_perform_1 ?_
  refine ca_X3_85 X (by decide) dX3_perform_4 (Nat.le_of_ble_eq_true rfl) (c_X0_firstFault T) ?_
  refine sw_istore_1 X dX3_perform_7 trivial ?_
  refine sw_iload_1 X dX3_perform_8 ?_
  refine sw_bipush X (-5) dX3_perform_9 (by decide) ?_
  refine sw_icmp_eq X 19 dX3_perform_11 (by decide) (fun h11 => ?_) (fun h11 => ?_)
  ·
    exact absurd (by first | exact h11 | exact Decidable.of_not_not h11) hf
  ·
    refine sw_bipush X (-100) dX3_perform_14 (by decide) ?_
    refine sw_iload_1 X dX3_perform_16 ?_
    refine sw_isub X dX3_perform_17 ?_
    exact sw_iret X Y dX3_perform_18 (rfl) (rfl)
set_option maxHeartbeats 4000000 in
set_option maxRecDepth 100000 in
theorem c_X3_perform_y {G : sv_G} {M : sv_Mem} {x : Nat → Int32} {n k9 o t : Nat} {cs : Nat → Nat} {T9 : sv_T} (T : TC M x n) (hf : ffT x n = -5) (hH : hsOk M o t cs) (hk : k9 ≤ 100) (hR : CRun G x n 0 0 (M 0) T9 k9) : sv_Ct G M_X3_perform 6 [.ref (sv_ad G 0 8 0)] M (some (.int (nI k9))) (rcY (sT (rmM M o t cs) 0 T9) o t) := by
  obtain ⟨ho, ho2, ht, ht2, hcs, hK⟩ := id hH
  have hT1 : TC (rmM M o t cs) x n := by obtain ⟨a, b, c, d⟩ := T; exact ⟨by rw [rmM_8]; exact a, by rw [rmM_8]; exact b, c, d⟩
  refine sv_Ct_of (lo := [some (.ref (sv_ad G 0 8 0)), none, none, none, none]) (pn_X3) rfl (Nat.le_of_ble_eq_true rfl) rfl (fun K X Y => ?_)
  replace X : sv_X G K cX3_perform RX3 5 6 := X
  replace Y : sv_Y G K (some .int) _ _ := Y
  show sw_W G K 5 0 _ _ _
  refine sw_aload_0 X dX3_perform_0 ?_
  refine gf_X3_26 X dX3_perform_1 ?_
  refine ca_X3_85 X (by decide) dX3_perform_4 (Nat.le_of_ble_eq_true rfl) (c_X0_firstFault T) ?_
  refine sw_istore_1 X dX3_perform_7 trivial ?_
  refine sw_iload_1 X dX3_perform_8 ?_
  refine sw_bipush X (-5) dX3_perform_9 (by decide) ?_
  refine sw_icmp_eq X 19 dX3_perform_11 (by decide) (fun h11 => ?_) (fun h11 => ?_)
  ·
    refine sw_aload_0 X dX3_perform_19 ?_
    refine ca_X3_30 X (by decide) dX3_perform_20 (Nat.le_of_ble_eq_true rfl) (c_X3_rememberState hH) ?_
    refine sw_iconst X (nI 0) dX3_perform_23 (by decide) ?_
    refine sw_istore_2 X dX3_perform_24 trivial ?_
    refine sw_iconst X (nI 0) dX3_perform_25 (by decide) ?_
    refine sw_istore_3 X dX3_perform_26 trivial ?_
    refine hR K X (rmM M o t cs) _ _ (rmM_0 M o t cs) hT1 (fun l3 l5 => ?_)
    refine sw_aload_0 X dX3_perform_90 ?_
    refine sw_iload_2 X dX3_perform_91 ?_
    refine ca_X3_37 X (by decide) dX3_perform_92 (Nat.le_of_ble_eq_true rfl) (c_X3_recordUnlessError_y (by rw [sT_ne _ _ (by omega), rmM_8]; exact ho) ho2 (by rw [sT_ne _ _ (by omega), rmM_8]; exact ht) ht2 (er_n _ (by omega))) ?_
    exact sw_iret X Y dX3_perform_95 (rfl) (rfl)
  ·
    exact absurd hf h11
