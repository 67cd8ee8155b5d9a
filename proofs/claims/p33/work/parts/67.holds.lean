theorem vo_neg {v : Int32} (h : vo v) : ¬ 0 ≤ v ↔ v = -5 := by
  rcases h with rfl | h
  · decide
  · exact ⟨fun z => absurd (Int32.not_lt.mp h.1) z, fun z => absurd z (in_n67 h).2.2.2⟩
theorem vs_step {T : sv_T} {r : Nat} : vsR T (r + 1) = if T 11 0 r = -5 then vsR T r else vsR T r + T 11 0 r := rfl
theorem cnt_one {p : Nat → Prop} [DecidablePred p] {n j : Nat} (hj : j < n) (h : p j) : 1 ≤ cnt p n := by
  induction n with
  | zero => omega
  | succ n ih =>
    by_cases e : j = n
    · subst e; rw [cnt_t h]; omega
    · have := ih (by omega)
      show 1 ≤ cnt p n + _
      omega
theorem cnt_ex {p : Nat → Prop} [DecidablePred p] : ∀ n, 1 ≤ cnt p n → ∃ j, j < n ∧ p j
  | 0, h => by
    have : 1 ≤ 0 := h
    omega
  | n + 1, h => by
    by_cases e : p n
    · exact ⟨n, by omega, e⟩
    · rw [cnt_f e] at h
      obtain ⟨j, a, b⟩ := cnt_ex n h
      exact ⟨j, by omega, b⟩
theorem cnt_le1 {p : Nat → Prop} [DecidablePred p] (j : Nat) : ∀ n, (∀ i, i < n → p i → i = j) → cnt p n ≤ 1
  | 0, _ => Nat.zero_le _
  | n + 1, h => by
    by_cases e : p n
    · have hj := h n (by omega) e
      have : cnt p n = cnt p 0 := cnt_zero 0 n (fun i _ b z => by
        have := h i (by omega) z
        omega) (by omega)
      rw [cnt_t e, this]
      exact Nat.le_refl _
    · rw [cnt_f e]
      exact cnt_le1 j n (fun i a b => h i (by omega) b)
/-- no key is locked alone by one session and at all by another one -/
theorem ex_any {T : sv_T} {cs : Nat → Nat} (h : SI T cs) {k : Nat} (hk : k < 16) (h1 : 1 ≤ cnt (fun j => md (T 14 j 1) k = nI 2) 3) : cnt (fun j => nI 0 < md (T 14 j 1) k) 3 ≤ 1 := by
  obtain ⟨j, hj, h2⟩ := cnt_ex 3 h1
  refine cnt_le1 j 3 (fun i hi z => ?_)
  by_cases e : i = j
  · exact e
  · have z0 := h.2.2.2 j i k hj hi (fun w => e w.symm) hk (mm_of hk (by omega) h2)
    have z : nI 0 < md (T 14 i 1) k := z
    rw [md_mm _ hk, z0] at z
    exact absurd z (by decide)
theorem com_0 {T : sv_T} {cs : Nat → Nat} (h : SI T cs) {k : Nat} (hk : k < 16) (h1 : cnt (fun j => md (T 14 j 1) k = nI 2) 3 = 0) : cvR T cs k 3 = T 11 0 k := com_no h hk (fun q hq z => by
  have := cnt_one (p := fun j => md (T 14 j 1) k = nI 2) hq ((md_iff hk (by omega)).mpr z)
  omega)

set_option maxHeartbeats 4000000 in
set_option maxRecDepth 100000 in
theorem c_L_holds {G : sv_G} {M : sv_Mem} {cs : Nat → Nat} (hI : SI (M 0) cs) : sv_Ct G M_L_holds 5 [.ref (sv_ad G 0 8 0)] M (some (.int (nI 1))) (M) := by
  have hle := cnt_le (fun k => M 0 11 0 k ≠ -5) 16
  refine sv_Ct_of (lo := [some (.ref (sv_ad G 0 8 0)), none, none, none, none, none, none]) (pn_L) rfl (Nat.le_of_ble_eq_true rfl) rfl (fun K X Y => ?_)
  replace X : sv_X G K cL_holds RL 7 5 := X
  replace Y : sv_Y G K (some .boolean) _ _ := Y
  show sw_W G K 7 0 _ _ _
  have H147 : ∀ (n : Nat) (s : Int32), n = cnt (fun k => M 0 11 0 k ≠ -5) 16 → s = vsR (M 0) 16 → sw_W G K 7 147 [some (.ref (sv_ad G 0 8 0)), some (.int (nI n)), some (.int s), some (.int (nI 16)), none, none, none] [] M := by
    intro n s hn hsm
    by_cases hz : cnt (fun k => M 0 11 0 k ≠ -5) 16 = 0
    · have cm : sv_Ct G M_X3_mean 1 [.ref (sv_ad G 0 8 0)] M (some (.double (FP.dconst0))) M := by
        have z := c_X3_mean (G := G) (M := M)
        rw [if_pos hz] at z
        exact z
      refine sw_aload_0 X dL_holds_147 ?_
      refine ca_L_36 X (by decide) dL_holds_148 (Nat.le_of_ble_eq_true rfl) cm ?_
      refine sw_iload_1 X dL_holds_151 ?_
      refine sw_if_ne X 159 dL_holds_152 (by decide) (fun h152 => ?_) (fun h152 => ?_)
      ·
        exact absurd (show nI n = 0 by rw [hn, hz]; rfl) h152
      ·
        refine sw_dconst0 X dL_holds_155 ?_
        refine sw_goto X 164 dL_holds_156 (by decide) ?_
        refine sw_dcmp X dL_holds_164 ?_
        refine sw_tope (v2 := nI 0) (by rw [q_0]; rfl) ?_
        refine sw_if_ne X 196 dL_holds_165 (by decide) (fun h165 => ?_) (fun h165 => ?_)
        ·
          exact absurd rfl h165
        ·
          refine sw_aload_0 X dL_holds_168 ?_
          refine sw_iconst X (nI 0) dL_holds_169 (by decide) ?_
          refine ca_L_40 X (by decide) dL_holds_170 (Nat.le_of_ble_eq_true rfl) (c_L_isSession (by decide) hI) ?_
          refine sw_if_eq X 196 dL_holds_173 (by decide) (fun h173 => ?_) (fun h173 => ?_)
          ·
            exact absurd h173 (by decide)
          ·
            refine sw_aload_0 X dL_holds_176 ?_
            refine sw_iconst X (nI 1) dL_holds_177 (by decide) ?_
            refine ca_L_40 X (by decide) dL_holds_178 (Nat.le_of_ble_eq_true rfl) (c_L_isSession (by decide) hI) ?_
            refine sw_if_eq X 196 dL_holds_181 (by decide) (fun h181 => ?_) (fun h181 => ?_)
            ·
              exact absurd h181 (by decide)
            ·
              refine sw_aload_0 X dL_holds_184 ?_
              refine sw_iconst X (nI 2) dL_holds_185 (by decide) ?_
              refine ca_L_40 X (by decide) dL_holds_186 (Nat.le_of_ble_eq_true rfl) (c_L_isSession (by decide) hI) ?_
              refine sw_if_eq X 196 dL_holds_189 (by decide) (fun h189 => ?_) (fun h189 => ?_)
              ·
                exact absurd h189 (by decide)
              ·
                refine sw_iconst X (nI 1) dL_holds_192 (by decide) ?_
                refine sw_goto X 197 dL_holds_193 (by decide) ?_
                exact sw_zret X Y dL_holds_197 (by first | rfl | exact sv_nzB) (rfl) (rfl)
    · have cm : sv_Ct G M_X3_mean 1 [.ref (sv_ad G 0 8 0)] M (some (.double (FP.ddiv (FP.i2d (vsR (M 0) 16)) (FP.i2d (nI (cnt (fun k => M 0 11 0 k ≠ -5) 16)))))) M := by
        have z := c_X3_mean (G := G) (M := M)
        rw [if_neg hz] at z
        exact z
      refine sw_aload_0 X dL_holds_147 ?_
      refine ca_L_36 X (by decide) dL_holds_148 (Nat.le_of_ble_eq_true rfl) cm ?_
      refine sw_iload_1 X dL_holds_151 ?_
      refine sw_if_ne X 159 dL_holds_152 (by decide) (fun h152 => ?_) (fun h152 => ?_)
      ·
        refine sw_iload_2 X dL_holds_159 ?_
        refine sw_i2d X dL_holds_160 ?_
        refine sw_iload_1 X dL_holds_161 ?_
        refine sw_i2d X dL_holds_162 ?_
        refine sw_ddiv X (by rw [hn]; exact q_mean _ hz hle) dL_holds_163 ?_
        rw [hn, hsm]
        refine sw_dcmp X dL_holds_164 ?_
        refine sw_tope (v2 := nI 0) (by rw [q_self (q_mean _ hz hle)]; rfl) ?_
        refine sw_if_ne X 196 dL_holds_165 (by decide) (fun h165 => ?_) (fun h165 => ?_)
        ·
          exact absurd rfl h165
        ·
          refine sw_aload_0 X dL_holds_168 ?_
          refine sw_iconst X (nI 0) dL_holds_169 (by decide) ?_
          refine ca_L_40 X (by decide) dL_holds_170 (Nat.le_of_ble_eq_true rfl) (c_L_isSession (by decide) hI) ?_
          refine sw_if_eq X 196 dL_holds_173 (by decide) (fun h173 => ?_) (fun h173 => ?_)
          ·
            exact absurd h173 (by decide)
          ·
            refine sw_aload_0 X dL_holds_176 ?_
            refine sw_iconst X (nI 1) dL_holds_177 (by decide) ?_
            refine ca_L_40 X (by decide) dL_holds_178 (Nat.le_of_ble_eq_true rfl) (c_L_isSession (by decide) hI) ?_
            refine sw_if_eq X 196 dL_holds_181 (by decide) (fun h181 => ?_) (fun h181 => ?_)
            ·
              exact absurd h181 (by decide)
            ·
              refine sw_aload_0 X dL_holds_184 ?_
              refine sw_iconst X (nI 2) dL_holds_185 (by decide) ?_
              refine ca_L_40 X (by decide) dL_holds_186 (Nat.le_of_ble_eq_true rfl) (c_L_isSession (by decide) hI) ?_
              refine sw_if_eq X 196 dL_holds_189 (by decide) (fun h189 => ?_) (fun h189 => ?_)
              ·
                exact absurd h189 (by decide)
              ·
                refine sw_iconst X (nI 1) dL_holds_192 (by decide) ?_
                refine sw_goto X 197 dL_holds_193 (by decide) ?_
                exact sw_zret X Y dL_holds_197 (by first | rfl | exact sv_nzB) (rfl) (rfl)
      ·
        exact absurd (hn.symm.trans (nJ (b := 0) (by omega) (by omega) h152)) hz
  have L6 : ∀ i0, i0 ≤ 16 → (fun r => ∀ (n : Nat) (s : Int32), n = cnt (fun k => M 0 11 0 k ≠ -5) r → s = vsR (M 0) r → sw_W G K 7 6 [some (.ref (sv_ad G 0 8 0)), some (.int (nI n)), some (.int s), some (.int (nI r)), none, none, none] [] M) i0 := by
    refine up_ind (N := 16) (P := fun r => ∀ (n : Nat) (s : Int32), n = cnt (fun k => M 0 11 0 k ≠ -5) r → s = vsR (M 0) r → sw_W G K 7 6 [some (.ref (sv_ad G 0 8 0)), some (.int (nI n)), some (.int s), some (.int (nI r)), none, none, none] [] M) ?_
    intro r hr3x ih n s hn hsm
    show sw_W _ _ _ _ _ _ _
    refine sw_iload_3 X dL_holds_6 ?_
    refine sw_bipush X (nI 16) dL_holds_7 (by decide) ?_
    refine sw_icmp_ge X 147 dL_holds_9 (by decide) (fun h9 => ?_) (fun h9 => ?_)
    ·
      have e9 : r = 16 := by have := (nI_leI (by omega) (by omega)).mp h9; omega
      subst e9
      exact H147 n s hn hsm
    ·
      have hr : r < 16 := by have := mt (nI_leI (by omega) (by omega)).mpr h9; omega
      refine sw_iconst X (nI 0) dL_holds_12 (by decide) ?_
      refine sw_istore_4 X dL_holds_13 trivial ?_
      refine sw_iconst X (nI 0) dL_holds_15 (by decide) ?_
      refine sw_istore_5 X dL_holds_16 trivial ?_
      refine sw_iconst X (nI 0) dL_holds_18 (by decide) ?_
      refine sw_istore_6 X dL_holds_19 trivial ?_
      have L21 : ∀ i0, i0 ≤ 3 → (fun a => ∀ x y : Nat, x = cnt (fun j => md (M 0 14 j 1) r = nI 2) a → y = cnt (fun j => nI 0 < md (M 0 14 j 1) r) a → sw_W G K 7 21 [some (.ref (sv_ad G 0 8 0)), some (.int (nI n)), some (.int s), some (.int (nI r)), some (.int (nI x)), some (.int (nI y)), some (.int (nI a))] [] M) i0 := by
        refine up_ind (N := 3) (P := fun a => ∀ x y : Nat, x = cnt (fun j => md (M 0 14 j 1) r = nI 2) a → y = cnt (fun j => nI 0 < md (M 0 14 j 1) r) a → sw_W G K 7 21 [some (.ref (sv_ad G 0 8 0)), some (.int (nI n)), some (.int s), some (.int (nI r)), some (.int (nI x)), some (.int (nI y)), some (.int (nI a))] [] M) ?_
        intro a ha3x ih2 x y hx hy
        show sw_W _ _ _ _ _ _ _
        refine sw_iload_6 X dL_holds_21 ?_
        refine sw_iconst X (nI 3) dL_holds_23 (by decide) ?_
        refine sw_icmp_ge X 74 dL_holds_24 (by decide) (fun h24 => ?_) (fun h24 => ?_)
        ·
          have e24 : a = 3 := by have := (nI_leI (by omega) (by omega)).mp h24; omega
          subst e24
          have hv := hI.2.1 r hr
          have hx3 := cnt_le (fun j => md (M 0 14 j 1) r = nI 2) 3
          have hy3 := cnt_le (fun j => nI 0 < md (M 0 14 j 1) r) 3
          have H105 : sw_W G K 7 105 [some (.ref (sv_ad G 0 8 0)), some (.int (nI n)), some (.int s), some (.int (nI r)), some (.int (nI x)), some (.int (nI y)), some (.int (nI 3))] [] M := by
            refine sw_iload_1 X dL_holds_105 ?_
            refine sw_aload_0 X dL_holds_106 ?_
            refine sw_iload_3 X dL_holds_107 ?_
            refine ca_L_10 X (by decide) dL_holds_108 (Nat.le_of_ble_eq_true rfl) (c_X3_value_y hr) ?_
            refine sw_if_ge X 118 dL_holds_111 (by decide) (fun h111 => ?_) (fun h111 => ?_)
            ·
              refine sw_iconst X (nI 1) dL_holds_118 (by decide) ?_
              refine sw_iadd X dL_holds_119 ?_
              try refine sw_tope (nI_add _ _) ?_
              refine sw_istore_1 X dL_holds_120 trivial ?_
              refine sw_iload_2 X dL_holds_121 ?_
              refine sw_aload_0 X dL_holds_122 ?_
              refine sw_iload_3 X dL_holds_123 ?_
              refine ca_L_10 X (by decide) dL_holds_124 (Nat.le_of_ble_eq_true rfl) (c_X3_value_y hr) ?_
              refine sw_if_ge X 134 dL_holds_127 (by decide) (fun h127 => ?_) (fun h127 => ?_)
              ·
                refine sw_aload_0 X dL_holds_134 ?_
                refine sw_iload_3 X dL_holds_135 ?_
                refine ca_L_10 X (by decide) dL_holds_136 (Nat.le_of_ble_eq_true rfl) (c_X3_value_y hr) ?_
                refine sw_iadd X dL_holds_139 ?_
                try refine sw_tope (nI_add _ _) ?_
                refine sw_istore_2 X dL_holds_140 trivial ?_
                first | refine sw_inc1_3 X dL_holds_141 trivial ?_ | refine sw_iinc_3 X _ dL_holds_141 rfl trivial ?_
                refine sw_goto X 6 dL_holds_144 (by decide) ?_
                refine sw_drop_4 ?_
                refine sw_drop_5 ?_
                refine sw_drop_6 ?_
                exact ih (r + 1) (by omega) (by omega) _ _ (by first | exact (congrArg (· + 1) hn).trans (cnt_t (p := fun k => M 0 11 0 k ≠ -5) (fun z => (vo_neg hv).mpr z h111)).symm | exact hn.trans (cnt_f (p := fun k => M 0 11 0 k ≠ -5) (fun z => z ((vo_neg hv).mp h111))).symm) (by rw [vs_step]; first | rw [if_neg (fun z => (vo_neg hv).mpr z h127), hsm] | (rw [if_pos ((vo_neg hv).mp h127), hsm]; exact Int32.add_zero _))
              ·
                refine sw_iconst X (nI 0) dL_holds_130 (by decide) ?_
                refine sw_goto X 139 dL_holds_131 (by decide) ?_
                refine sw_iadd X dL_holds_139 ?_
                try refine sw_tope (nI_add _ _) ?_
                refine sw_istore_2 X dL_holds_140 trivial ?_
                first | refine sw_inc1_3 X dL_holds_141 trivial ?_ | refine sw_iinc_3 X _ dL_holds_141 rfl trivial ?_
                refine sw_goto X 6 dL_holds_144 (by decide) ?_
                refine sw_drop_4 ?_
                refine sw_drop_5 ?_
                refine sw_drop_6 ?_
                exact ih (r + 1) (by omega) (by omega) _ _ (by first | exact (congrArg (· + 1) hn).trans (cnt_t (p := fun k => M 0 11 0 k ≠ -5) (fun z => (vo_neg hv).mpr z h111)).symm | exact hn.trans (cnt_f (p := fun k => M 0 11 0 k ≠ -5) (fun z => z ((vo_neg hv).mp h111))).symm) (by rw [vs_step]; first | rw [if_neg (fun z => (vo_neg hv).mpr z h127), hsm] | (rw [if_pos ((vo_neg hv).mp h127), hsm]; exact Int32.add_zero _))
            ·
              refine sw_iconst X (nI 0) dL_holds_114 (by decide) ?_
              refine sw_goto X 119 dL_holds_115 (by decide) ?_
              refine sw_iadd X dL_holds_119 ?_
              try refine sw_tope (nI_add _ _) ?_
              refine sw_istore_1 X dL_holds_120 trivial ?_
              refine sw_iload_2 X dL_holds_121 ?_
              refine sw_aload_0 X dL_holds_122 ?_
              refine sw_iload_3 X dL_holds_123 ?_
              refine ca_L_10 X (by decide) dL_holds_124 (Nat.le_of_ble_eq_true rfl) (c_X3_value_y hr) ?_
              refine sw_if_ge X 134 dL_holds_127 (by decide) (fun h127 => ?_) (fun h127 => ?_)
              ·
                refine sw_aload_0 X dL_holds_134 ?_
                refine sw_iload_3 X dL_holds_135 ?_
                refine ca_L_10 X (by decide) dL_holds_136 (Nat.le_of_ble_eq_true rfl) (c_X3_value_y hr) ?_
                refine sw_iadd X dL_holds_139 ?_
                try refine sw_tope (nI_add _ _) ?_
                refine sw_istore_2 X dL_holds_140 trivial ?_
                first | refine sw_inc1_3 X dL_holds_141 trivial ?_ | refine sw_iinc_3 X _ dL_holds_141 rfl trivial ?_
                refine sw_goto X 6 dL_holds_144 (by decide) ?_
                refine sw_drop_4 ?_
                refine sw_drop_5 ?_
                refine sw_drop_6 ?_
                exact ih (r + 1) (by omega) (by omega) _ _ (by first | exact (congrArg (· + 1) hn).trans (cnt_t (p := fun k => M 0 11 0 k ≠ -5) (fun z => (vo_neg hv).mpr z h111)).symm | exact hn.trans (cnt_f (p := fun k => M 0 11 0 k ≠ -5) (fun z => z ((vo_neg hv).mp h111))).symm) (by rw [vs_step]; first | rw [if_neg (fun z => (vo_neg hv).mpr z h127), hsm] | (rw [if_pos ((vo_neg hv).mp h127), hsm]; exact Int32.add_zero _))
              ·
                refine sw_iconst X (nI 0) dL_holds_130 (by decide) ?_
                refine sw_goto X 139 dL_holds_131 (by decide) ?_
                refine sw_iadd X dL_holds_139 ?_
                try refine sw_tope (nI_add _ _) ?_
                refine sw_istore_2 X dL_holds_140 trivial ?_
                first | refine sw_inc1_3 X dL_holds_141 trivial ?_ | refine sw_iinc_3 X _ dL_holds_141 rfl trivial ?_
                refine sw_goto X 6 dL_holds_144 (by decide) ?_
                refine sw_drop_4 ?_
                refine sw_drop_5 ?_
                refine sw_drop_6 ?_
                exact ih (r + 1) (by omega) (by omega) _ _ (by first | exact (congrArg (· + 1) hn).trans (cnt_t (p := fun k => M 0 11 0 k ≠ -5) (fun z => (vo_neg hv).mpr z h111)).symm | exact hn.trans (cnt_f (p := fun k => M 0 11 0 k ≠ -5) (fun z => z ((vo_neg hv).mp h111))).symm) (by rw [vs_step]; first | rw [if_neg (fun z => (vo_neg hv).mpr z h127), hsm] | (rw [if_pos ((vo_neg hv).mp h127), hsm]; exact Int32.add_zero _))
          have H85 : sw_W G K 7 85 [some (.ref (sv_ad G 0 8 0)), some (.int (nI n)), some (.int s), some (.int (nI r)), some (.int (nI x)), some (.int (nI y)), some (.int (nI 3))] [] M := by
            refine sw_iload_4 X dL_holds_85 ?_
            refine sw_if_ne X 105 dL_holds_87 (by decide) (fun h87 => ?_) (fun h87 => ?_)
            ·
              exact H105
            ·
              have hx0 : x = 0 := nJ (by omega) (by omega) h87
              refine sw_aload_0 X dL_holds_90 ?_
              refine sw_iload_3 X dL_holds_91 ?_
              refine ca_L_16 X (by decide) dL_holds_92 (Nat.le_of_ble_eq_true rfl) (c_X3_committed_y (cs := cs) (SI_cs hI) hr) ?_
              refine sw_aload_0 X dL_holds_95 ?_
              refine sw_iload_3 X dL_holds_96 ?_
              refine ca_L_10 X (by decide) dL_holds_97 (Nat.le_of_ble_eq_true rfl) (c_X3_value_y hr) ?_
              refine sw_icmp_eq X 105 dL_holds_100 (by decide) (fun h100 => ?_) (fun h100 => ?_)
              ·
                exact H105
              ·
                exact absurd (com_0 hI hr (hx ▸ hx0)) h100
          refine sw_iload_4 X dL_holds_74 ?_
          refine sw_if_le X 85 dL_holds_76 (by decide) (fun h76 => ?_) (fun h76 => ?_)
          ·
            exact H85
          ·
            have hx1 : 1 ≤ x := by have := (nI_ltI (a := 0) (b := x) (by omega) (by omega)).mp (Int32.not_le.mp h76); omega
            refine sw_iload_5 X dL_holds_79 ?_
            refine sw_iconst X (nI 1) dL_holds_81 (by decide) ?_
            refine sw_icmp_gt X 103 dL_holds_82 (by decide) (fun h82 => ?_) (fun h82 => ?_)
            ·
              exact absurd ((nI_ltI (by omega) (by omega)).mp h82) (by have := ex_any hI hr (hx ▸ hx1); omega)
            ·
              exact H85
        ·
          have ha : a < 3 := by have := mt (nI_leI (by omega) (by omega)).mpr h24; omega
          refine sw_iload_4 X dL_holds_27 ?_
          refine sw_aload_0 X dL_holds_29 ?_
          refine sw_iload_6 X dL_holds_30 ?_
          refine sw_iload_3 X dL_holds_32 ?_
          refine ca_L_19 X (by decide) dL_holds_33 (Nat.le_of_ble_eq_true rfl) (c_X3_mode_y ha hr) ?_
          refine sw_iconst X (nI 2) dL_holds_36 (by decide) ?_
          refine sw_icmp_ne X 44 dL_holds_37 (by decide) (fun h37 => ?_) (fun h37 => ?_)
          ·
            refine sw_iconst X (nI 0) dL_holds_44 (by decide) ?_
            refine sw_iadd X dL_holds_45 ?_
            try refine sw_tope (nI_add _ _) ?_
            refine sw_istore_4 X dL_holds_46 trivial ?_
            refine sw_iload_5 X dL_holds_48 ?_
            refine sw_aload_0 X dL_holds_50 ?_
            refine sw_iload_6 X dL_holds_51 ?_
            refine sw_iload_3 X dL_holds_53 ?_
            refine ca_L_19 X (by decide) dL_holds_54 (Nat.le_of_ble_eq_true rfl) (c_X3_mode_y ha hr) ?_
            refine sw_if_le X 64 dL_holds_57 (by decide) (fun h57 => ?_) (fun h57 => ?_)
            ·
              refine sw_iconst X (nI 0) dL_holds_64 (by decide) ?_
              refine sw_iadd X dL_holds_65 ?_
              try refine sw_tope (nI_add _ _) ?_
              refine sw_istore_5 X dL_holds_66 trivial ?_
              first | refine sw_inc1_6 X dL_holds_68 trivial ?_ | refine sw_iinc_6 X _ dL_holds_68 rfl trivial ?_
              refine sw_goto X 21 dL_holds_71 (by decide) ?_
              exact ih2 (a + 1) (by omega) (by omega) _ _ (by first | exact (congrArg (· + 1) hx).trans (cnt_t (by first | exact h37 | exact Int32.not_le.mp h37)).symm | exact hx.trans (cnt_f (by first | exact h37 | exact Int32.not_lt.mpr h37)).symm) (by first | exact (congrArg (· + 1) hy).trans (cnt_t (by first | exact h57 | exact Int32.not_le.mp h57)).symm | exact hy.trans (cnt_f (by first | exact h57 | exact Int32.not_lt.mpr h57)).symm)
            ·
              refine sw_iconst X (nI 1) dL_holds_60 (by decide) ?_
              refine sw_goto X 65 dL_holds_61 (by decide) ?_
              refine sw_iadd X dL_holds_65 ?_
              try refine sw_tope (nI_add _ _) ?_
              refine sw_istore_5 X dL_holds_66 trivial ?_
              first | refine sw_inc1_6 X dL_holds_68 trivial ?_ | refine sw_iinc_6 X _ dL_holds_68 rfl trivial ?_
              refine sw_goto X 21 dL_holds_71 (by decide) ?_
              exact ih2 (a + 1) (by omega) (by omega) _ _ (by first | exact (congrArg (· + 1) hx).trans (cnt_t (by first | exact h37 | exact Int32.not_le.mp h37)).symm | exact hx.trans (cnt_f (by first | exact h37 | exact Int32.not_lt.mpr h37)).symm) (by first | exact (congrArg (· + 1) hy).trans (cnt_t (by first | exact h57 | exact Int32.not_le.mp h57)).symm | exact hy.trans (cnt_f (by first | exact h57 | exact Int32.not_lt.mpr h57)).symm)
          ·
            refine sw_iconst X (nI 1) dL_holds_40 (by decide) ?_
            refine sw_goto X 45 dL_holds_41 (by decide) ?_
            refine sw_iadd X dL_holds_45 ?_
            try refine sw_tope (nI_add _ _) ?_
            refine sw_istore_4 X dL_holds_46 trivial ?_
            refine sw_iload_5 X dL_holds_48 ?_
            refine sw_aload_0 X dL_holds_50 ?_
            refine sw_iload_6 X dL_holds_51 ?_
            refine sw_iload_3 X dL_holds_53 ?_
            refine ca_L_19 X (by decide) dL_holds_54 (Nat.le_of_ble_eq_true rfl) (c_X3_mode_y ha hr) ?_
            refine sw_if_le X 64 dL_holds_57 (by decide) (fun h57 => ?_) (fun h57 => ?_)
            ·
              refine sw_iconst X (nI 0) dL_holds_64 (by decide) ?_
              refine sw_iadd X dL_holds_65 ?_
              try refine sw_tope (nI_add _ _) ?_
              refine sw_istore_5 X dL_holds_66 trivial ?_
              first | refine sw_inc1_6 X dL_holds_68 trivial ?_ | refine sw_iinc_6 X _ dL_holds_68 rfl trivial ?_
              refine sw_goto X 21 dL_holds_71 (by decide) ?_
              exact ih2 (a + 1) (by omega) (by omega) _ _ (by first | exact (congrArg (· + 1) hx).trans (cnt_t (by first | exact h37 | exact Int32.not_le.mp h37)).symm | exact hx.trans (cnt_f (by first | exact h37 | exact Int32.not_lt.mpr h37)).symm) (by first | exact (congrArg (· + 1) hy).trans (cnt_t (by first | exact h57 | exact Int32.not_le.mp h57)).symm | exact hy.trans (cnt_f (by first | exact h57 | exact Int32.not_lt.mpr h57)).symm)
            ·
              refine sw_iconst X (nI 1) dL_holds_60 (by decide) ?_
              refine sw_goto X 65 dL_holds_61 (by decide) ?_
              refine sw_iadd X dL_holds_65 ?_
              try refine sw_tope (nI_add _ _) ?_
              refine sw_istore_5 X dL_holds_66 trivial ?_
              first | refine sw_inc1_6 X dL_holds_68 trivial ?_ | refine sw_iinc_6 X _ dL_holds_68 rfl trivial ?_
              refine sw_goto X 21 dL_holds_71 (by decide) ?_
              exact ih2 (a + 1) (by omega) (by omega) _ _ (by first | exact (congrArg (· + 1) hx).trans (cnt_t (by first | exact h37 | exact Int32.not_le.mp h37)).symm | exact hx.trans (cnt_f (by first | exact h37 | exact Int32.not_lt.mpr h37)).symm) (by first | exact (congrArg (· + 1) hy).trans (cnt_t (by first | exact h57 | exact Int32.not_le.mp h57)).symm | exact hy.trans (cnt_f (by first | exact h57 | exact Int32.not_lt.mpr h57)).symm)
      exact L21 0 (by omega) 0 0 rfl rfl
  refine sw_iconst X (nI 0) dL_holds_0 (by decide) ?_
  refine sw_istore_1 X dL_holds_1 trivial ?_
  refine sw_iconst X (nI 0) dL_holds_2 (by decide) ?_
  refine sw_istore_2 X dL_holds_3 trivial ?_
  refine sw_iconst X (nI 0) dL_holds_4 (by decide) ?_
  refine sw_istore_3 X dL_holds_5 trivial ?_
  exact L6 0 (by omega) 0 (nI 0) rfl rfl
