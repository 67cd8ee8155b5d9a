/-- the keys that a commit or rollback tells -/
abbrev clP (M : sv_Mem) (q : Nat) : Nat → Prop := fun k => M 9 6 0 (16 * q + k) = nI 2 ∧ M 9 5 0 k ≠ M 9 5 0 (16 + k)

set_option maxHeartbeats 4000000 in
set_option maxRecDepth 100000 in
theorem c_L_closes_c_n {G : sv_G} {M : sv_Mem} (hg : 2 < gn G) {cs : Nat → Nat} {q : Nat} (hq : q < 3) (hl : cs q ≤ 13) (hc : M 0 14 q 0 = nI (cs q)) {M2 : sv_Mem} (hA : sv_Ct G M_X3_commit 4 [.ref (sv_ad G 0 8 0), .int (nI q)] M (some (.int (-4))) M2) (hz : cs q = 0) : sv_Ct G M_L_closes 5 [.ref (sv_ad G 0 8 0), .int (nI q), .int (nI 1), .ref (sv_ad G 5 9 0), .ref (sv_ad G 6 9 0)] M (some (.int (nI 1))) (M2) := by
  refine sv_Ct_of (lo := [some (.ref (sv_ad G 0 8 0)), some (.int (nI q)), some (.int (nI 1)), some (.ref (sv_ad G 5 9 0)), some (.ref (sv_ad G 6 9 0)), none, none, none, none, none]) (pn_L) rfl (Nat.le_of_ble_eq_true rfl) rfl (fun K X Y => ?_)
  replace X : sv_X G K cL_closes RL 10 5 := X
  replace Y : sv_Y G K (some .boolean) _ _ := Y
  show sw_W G K 10 0 _ _ _
  have L14 : ∀ i0, i0 ≤ 16 → (fun r => ∀ x : Nat, x = cnt (clP M q) r → sw_W G K 10 14 [some (.ref (sv_ad G 0 8 0)), some (.int (nI q)), some (.int (nI 1)), some (.ref (sv_ad G 5 9 0)), some (.ref (sv_ad G 6 9 0)), some (.int (bI (cs q ≠ 0))), some (.int (nI x)), some (.int (nI r)), none, none] [] M) i0 := by
    refine up_ind (N := 16) (P := fun r => ∀ x : Nat, x = cnt (clP M q) r → sw_W G K 10 14 [some (.ref (sv_ad G 0 8 0)), some (.int (nI q)), some (.int (nI 1)), some (.ref (sv_ad G 5 9 0)), some (.ref (sv_ad G 6 9 0)), some (.int (bI (cs q ≠ 0))), some (.int (nI x)), some (.int (nI r)), none, none] [] M) ?_
    intro r hr3x ih x hx
    show sw_W _ _ _ _ _ _ _
    refine sw_iload_7 X dL_closes_14 ?_
    refine sw_bipush X (nI 16) dL_closes_16 (by decide) ?_
    refine sw_icmp_ge X 65 dL_closes_18 (by decide) (fun h18 => ?_) (fun h18 => ?_)
    ·
      have e18 : r = 16 := by have := (nI_leI (by omega) (by omega)).mp h18; omega
      subst e18
      refine sw_iload_2 X dL_closes_65 ?_
      refine sw_if_eq X 77 dL_closes_66 (by decide) (fun h66 => ?_) (fun h66 => ?_)
      ·
        exact absurd h66 (by decide)
      ·
        refine sw_aload_0 X dL_closes_69 ?_
        refine sw_iload_1 X dL_closes_70 ?_
        refine ca_L_93 X (by decide) dL_closes_71 (Nat.le_of_ble_eq_true rfl) hA ?_
        refine sw_goto X 82 dL_closes_74 (by decide) ?_
        refine sw_istore_7 X dL_closes_82 trivial ?_
        refine sw_iload_5 X dL_closes_84 ?_
        refine sw_if_ne X 102 dL_closes_86 (by decide) (fun h86 => ?_) (fun h86 => ?_)
        ·
          exact absurd (bI_f (fun z => z hz)) h86
        ·
          refine sw_iload_7 X dL_closes_89 ?_
          refine sw_bipush X (-4) dL_closes_91 (by decide) ?_
          refine sw_icmp_ne X 100 dL_closes_93 (by decide) (fun h93 => ?_) (fun h93 => ?_)
          ·
            exact absurd rfl h93
          ·
            refine sw_iconst X (nI 1) dL_closes_96 (by decide) ?_
            refine sw_goto X 101 dL_closes_97 (by decide) ?_
            exact sw_zret X Y dL_closes_101 (by first | rfl | exact sv_nzB) (rfl) (rfl)
    ·
      have hr : r < 16 := by have := mt (nI_leI (by omega) (by omega)).mpr h18; omega
      refine sw_iload_6 X dL_closes_21 ?_
      refine sw_aload_4 X dL_closes_23 ?_
      refine sw_bipush X (nI 16) dL_closes_25 (by decide) ?_
      refine sw_iload_1 X dL_closes_27 ?_
      refine sw_imul X dL_closes_28 ?_
      try refine sw_tope (pk_mul _ _) ?_
      refine sw_iload_7 X dL_closes_29 ?_
      refine sw_iadd X dL_closes_31 ?_
      try refine sw_tope (nI_add _ _) ?_
      refine ia_6 X (by omega) rfl (by omega) dL_closes_32 ?_
      refine sw_iconst X (nI 2) dL_closes_33 (by decide) ?_
      refine sw_icmp_ne X 55 dL_closes_34 (by decide) (fun h34 => ?_) (fun h34 => ?_)
      ·
        refine sw_iconst X (nI 0) dL_closes_55 (by decide) ?_
        refine sw_iadd X dL_closes_56 ?_
        try refine sw_tope (nI_add _ _) ?_
        refine sw_istore_6 X dL_closes_57 trivial ?_
        first | refine sw_inc1_7 X dL_closes_59 trivial ?_ | refine sw_iinc_7 X _ dL_closes_59 rfl trivial ?_
        refine sw_goto X 14 dL_closes_62 (by decide) ?_
        exact ih (r + 1) (by omega) (by omega) _ (by first | exact (congrArg (· + 1) hx).trans (cnt_t (p := clP M q) (n := r) ⟨h34, h48⟩).symm | exact hx.trans (cnt_f (p := clP M q) (n := r) (fun z => z.2 h48)).symm | exact hx.trans (cnt_f (p := clP M q) (n := r) (fun z => h34 z.1)).symm)
      ·
        refine sw_aload_3 X dL_closes_37 ?_
        refine sw_iload_7 X dL_closes_38 ?_
        refine ia_5 X (by omega) rfl (by omega) dL_closes_40 ?_
        refine sw_aload_3 X dL_closes_41 ?_
        refine sw_bipush X (nI 16) dL_closes_42 (by decide) ?_
        refine sw_iload_7 X dL_closes_44 ?_
        refine sw_iadd X dL_closes_46 ?_
        try refine sw_tope (nI_add _ _) ?_
        refine ia_5 X (by omega) rfl (by omega) dL_closes_47 ?_
        refine sw_icmp_eq X 55 dL_closes_48 (by decide) (fun h48 => ?_) (fun h48 => ?_)
        ·
          refine sw_iconst X (nI 0) dL_closes_55 (by decide) ?_
          refine sw_iadd X dL_closes_56 ?_
          try refine sw_tope (nI_add _ _) ?_
          refine sw_istore_6 X dL_closes_57 trivial ?_
          first | refine sw_inc1_7 X dL_closes_59 trivial ?_ | refine sw_iinc_7 X _ dL_closes_59 rfl trivial ?_
          refine sw_goto X 14 dL_closes_62 (by decide) ?_
          exact ih (r + 1) (by omega) (by omega) _ (by first | exact (congrArg (· + 1) hx).trans (cnt_t (p := clP M q) (n := r) ⟨h34, h48⟩).symm | exact hx.trans (cnt_f (p := clP M q) (n := r) (fun z => z.2 h48)).symm | exact hx.trans (cnt_f (p := clP M q) (n := r) (fun z => h34 z.1)).symm)
        ·
          refine sw_iconst X (nI 1) dL_closes_51 (by decide) ?_
          refine sw_goto X 56 dL_closes_52 (by decide) ?_
          refine sw_iadd X dL_closes_56 ?_
          try refine sw_tope (nI_add _ _) ?_
          refine sw_istore_6 X dL_closes_57 trivial ?_
          first | refine sw_inc1_7 X dL_closes_59 trivial ?_ | refine sw_iinc_7 X _ dL_closes_59 rfl trivial ?_
          refine sw_goto X 14 dL_closes_62 (by decide) ?_
          exact ih (r + 1) (by omega) (by omega) _ (by first | exact (congrArg (· + 1) hx).trans (cnt_t (p := clP M q) (n := r) ⟨h34, h48⟩).symm | exact hx.trans (cnt_f (p := clP M q) (n := r) (fun z => z.2 h48)).symm | exact hx.trans (cnt_f (p := clP M q) (n := r) (fun z => h34 z.1)).symm)
  refine sw_aload_0 X dL_closes_0 ?_
  refine sw_iload_1 X dL_closes_1 ?_
  refine sw_iconst X (nI 0) dL_closes_2 (by decide) ?_
  refine ca_L_23 X (by decide) dL_closes_3 (Nat.le_of_ble_eq_true rfl) (c_X3_session_0 hq hc hl) ?_
  refine sw_istore_5 X dL_closes_6 trivial ?_
  refine sw_iconst X (nI 0) dL_closes_8 (by decide) ?_
  refine sw_istore_6 X dL_closes_9 trivial ?_
  refine sw_iconst X (nI 0) dL_closes_11 (by decide) ?_
  refine sw_istore_7 X dL_closes_12 trivial ?_
  exact L14 0 (by omega) 0 rfl
set_option maxHeartbeats 4000000 in
set_option maxRecDepth 100000 in
theorem c_L_closes_c_y {G : sv_G} {M : sv_Mem} (hg : 2 < gn G) {cs : Nat → Nat} {q : Nat} (hq : q < 3) (hl : cs q ≤ 13) (hc : M 0 14 q 0 = nI (cs q)) {M2 : sv_Mem} {n16 : Nat} (hA : sv_Ct G M_X3_commit 4 [.ref (sv_ad G 0 8 0), .int (nI q)] M (some (.int (nI n16))) M2) (hz : cs q ≠ 0) (hr16 : n16 = cnt (clP M q) 16) (hc2 : M2 0 14 q 0 = nI 0) (hlk : M2 0 14 q 1 = nI 0) (hMq : ∀ r, r < 48 → r / 16 ≠ q → md (M2 0 14 (r / 16) 1) (r % 16) = M2 9 6 0 r) (hv : ∀ k, k < 16 → M2 0 11 0 k = M2 9 5 0 k) : sv_Ct G M_L_closes 5 [.ref (sv_ad G 0 8 0), .int (nI q), .int (nI 1), .ref (sv_ad G 5 9 0), .ref (sv_ad G 6 9 0)] M (some (.int (nI 1))) (M2) := by
  refine sv_Ct_of (lo := [some (.ref (sv_ad G 0 8 0)), some (.int (nI q)), some (.int (nI 1)), some (.ref (sv_ad G 5 9 0)), some (.ref (sv_ad G 6 9 0)), none, none, none, none, none]) (pn_L) rfl (Nat.le_of_ble_eq_true rfl) rfl (fun K X Y => ?_)
  replace X : sv_X G K cL_closes RL 10 5 := X
  replace Y : sv_Y G K (some .boolean) _ _ := Y
  show sw_W G K 10 0 _ _ _
  have L14 : ∀ i0, i0 ≤ 16 → (fun r => ∀ x : Nat, x = cnt (clP M q) r → sw_W G K 10 14 [some (.ref (sv_ad G 0 8 0)), some (.int (nI q)), some (.int (nI 1)), some (.ref (sv_ad G 5 9 0)), some (.ref (sv_ad G 6 9 0)), some (.int (bI (cs q ≠ 0))), some (.int (nI x)), some (.int (nI r)), none, none] [] M) i0 := by
    refine up_ind (N := 16) (P := fun r => ∀ x : Nat, x = cnt (clP M q) r → sw_W G K 10 14 [some (.ref (sv_ad G 0 8 0)), some (.int (nI q)), some (.int (nI 1)), some (.ref (sv_ad G 5 9 0)), some (.ref (sv_ad G 6 9 0)), some (.int (bI (cs q ≠ 0))), some (.int (nI x)), some (.int (nI r)), none, none] [] M) ?_
    intro r hr3x ih x hx
    show sw_W _ _ _ _ _ _ _
    refine sw_iload_7 X dL_closes_14 ?_
    refine sw_bipush X (nI 16) dL_closes_16 (by decide) ?_
    refine sw_icmp_ge X 65 dL_closes_18 (by decide) (fun h18 => ?_) (fun h18 => ?_)
    ·
      have e18 : r = 16 := by have := (nI_leI (by omega) (by omega)).mp h18; omega
      subst e18
      refine sw_iload_2 X dL_closes_65 ?_
      refine sw_if_eq X 77 dL_closes_66 (by decide) (fun h66 => ?_) (fun h66 => ?_)
      ·
        exact absurd h66 (by decide)
      ·
        refine sw_aload_0 X dL_closes_69 ?_
        refine sw_iload_1 X dL_closes_70 ?_
        refine ca_L_93 X (by decide) dL_closes_71 (Nat.le_of_ble_eq_true rfl) hA ?_
        refine sw_goto X 82 dL_closes_74 (by decide) ?_
        refine sw_istore_7 X dL_closes_82 trivial ?_
        refine sw_iload_5 X dL_closes_84 ?_
        refine sw_if_ne X 102 dL_closes_86 (by decide) (fun h86 => ?_) (fun h86 => ?_)
        ·
          refine sw_iload_7 X dL_closes_102 ?_
          refine sw_iload_6 X dL_closes_104 ?_
          refine sw_icmp_ne X 132 dL_closes_106 (by decide) (fun h106 => ?_) (fun h106 => ?_)
          ·
            exact absurd (by rw [hr16, hx]) h106
          ·
            refine sw_aload_0 X dL_closes_109 ?_
            refine sw_iload_1 X dL_closes_110 ?_
            refine sw_iconst X (nI 0) dL_closes_111 (by decide) ?_
            refine ca_L_23 X (by decide) dL_closes_112 (Nat.le_of_ble_eq_true rfl) (c_X3_session_0 hq (c := 0) hc2 (by omega)) ?_
            refine sw_if_ne X 132 dL_closes_115 (by decide) (fun h115 => ?_) (fun h115 => ?_)
            ·
              exact absurd (bI_f (fun z => z rfl)) h115
            ·
              refine sw_aload_0 X dL_closes_118 ?_
              refine sw_aload_4 X dL_closes_119 ?_
              refine sw_iload_1 X dL_closes_121 ?_
              refine ca_L_80 X (by decide) dL_closes_122 (Nat.le_of_ble_eq_true rfl) (c_L_otherModes (by omega) (bn := q) hMq) ?_
              refine sw_if_ne X 132 dL_closes_125 (by decide) (fun h125 => ?_) (fun h125 => ?_)
              ·
                exact absurd rfl h125
              ·
                refine sw_iconst X (nI 1) dL_closes_128 (by decide) ?_
                refine sw_goto X 133 dL_closes_129 (by decide) ?_
                refine sw_istore_8 X dL_closes_133 trivial ?_
                refine sw_iconst X (nI 0) dL_closes_135 (by decide) ?_
                refine sw_istore_9 X dL_closes_136 trivial ?_
                have L138 : ∀ i0, i0 ≤ 16 → (fun k => sw_W G K 10 138 [some (.ref (sv_ad G 0 8 0)), some (.int (nI q)), some (.int (nI 1)), some (.ref (sv_ad G 5 9 0)), some (.ref (sv_ad G 6 9 0)), some (.int (bI (cs q ≠ 0))), some (.int (nI x)), some (.int (nI n16)), some (.int (nI 1)), some (.int (nI k))] [] M2) i0 := by
                  refine up_ind (N := 16) (P := fun k => sw_W G K 10 138 [some (.ref (sv_ad G 0 8 0)), some (.int (nI q)), some (.int (nI 1)), some (.ref (sv_ad G 5 9 0)), some (.ref (sv_ad G 6 9 0)), some (.int (bI (cs q ≠ 0))), some (.int (nI x)), some (.int (nI n16)), some (.int (nI 1)), some (.int (nI k))] [] M2) ?_
                  intro k hk3x ih3
                  show sw_W _ _ _ _ _ _ _
                  refine sw_iload_9 X dL_closes_138 ?_
                  refine sw_bipush X (nI 16) dL_closes_140 (by decide) ?_
                  refine sw_icmp_ge X 214 dL_closes_142 (by decide) (fun h142 => ?_) (fun h142 => ?_)
                  ·
                    have e142 : k = 16 := by have := (nI_leI (by omega) (by omega)).mp h142; omega
                    subst e142
                    refine sw_iload_8 X dL_closes_214 ?_
                    exact sw_zret X Y dL_closes_216 (by first | rfl | exact sv_nzB) (rfl) (rfl)
                  ·
                    have hk : k < 16 := by have := mt (nI_leI (by omega) (by omega)).mpr h142; omega
                    refine sw_iload_8 X dL_closes_145 ?_
                    refine sw_if_eq X 214 dL_closes_147 (by decide) (fun h147 => ?_) (fun h147 => ?_)
                    ·
                      exact absurd h147 (by decide)
                    ·
                      refine sw_aload_0 X dL_closes_150 ?_
                      refine sw_iload_1 X dL_closes_151 ?_
                      refine sw_iload_9 X dL_closes_152 ?_
                      refine ca_L_19 X (by decide) dL_closes_154 (Nat.le_of_ble_eq_true rfl) (c_X3_mode_y hq hk) ?_
                      refine sw_if_ne X 205 dL_closes_157 (by decide) (fun h157 => ?_) (fun h157 => ?_)
                      ·
                        exact absurd (show md (M2 0 14 q 1) k = 0 by rw [hlk, md_mm _ hk, mm_0]; rfl) h157
                      ·
                        refine sw_aload_0 X dL_closes_160 ?_
                        refine sw_iload_9 X dL_closes_161 ?_
                        refine ca_L_10 X (by decide) dL_closes_163 (Nat.le_of_ble_eq_true rfl) (c_X3_value_y hk) ?_
                        refine sw_iload_2 X dL_closes_166 ?_
                        refine sw_if_ne X 194 dL_closes_167 (by decide) (fun h167 => ?_) (fun h167 => ?_)
                        ·
                          refine sw_aload_3 X dL_closes_194 ?_
                          refine sw_iload_9 X dL_closes_195 ?_
                          refine ia_5 X (by omega) rfl (by omega) dL_closes_197 ?_
                          refine sw_icmp_ne X 205 dL_closes_198 (by decide) (fun h198 => ?_) (fun h198 => ?_)
                          ·
                            exact absurd (hv k hk) h198
                          ·
                            refine sw_iconst X (nI 1) dL_closes_201 (by decide) ?_
                            refine sw_goto X 206 dL_closes_202 (by decide) ?_
                            refine sw_istore_8 X dL_closes_206 trivial ?_
                            first | refine sw_inc1_9 X dL_closes_208 trivial ?_ | refine sw_iinc_9 X _ dL_closes_208 rfl trivial ?_
                            refine sw_goto X 138 dL_closes_211 (by decide) ?_
                            exact ih3 (k + 1) (by omega) (by omega)
                        ·
                          exact absurd h167 (by decide)
                exact L138 0 (by omega)
        ·
          exact absurd hz (bI_eq0.mp h86)
    ·
      have hr : r < 16 := by have := mt (nI_leI (by omega) (by omega)).mpr h18; omega
      refine sw_iload_6 X dL_closes_21 ?_
      refine sw_aload_4 X dL_closes_23 ?_
      refine sw_bipush X (nI 16) dL_closes_25 (by decide) ?_
      refine sw_iload_1 X dL_closes_27 ?_
      refine sw_imul X dL_closes_28 ?_
      try refine sw_tope (pk_mul _ _) ?_
      refine sw_iload_7 X dL_closes_29 ?_
      refine sw_iadd X dL_closes_31 ?_
      try refine sw_tope (nI_add _ _) ?_
      refine ia_6 X (by omega) rfl (by omega) dL_closes_32 ?_
      refine sw_iconst X (nI 2) dL_closes_33 (by decide) ?_
      refine sw_icmp_ne X 55 dL_closes_34 (by decide) (fun h34 => ?_) (fun h34 => ?_)
      ·
        refine sw_iconst X (nI 0) dL_closes_55 (by decide) ?_
        refine sw_iadd X dL_closes_56 ?_
        try refine sw_tope (nI_add _ _) ?_
        refine sw_istore_6 X dL_closes_57 trivial ?_
        first | refine sw_inc1_7 X dL_closes_59 trivial ?_ | refine sw_iinc_7 X _ dL_closes_59 rfl trivial ?_
        refine sw_goto X 14 dL_closes_62 (by decide) ?_
        exact ih (r + 1) (by omega) (by omega) _ (by first | exact (congrArg (· + 1) hx).trans (cnt_t (p := clP M q) (n := r) ⟨h34, h48⟩).symm | exact hx.trans (cnt_f (p := clP M q) (n := r) (fun z => z.2 h48)).symm | exact hx.trans (cnt_f (p := clP M q) (n := r) (fun z => h34 z.1)).symm)
      ·
        refine sw_aload_3 X dL_closes_37 ?_
        refine sw_iload_7 X dL_closes_38 ?_
        refine ia_5 X (by omega) rfl (by omega) dL_closes_40 ?_
        refine sw_aload_3 X dL_closes_41 ?_
        refine sw_bipush X (nI 16) dL_closes_42 (by decide) ?_
        refine sw_iload_7 X dL_closes_44 ?_
        refine sw_iadd X dL_closes_46 ?_
        try refine sw_tope (nI_add _ _) ?_
        refine ia_5 X (by omega) rfl (by omega) dL_closes_47 ?_
        refine sw_icmp_eq X 55 dL_closes_48 (by decide) (fun h48 => ?_) (fun h48 => ?_)
        ·
          refine sw_iconst X (nI 0) dL_closes_55 (by decide) ?_
          refine sw_iadd X dL_closes_56 ?_
          try refine sw_tope (nI_add _ _) ?_
          refine sw_istore_6 X dL_closes_57 trivial ?_
          first | refine sw_inc1_7 X dL_closes_59 trivial ?_ | refine sw_iinc_7 X _ dL_closes_59 rfl trivial ?_
          refine sw_goto X 14 dL_closes_62 (by decide) ?_
          exact ih (r + 1) (by omega) (by omega) _ (by first | exact (congrArg (· + 1) hx).trans (cnt_t (p := clP M q) (n := r) ⟨h34, h48⟩).symm | exact hx.trans (cnt_f (p := clP M q) (n := r) (fun z => z.2 h48)).symm | exact hx.trans (cnt_f (p := clP M q) (n := r) (fun z => h34 z.1)).symm)
        ·
          refine sw_iconst X (nI 1) dL_closes_51 (by decide) ?_
          refine sw_goto X 56 dL_closes_52 (by decide) ?_
          refine sw_iadd X dL_closes_56 ?_
          try refine sw_tope (nI_add _ _) ?_
          refine sw_istore_6 X dL_closes_57 trivial ?_
          first | refine sw_inc1_7 X dL_closes_59 trivial ?_ | refine sw_iinc_7 X _ dL_closes_59 rfl trivial ?_
          refine sw_goto X 14 dL_closes_62 (by decide) ?_
          exact ih (r + 1) (by omega) (by omega) _ (by first | exact (congrArg (· + 1) hx).trans (cnt_t (p := clP M q) (n := r) ⟨h34, h48⟩).symm | exact hx.trans (cnt_f (p := clP M q) (n := r) (fun z => z.2 h48)).symm | exact hx.trans (cnt_f (p := clP M q) (n := r) (fun z => h34 z.1)).symm)
  refine sw_aload_0 X dL_closes_0 ?_
  refine sw_iload_1 X dL_closes_1 ?_
  refine sw_iconst X (nI 0) dL_closes_2 (by decide) ?_
  refine ca_L_23 X (by decide) dL_closes_3 (Nat.le_of_ble_eq_true rfl) (c_X3_session_0 hq hc hl) ?_
  refine sw_istore_5 X dL_closes_6 trivial ?_
  refine sw_iconst X (nI 0) dL_closes_8 (by decide) ?_
  refine sw_istore_6 X dL_closes_9 trivial ?_
  refine sw_iconst X (nI 0) dL_closes_11 (by decide) ?_
  refine sw_istore_7 X dL_closes_12 trivial ?_
  exact L14 0 (by omega) 0 rfl
set_option maxHeartbeats 4000000 in
set_option maxRecDepth 100000 in
theorem c_L_closes_r_n {G : sv_G} {M : sv_Mem} (hg : 2 < gn G) {cs : Nat → Nat} {q : Nat} (hq : q < 3) (hl : cs q ≤ 13) (hc : M 0 14 q 0 = nI (cs q)) {M2 : sv_Mem} (hA : sv_Ct G M_X3_rollback 4 [.ref (sv_ad G 0 8 0), .int (nI q)] M (some (.int (-4))) M2) (hz : cs q = 0) : sv_Ct G M_L_closes 5 [.ref (sv_ad G 0 8 0), .int (nI q), .int (nI 0), .ref (sv_ad G 5 9 0), .ref (sv_ad G 6 9 0)] M (some (.int (nI 1))) (M2) := by
  refine sv_Ct_of (lo := [some (.ref (sv_ad G 0 8 0)), some (.int (nI q)), some (.int (nI 0)), some (.ref (sv_ad G 5 9 0)), some (.ref (sv_ad G 6 9 0)), none, none, none, none, none]) (pn_L) rfl (Nat.le_of_ble_eq_true rfl) rfl (fun K X Y => ?_)
  replace X : sv_X G K cL_closes RL 10 5 := X
  replace Y : sv_Y G K (some .boolean) _ _ := Y
  show sw_W G K 10 0 _ _ _
  have L14 : ∀ i0, i0 ≤ 16 → (fun r => ∀ x : Nat, x = cnt (clP M q) r → sw_W G K 10 14 [some (.ref (sv_ad G 0 8 0)), some (.int (nI q)), some (.int (nI 0)), some (.ref (sv_ad G 5 9 0)), some (.ref (sv_ad G 6 9 0)), some (.int (bI (cs q ≠ 0))), some (.int (nI x)), some (.int (nI r)), none, none] [] M) i0 := by
    refine up_ind (N := 16) (P := fun r => ∀ x : Nat, x = cnt (clP M q) r → sw_W G K 10 14 [some (.ref (sv_ad G 0 8 0)), some (.int (nI q)), some (.int (nI 0)), some (.ref (sv_ad G 5 9 0)), some (.ref (sv_ad G 6 9 0)), some (.int (bI (cs q ≠ 0))), some (.int (nI x)), some (.int (nI r)), none, none] [] M) ?_
    intro r hr3x ih x hx
    show sw_W _ _ _ _ _ _ _
    refine sw_iload_7 X dL_closes_14 ?_
    refine sw_bipush X (nI 16) dL_closes_16 (by decide) ?_
    refine sw_icmp_ge X 65 dL_closes_18 (by decide) (fun h18 => ?_) (fun h18 => ?_)
    ·
      have e18 : r = 16 := by have := (nI_leI (by omega) (by omega)).mp h18; omega
      subst e18
      refine sw_iload_2 X dL_closes_65 ?_
      refine sw_if_eq X 77 dL_closes_66 (by decide) (fun h66 => ?_) (fun h66 => ?_)
      ·
        refine sw_aload_0 X dL_closes_77 ?_
        refine sw_iload_1 X dL_closes_78 ?_
        refine ca_L_96 X (by decide) dL_closes_79 (Nat.le_of_ble_eq_true rfl) hA ?_
        refine sw_istore_7 X dL_closes_82 trivial ?_
        refine sw_iload_5 X dL_closes_84 ?_
        refine sw_if_ne X 102 dL_closes_86 (by decide) (fun h86 => ?_) (fun h86 => ?_)
        ·
          exact absurd (bI_f (fun z => z hz)) h86
        ·
          refine sw_iload_7 X dL_closes_89 ?_
          refine sw_bipush X (-4) dL_closes_91 (by decide) ?_
          refine sw_icmp_ne X 100 dL_closes_93 (by decide) (fun h93 => ?_) (fun h93 => ?_)
          ·
            exact absurd rfl h93
          ·
            refine sw_iconst X (nI 1) dL_closes_96 (by decide) ?_
            refine sw_goto X 101 dL_closes_97 (by decide) ?_
            exact sw_zret X Y dL_closes_101 (by first | rfl | exact sv_nzB) (rfl) (rfl)
      ·
        exact absurd rfl h66
    ·
      have hr : r < 16 := by have := mt (nI_leI (by omega) (by omega)).mpr h18; omega
      refine sw_iload_6 X dL_closes_21 ?_
      refine sw_aload_4 X dL_closes_23 ?_
      refine sw_bipush X (nI 16) dL_closes_25 (by decide) ?_
      refine sw_iload_1 X dL_closes_27 ?_
      refine sw_imul X dL_closes_28 ?_
      try refine sw_tope (pk_mul _ _) ?_
      refine sw_iload_7 X dL_closes_29 ?_
      refine sw_iadd X dL_closes_31 ?_
      try refine sw_tope (nI_add _ _) ?_
      refine ia_6 X (by omega) rfl (by omega) dL_closes_32 ?_
      refine sw_iconst X (nI 2) dL_closes_33 (by decide) ?_
      refine sw_icmp_ne X 55 dL_closes_34 (by decide) (fun h34 => ?_) (fun h34 => ?_)
      ·
        refine sw_iconst X (nI 0) dL_closes_55 (by decide) ?_
        refine sw_iadd X dL_closes_56 ?_
        try refine sw_tope (nI_add _ _) ?_
        refine sw_istore_6 X dL_closes_57 trivial ?_
        first | refine sw_inc1_7 X dL_closes_59 trivial ?_ | refine sw_iinc_7 X _ dL_closes_59 rfl trivial ?_
        refine sw_goto X 14 dL_closes_62 (by decide) ?_
        exact ih (r + 1) (by omega) (by omega) _ (by first | exact (congrArg (· + 1) hx).trans (cnt_t (p := clP M q) (n := r) ⟨h34, h48⟩).symm | exact hx.trans (cnt_f (p := clP M q) (n := r) (fun z => z.2 h48)).symm | exact hx.trans (cnt_f (p := clP M q) (n := r) (fun z => h34 z.1)).symm)
      ·
        refine sw_aload_3 X dL_closes_37 ?_
        refine sw_iload_7 X dL_closes_38 ?_
        refine ia_5 X (by omega) rfl (by omega) dL_closes_40 ?_
        refine sw_aload_3 X dL_closes_41 ?_
        refine sw_bipush X (nI 16) dL_closes_42 (by decide) ?_
        refine sw_iload_7 X dL_closes_44 ?_
        refine sw_iadd X dL_closes_46 ?_
        try refine sw_tope (nI_add _ _) ?_
        refine ia_5 X (by omega) rfl (by omega) dL_closes_47 ?_
        refine sw_icmp_eq X 55 dL_closes_48 (by decide) (fun h48 => ?_) (fun h48 => ?_)
        ·
          refine sw_iconst X (nI 0) dL_closes_55 (by decide) ?_
          refine sw_iadd X dL_closes_56 ?_
          try refine sw_tope (nI_add _ _) ?_
          refine sw_istore_6 X dL_closes_57 trivial ?_
          first | refine sw_inc1_7 X dL_closes_59 trivial ?_ | refine sw_iinc_7 X _ dL_closes_59 rfl trivial ?_
          refine sw_goto X 14 dL_closes_62 (by decide) ?_
          exact ih (r + 1) (by omega) (by omega) _ (by first | exact (congrArg (· + 1) hx).trans (cnt_t (p := clP M q) (n := r) ⟨h34, h48⟩).symm | exact hx.trans (cnt_f (p := clP M q) (n := r) (fun z => z.2 h48)).symm | exact hx.trans (cnt_f (p := clP M q) (n := r) (fun z => h34 z.1)).symm)
        ·
          refine sw_iconst X (nI 1) dL_closes_51 (by decide) ?_
          refine sw_goto X 56 dL_closes_52 (by decide) ?_
          refine sw_iadd X dL_closes_56 ?_
          try refine sw_tope (nI_add _ _) ?_
          refine sw_istore_6 X dL_closes_57 trivial ?_
          first | refine sw_inc1_7 X dL_closes_59 trivial ?_ | refine sw_iinc_7 X _ dL_closes_59 rfl trivial ?_
          refine sw_goto X 14 dL_closes_62 (by decide) ?_
          exact ih (r + 1) (by omega) (by omega) _ (by first | exact (congrArg (· + 1) hx).trans (cnt_t (p := clP M q) (n := r) ⟨h34, h48⟩).symm | exact hx.trans (cnt_f (p := clP M q) (n := r) (fun z => z.2 h48)).symm | exact hx.trans (cnt_f (p := clP M q) (n := r) (fun z => h34 z.1)).symm)
  refine sw_aload_0 X dL_closes_0 ?_
  refine sw_iload_1 X dL_closes_1 ?_
  refine sw_iconst X (nI 0) dL_closes_2 (by decide) ?_
  refine ca_L_23 X (by decide) dL_closes_3 (Nat.le_of_ble_eq_true rfl) (c_X3_session_0 hq hc hl) ?_
  refine sw_istore_5 X dL_closes_6 trivial ?_
  refine sw_iconst X (nI 0) dL_closes_8 (by decide) ?_
  refine sw_istore_6 X dL_closes_9 trivial ?_
  refine sw_iconst X (nI 0) dL_closes_11 (by decide) ?_
  refine sw_istore_7 X dL_closes_12 trivial ?_
  exact L14 0 (by omega) 0 rfl
set_option maxHeartbeats 4000000 in
set_option maxRecDepth 100000 in
theorem c_L_closes_r_y {G : sv_G} {M : sv_Mem} (hg : 2 < gn G) {cs : Nat → Nat} {q : Nat} (hq : q < 3) (hl : cs q ≤ 13) (hc : M 0 14 q 0 = nI (cs q)) {M2 : sv_Mem} {n16 : Nat} (hA : sv_Ct G M_X3_rollback 4 [.ref (sv_ad G 0 8 0), .int (nI q)] M (some (.int (nI n16))) M2) (hz : cs q ≠ 0) (hr16 : n16 = cnt (clP M q) 16) (hc2 : M2 0 14 q 0 = nI 0) (hlk : M2 0 14 q 1 = nI 0) (hMq : ∀ r, r < 48 → r / 16 ≠ q → md (M2 0 14 (r / 16) 1) (r % 16) = M2 9 6 0 r) (hv : ∀ k, k < 16 → M2 0 11 0 k = if ¬ M2 9 6 0 (16 * q + k) = nI 2 then M2 9 5 0 k else M2 9 5 0 (16 + k)) : sv_Ct G M_L_closes 5 [.ref (sv_ad G 0 8 0), .int (nI q), .int (nI 0), .ref (sv_ad G 5 9 0), .ref (sv_ad G 6 9 0)] M (some (.int (nI 1))) (M2) := by
  refine sv_Ct_of (lo := [some (.ref (sv_ad G 0 8 0)), some (.int (nI q)), some (.int (nI 0)), some (.ref (sv_ad G 5 9 0)), some (.ref (sv_ad G 6 9 0)), none, none, none, none, none]) (pn_L) rfl (Nat.le_of_ble_eq_true rfl) rfl (fun K X Y => ?_)
  replace X : sv_X G K cL_closes RL 10 5 := X
  replace Y : sv_Y G K (some .boolean) _ _ := Y
  show sw_W G K 10 0 _ _ _
  have L14 : ∀ i0, i0 ≤ 16 → (fun r => ∀ x : Nat, x = cnt (clP M q) r → sw_W G K 10 14 [some (.ref (sv_ad G 0 8 0)), some (.int (nI q)), some (.int (nI 0)), some (.ref (sv_ad G 5 9 0)), some (.ref (sv_ad G 6 9 0)), some (.int (bI (cs q ≠ 0))), some (.int (nI x)), some (.int (nI r)), none, none] [] M) i0 := by
    refine up_ind (N := 16) (P := fun r => ∀ x : Nat, x = cnt (clP M q) r → sw_W G K 10 14 [some (.ref (sv_ad G 0 8 0)), some (.int (nI q)), some (.int (nI 0)), some (.ref (sv_ad G 5 9 0)), some (.ref (sv_ad G 6 9 0)), some (.int (bI (cs q ≠ 0))), some (.int (nI x)), some (.int (nI r)), none, none] [] M) ?_
    intro r hr3x ih x hx
    show sw_W _ _ _ _ _ _ _
    refine sw_iload_7 X dL_closes_14 ?_
    refine sw_bipush X (nI 16) dL_closes_16 (by decide) ?_
    refine sw_icmp_ge X 65 dL_closes_18 (by decide) (fun h18 => ?_) (fun h18 => ?_)
    ·
      have e18 : r = 16 := by have := (nI_leI (by omega) (by omega)).mp h18; omega
      subst e18
      refine sw_iload_2 X dL_closes_65 ?_
      refine sw_if_eq X 77 dL_closes_66 (by decide) (fun h66 => ?_) (fun h66 => ?_)
      ·
        refine sw_aload_0 X dL_closes_77 ?_
        refine sw_iload_1 X dL_closes_78 ?_
        refine ca_L_96 X (by decide) dL_closes_79 (Nat.le_of_ble_eq_true rfl) hA ?_
        refine sw_istore_7 X dL_closes_82 trivial ?_
        refine sw_iload_5 X dL_closes_84 ?_
        refine sw_if_ne X 102 dL_closes_86 (by decide) (fun h86 => ?_) (fun h86 => ?_)
        ·
          refine sw_iload_7 X dL_closes_102 ?_
          refine sw_iload_6 X dL_closes_104 ?_
          refine sw_icmp_ne X 132 dL_closes_106 (by decide) (fun h106 => ?_) (fun h106 => ?_)
          ·
            exact absurd (by rw [hr16, hx]) h106
          ·
            refine sw_aload_0 X dL_closes_109 ?_
            refine sw_iload_1 X dL_closes_110 ?_
            refine sw_iconst X (nI 0) dL_closes_111 (by decide) ?_
            refine ca_L_23 X (by decide) dL_closes_112 (Nat.le_of_ble_eq_true rfl) (c_X3_session_0 hq (c := 0) hc2 (by omega)) ?_
            refine sw_if_ne X 132 dL_closes_115 (by decide) (fun h115 => ?_) (fun h115 => ?_)
            ·
              exact absurd (bI_f (fun z => z rfl)) h115
            ·
              refine sw_aload_0 X dL_closes_118 ?_
              refine sw_aload_4 X dL_closes_119 ?_
              refine sw_iload_1 X dL_closes_121 ?_
              refine ca_L_80 X (by decide) dL_closes_122 (Nat.le_of_ble_eq_true rfl) (c_L_otherModes (by omega) (bn := q) hMq) ?_
              refine sw_if_ne X 132 dL_closes_125 (by decide) (fun h125 => ?_) (fun h125 => ?_)
              ·
                exact absurd rfl h125
              ·
                refine sw_iconst X (nI 1) dL_closes_128 (by decide) ?_
                refine sw_goto X 133 dL_closes_129 (by decide) ?_
                refine sw_istore_8 X dL_closes_133 trivial ?_
                refine sw_iconst X (nI 0) dL_closes_135 (by decide) ?_
                refine sw_istore_9 X dL_closes_136 trivial ?_
                have L138 : ∀ i0, i0 ≤ 16 → (fun k => sw_W G K 10 138 [some (.ref (sv_ad G 0 8 0)), some (.int (nI q)), some (.int (nI 0)), some (.ref (sv_ad G 5 9 0)), some (.ref (sv_ad G 6 9 0)), some (.int (bI (cs q ≠ 0))), some (.int (nI x)), some (.int (nI n16)), some (.int (nI 1)), some (.int (nI k))] [] M2) i0 := by
                  refine up_ind (N := 16) (P := fun k => sw_W G K 10 138 [some (.ref (sv_ad G 0 8 0)), some (.int (nI q)), some (.int (nI 0)), some (.ref (sv_ad G 5 9 0)), some (.ref (sv_ad G 6 9 0)), some (.int (bI (cs q ≠ 0))), some (.int (nI x)), some (.int (nI n16)), some (.int (nI 1)), some (.int (nI k))] [] M2) ?_
                  intro k hk3x ih3
                  show sw_W _ _ _ _ _ _ _
                  refine sw_iload_9 X dL_closes_138 ?_
                  refine sw_bipush X (nI 16) dL_closes_140 (by decide) ?_
                  refine sw_icmp_ge X 214 dL_closes_142 (by decide) (fun h142 => ?_) (fun h142 => ?_)
                  ·
                    have e142 : k = 16 := by have := (nI_leI (by omega) (by omega)).mp h142; omega
                    subst e142
                    refine sw_iload_8 X dL_closes_214 ?_
                    exact sw_zret X Y dL_closes_216 (by first | rfl | exact sv_nzB) (rfl) (rfl)
                  ·
                    have hk : k < 16 := by have := mt (nI_leI (by omega) (by omega)).mpr h142; omega
                    refine sw_iload_8 X dL_closes_145 ?_
                    refine sw_if_eq X 214 dL_closes_147 (by decide) (fun h147 => ?_) (fun h147 => ?_)
                    ·
                      exact absurd h147 (by decide)
                    ·
                      refine sw_aload_0 X dL_closes_150 ?_
                      refine sw_iload_1 X dL_closes_151 ?_
                      refine sw_iload_9 X dL_closes_152 ?_
                      refine ca_L_19 X (by decide) dL_closes_154 (Nat.le_of_ble_eq_true rfl) (c_X3_mode_y hq hk) ?_
                      refine sw_if_ne X 205 dL_closes_157 (by decide) (fun h157 => ?_) (fun h157 => ?_)
                      ·
                        exact absurd (show md (M2 0 14 q 1) k = 0 by rw [hlk, md_mm _ hk, mm_0]; rfl) h157
                      ·
                        refine sw_aload_0 X dL_closes_160 ?_
                        refine sw_iload_9 X dL_closes_161 ?_
                        refine ca_L_10 X (by decide) dL_closes_163 (Nat.le_of_ble_eq_true rfl) (c_X3_value_y hk) ?_
                        refine sw_iload_2 X dL_closes_166 ?_
                        refine sw_if_ne X 194 dL_closes_167 (by decide) (fun h167 => ?_) (fun h167 => ?_)
                        ·
                          exact absurd rfl h167
                        ·
                          refine sw_aload_4 X dL_closes_170 ?_
                          refine sw_bipush X (nI 16) dL_closes_172 (by decide) ?_
                          refine sw_iload_1 X dL_closes_174 ?_
                          refine sw_imul X dL_closes_175 ?_
                          try refine sw_tope (pk_mul _ _) ?_
                          refine sw_iload_9 X dL_closes_176 ?_
                          refine sw_iadd X dL_closes_178 ?_
                          try refine sw_tope (nI_add _ _) ?_
                          refine ia_6 X (by omega) rfl (by omega) dL_closes_179 ?_
                          refine sw_iconst X (nI 2) dL_closes_180 (by decide) ?_
                          refine sw_icmp_ne X 194 dL_closes_181 (by decide) (fun h181 => ?_) (fun h181 => ?_)
                          ·
                            refine sw_aload_3 X dL_closes_194 ?_
                            refine sw_iload_9 X dL_closes_195 ?_
                            refine ia_5 X (by omega) rfl (by omega) dL_closes_197 ?_
                            refine sw_icmp_ne X 205 dL_closes_198 (by decide) (fun h198 => ?_) (fun h198 => ?_)
                            ·
                              exact absurd ((hv k hk).trans (by first | exact if_pos h181 | exact if_neg (fun z => z h181))) h198
                            ·
                              refine sw_iconst X (nI 1) dL_closes_201 (by decide) ?_
                              refine sw_goto X 206 dL_closes_202 (by decide) ?_
                              refine sw_istore_8 X dL_closes_206 trivial ?_
                              first | refine sw_inc1_9 X dL_closes_208 trivial ?_ | refine sw_iinc_9 X _ dL_closes_208 rfl trivial ?_
                              refine sw_goto X 138 dL_closes_211 (by decide) ?_
                              exact ih3 (k + 1) (by omega) (by omega)
                          ·
                            refine sw_aload_3 X dL_closes_184 ?_
                            refine sw_bipush X (nI 16) dL_closes_185 (by decide) ?_
                            refine sw_iload_9 X dL_closes_187 ?_
                            refine sw_iadd X dL_closes_189 ?_
                            try refine sw_tope (nI_add _ _) ?_
                            refine ia_5 X (by omega) rfl (by omega) dL_closes_190 ?_
                            refine sw_goto X 198 dL_closes_191 (by decide) ?_
                            refine sw_icmp_ne X 205 dL_closes_198 (by decide) (fun h198 => ?_) (fun h198 => ?_)
                            ·
                              exact absurd ((hv k hk).trans (by first | exact if_pos h181 | exact if_neg (fun z => z h181))) h198
                            ·
                              refine sw_iconst X (nI 1) dL_closes_201 (by decide) ?_
                              refine sw_goto X 206 dL_closes_202 (by decide) ?_
                              refine sw_istore_8 X dL_closes_206 trivial ?_
                              first | refine sw_inc1_9 X dL_closes_208 trivial ?_ | refine sw_iinc_9 X _ dL_closes_208 rfl trivial ?_
                              refine sw_goto X 138 dL_closes_211 (by decide) ?_
                              exact ih3 (k + 1) (by omega) (by omega)
                exact L138 0 (by omega)
        ·
          exact absurd hz (bI_eq0.mp h86)
      ·
        exact absurd rfl h66
    ·
      have hr : r < 16 := by have := mt (nI_leI (by omega) (by omega)).mpr h18; omega
      refine sw_iload_6 X dL_closes_21 ?_
      refine sw_aload_4 X dL_closes_23 ?_
      refine sw_bipush X (nI 16) dL_closes_25 (by decide) ?_
      refine sw_iload_1 X dL_closes_27 ?_
      refine sw_imul X dL_closes_28 ?_
      try refine sw_tope (pk_mul _ _) ?_
      refine sw_iload_7 X dL_closes_29 ?_
      refine sw_iadd X dL_closes_31 ?_
      try refine sw_tope (nI_add _ _) ?_
      refine ia_6 X (by omega) rfl (by omega) dL_closes_32 ?_
      refine sw_iconst X (nI 2) dL_closes_33 (by decide) ?_
      refine sw_icmp_ne X 55 dL_closes_34 (by decide) (fun h34 => ?_) (fun h34 => ?_)
      ·
        refine sw_iconst X (nI 0) dL_closes_55 (by decide) ?_
        refine sw_iadd X dL_closes_56 ?_
        try refine sw_tope (nI_add _ _) ?_
        refine sw_istore_6 X dL_closes_57 trivial ?_
        first | refine sw_inc1_7 X dL_closes_59 trivial ?_ | refine sw_iinc_7 X _ dL_closes_59 rfl trivial ?_
        refine sw_goto X 14 dL_closes_62 (by decide) ?_
        exact ih (r + 1) (by omega) (by omega) _ (by first | exact (congrArg (· + 1) hx).trans (cnt_t (p := clP M q) (n := r) ⟨h34, h48⟩).symm | exact hx.trans (cnt_f (p := clP M q) (n := r) (fun z => z.2 h48)).symm | exact hx.trans (cnt_f (p := clP M q) (n := r) (fun z => h34 z.1)).symm)
      ·
        refine sw_aload_3 X dL_closes_37 ?_
        refine sw_iload_7 X dL_closes_38 ?_
        refine ia_5 X (by omega) rfl (by omega) dL_closes_40 ?_
        refine sw_aload_3 X dL_closes_41 ?_
        refine sw_bipush X (nI 16) dL_closes_42 (by decide) ?_
        refine sw_iload_7 X dL_closes_44 ?_
        refine sw_iadd X dL_closes_46 ?_
        try refine sw_tope (nI_add _ _) ?_
        refine ia_5 X (by omega) rfl (by omega) dL_closes_47 ?_
        refine sw_icmp_eq X 55 dL_closes_48 (by decide) (fun h48 => ?_) (fun h48 => ?_)
        ·
          refine sw_iconst X (nI 0) dL_closes_55 (by decide) ?_
          refine sw_iadd X dL_closes_56 ?_
          try refine sw_tope (nI_add _ _) ?_
          refine sw_istore_6 X dL_closes_57 trivial ?_
          first | refine sw_inc1_7 X dL_closes_59 trivial ?_ | refine sw_iinc_7 X _ dL_closes_59 rfl trivial ?_
          refine sw_goto X 14 dL_closes_62 (by decide) ?_
          exact ih (r + 1) (by omega) (by omega) _ (by first | exact (congrArg (· + 1) hx).trans (cnt_t (p := clP M q) (n := r) ⟨h34, h48⟩).symm | exact hx.trans (cnt_f (p := clP M q) (n := r) (fun z => z.2 h48)).symm | exact hx.trans (cnt_f (p := clP M q) (n := r) (fun z => h34 z.1)).symm)
        ·
          refine sw_iconst X (nI 1) dL_closes_51 (by decide) ?_
          refine sw_goto X 56 dL_closes_52 (by decide) ?_
          refine sw_iadd X dL_closes_56 ?_
          try refine sw_tope (nI_add _ _) ?_
          refine sw_istore_6 X dL_closes_57 trivial ?_
          first | refine sw_inc1_7 X dL_closes_59 trivial ?_ | refine sw_iinc_7 X _ dL_closes_59 rfl trivial ?_
          refine sw_goto X 14 dL_closes_62 (by decide) ?_
          exact ih (r + 1) (by omega) (by omega) _ (by first | exact (congrArg (· + 1) hx).trans (cnt_t (p := clP M q) (n := r) ⟨h34, h48⟩).symm | exact hx.trans (cnt_f (p := clP M q) (n := r) (fun z => z.2 h48)).symm | exact hx.trans (cnt_f (p := clP M q) (n := r) (fun z => h34 z.1)).symm)
  refine sw_aload_0 X dL_closes_0 ?_
  refine sw_iload_1 X dL_closes_1 ?_
  refine sw_iconst X (nI 0) dL_closes_2 (by decide) ?_
  refine ca_L_23 X (by decide) dL_closes_3 (Nat.le_of_ble_eq_true rfl) (c_X3_session_0 hq hc hl) ?_
  refine sw_istore_5 X dL_closes_6 trivial ?_
  refine sw_iconst X (nI 0) dL_closes_8 (by decide) ?_
  refine sw_istore_6 X dL_closes_9 trivial ?_
  refine sw_iconst X (nI 0) dL_closes_11 (by decide) ?_
  refine sw_istore_7 X dL_closes_12 trivial ?_
  exact L14 0 (by omega) 0 rfl
theorem BM_q {M : sv_Mem} {T : sv_T} {cs : Nat → Nat} (hB : BM M T cs) {q k : Nat} (hq : q < 3) (hk : k < 16) : M 9 6 0 (16 * q + k) = md (T 14 q 1) k := by
  rw [hB.2.2 _ (by omega), show (16 * q + k) / 16 = q by omega, show (16 * q + k) % 16 = k by omega]
theorem cl_cnt {M : sv_Mem} {cs : Nat → Nat} (hI : SI (M 0) cs) (hB : BM M (M 0) cs) {q : Nat} (hq : q < 3) : cnt (difP (M 0) q 0 (cs q)) 16 = cnt (clP M q) 16 := by
  refine cnt_congr (fun k hk => ?_)
  show vaR (M 0) q k (M 0 11 0 k) (cs q) 0 ≠ M 0 11 0 k ↔ M 9 6 0 (16 * q + k) = nI 2 ∧ M 9 5 0 k ≠ M 9 5 0 (16 + k)
  rw [BM_q hB hq hk, hB.1 k hk, hB.2.1 k hk]
  by_cases h2 : mm (M 0 14 q 1) k = 2
  · rw [com_two hI hq hk h2]
    exact ⟨fun z => ⟨(md_iff hk (by omega)).mpr h2, fun w => z w.symm⟩, fun z w => z.2 w.symm⟩
  · rw [va_id ((hI.2.2.1 q hq).2.1.2.2.1 k hk) (Nat.zero_le _) h2]
    exact ⟨fun z => absurd rfl z, fun z => absurd ((md_iff hk (by omega)).mp z.1) h2⟩
theorem closes_all {M : sv_Mem} {cs : Nat → Nat} (hI : SI (M 0) cs) (hm : HM M) (hB : BM M (M 0) cs) {q i : Nat} (hq : q < 3) (hi : i < 2) : ∃ M2 : sv_Mem, (∀ G : sv_G, 2 < gn G → sv_Ct G M_L_closes 5 [.ref (sv_ad G 0 8 0), .int (nI q), .int (nI i), .ref (sv_ad G 5 9 0), .ref (sv_ad G 6 9 0)] M (some (.int (nI 1))) M2) ∧ RS M M2 := by
  obtain ⟨hl, hS, -⟩ := hI.2.2.1 q hq
  have hcnt := cl_cnt hI hB hq
  have hi2 : i = 1 ∨ i = 0 := by omega
  by_cases hz : cs q = 0
  · rcases hi2 with rfl | rfl
    · obtain ⟨M2, c, e0, e9, e8⟩ := ac_commit_n hI hm hq hz
      exact ⟨M2, fun G hg => c_L_closes_c_n hg hq hl hS.1 (c G) hz, ⟨cs, by rw [e0]; exact hI⟩, e8, by rw [e9], by rw [e0]⟩
    · obtain ⟨M2, c, e0, e9, e8⟩ := ac_roll_n hI hm hq hz
      exact ⟨M2, fun G hg => c_L_closes_r_n hg hq hl hS.1 (c G) hz, ⟨cs, by rw [e0]; exact hI⟩, e8, by rw [e9], by rw [e0]⟩
  · rcases hi2 with rfl | rfl
    · obtain ⟨M2, c, e0, e9, e8⟩ := ac_commit_y hI hm hq hz
      obtain ⟨a1, a2, a3, a4, a5, a6⟩ := commit_R hI hq
      rw [← e0] at a1 a2 a3 a4 a5 a6
      exact ⟨M2, fun G hg => c_L_closes_c_y hg hq hl hS.1 (c G) hz hcnt a5 a4 (BM_M hB e9 a3) (BM_V hB e9 (fun k _ => a2 k)), ⟨_, a1⟩, e8, by rw [e9], by rw [a6]⟩
    · obtain ⟨M2, c, e0, e9, e8⟩ := ac_roll_y hI hm hq hz
      obtain ⟨a1, a2, a3, a4, a5, a6⟩ := roll_R hI hq rfl
      rw [← e0] at a1 a2 a3 a4 a5 a6
      refine ⟨M2, fun G hg => c_L_closes_r_y hg hq hl hS.1 (c G) hz hcnt a5 a4 (BM_M hB e9 a3) (fun k hk => ?_), ⟨_, a1⟩, e8, by rw [e9], by rw [a6]⟩
      rw [a2 k hk, e9, BM_q hB hq hk, hB.1 k hk, hB.2.1 k hk]
      by_cases h2 : mm (M 0 14 q 1) k = 2
      · rw [if_neg (fun z => z ((md_iff hk (by omega)).mpr h2)), com_two hI hq hk h2]
      · rw [if_pos (fun z => h2 ((md_iff hk (by omega)).mp z)), va_id (hS.2.2.1 k hk) (Nat.zero_le _) h2]
