/-- memory behind look -/
def acM (M : sv_Mem) (cs : Nat → Nat) : sv_Mem := lkM (sv_upA (sv_upA M 9 5 0 (fun _ => 0)) 9 6 0 (fun _ => 0)) cs 16 16 16 0
theorem acM_0 (M : sv_Mem) (cs : Nat → Nat) : acM M cs 0 = M 0 := rfl
theorem acM_8 (M : sv_Mem) (cs : Nat → Nat) : acM M cs 8 = M 8 := rfl
theorem acM_4 (M : sv_Mem) (cs : Nat → Nat) : acM M cs 9 4 0 = M 9 4 0 := by
  unfold acM
  rw [lkM_i _ _ _ _ _ _ (by omega), sv_upA_get _ _ (by omega), sv_upA_get _ _ (by omega)]
theorem acM_BM (M : sv_Mem) (cs : Nat → Nat) : BM (acM M cs) (M 0) cs := lkM_BM (sv_upA (sv_upA M 9 5 0 (fun _ => 0)) 9 6 0 (fun _ => 0)) cs
theorem acM_HM {M : sv_Mem} {cs : Nat → Nat} (h : HM M) : HM (acM M cs) := by
  unfold HM
  rw [acM_8]
  exact h
/-- what the law's loop keeps -/
def LI (M : sv_Mem) : Prop := (∃ cs, SI (M 0) cs) ∧ HM M ∧ M 9 4 0 0 = M 0 10 0 0
theorem RS_LI {M M2 : sv_Mem} {cs : Nat → Nat} (h : M 9 4 0 0 = M 0 10 0 0) (r : RS (acM M cs) M2) : LI M2 := by
  obtain ⟨a, b, c, d⟩ := r
  refine ⟨a, b, ?_⟩
  rw [c, d, acM_4, acM_0, h]
theorem open_cnt {cs : Nat → Nat} {q : Nat} (hq : q < 3) (h : cs q = 0) : nI (cnt (fun j => va_up cs q 1 j ≠ 0) 3) = bI (cs 0 ≠ 0) + bI (cs 1 ≠ 0) + bI (cs 2 ≠ 0) + nI 1 := by
  have e : cnt (fun j => va_up cs q 1 j ≠ 0) 3 = 0 + (if va_up cs q 1 0 ≠ 0 then 1 else 0) + (if va_up cs q 1 1 ≠ 0 then 1 else 0) + (if va_up cs q 1 2 ≠ 0 then 1 else 0) := rfl
  rw [e]
  have hh : q = 0 ∨ q = 1 ∨ q = 2 := by omega
  rcases hh with rfl | rfl | rfl
  · rw [va_up_self, va_up_ne cs (k := 0) 1 (show 1 ≠ 0 by omega), va_up_ne cs (k := 0) 1 (show 2 ≠ 0 by omega), bI_f (b := cs 0 ≠ 0) (fun z => z h)]
    by_cases a : cs 1 = 0 <;> by_cases b : cs 2 = 0 <;> simp only [a, b, bI, ne_eq, not_true_eq_false, not_false_eq_true, if_true, if_false, Nat.one_ne_zero] <;> decide
  · rw [va_up_self, va_up_ne cs (k := 1) 1 (show 0 ≠ 1 by omega), va_up_ne cs (k := 1) 1 (show 2 ≠ 1 by omega), bI_f (b := cs 1 ≠ 0) (fun z => z h)]
    by_cases a : cs 0 = 0 <;> by_cases b : cs 2 = 0 <;> simp only [a, b, bI, ne_eq, not_true_eq_false, not_false_eq_true, if_true, if_false, Nat.one_ne_zero] <;> decide
  · rw [va_up_self, va_up_ne cs (k := 2) 1 (show 0 ≠ 2 by omega), va_up_ne cs (k := 2) 1 (show 1 ≠ 2 by omega), bI_f (b := cs 2 ≠ 0) (fun z => z h)]
    by_cases a : cs 0 = 0 <;> by_cases b : cs 1 = 0 <;> simp only [a, b, bI, ne_eq, not_true_eq_false, not_false_eq_true, if_true, if_false, Nat.one_ne_zero] <;> decide

set_option maxHeartbeats 4000000 in
set_option maxRecDepth 100000 in
theorem c_L_act_st {G : sv_G} {M : sv_Mem} (hg : gn G = 1) {cs : Nat → Nat} (hcs : csOk (M 0) cs 13) (hkv : M 9 4 0 0 = M 0 10 0 0) {q s : Nat} {v w : Int32} (hq : q < 3) (hqa : lowN (sh5 v) 3 = q) (hsa : lowN v 20 = s) {M2 : sv_Mem} {s5 : Nat} (h10 : s < 10) (h5a : s < 6 → s5 = s) (h5b : 6 ≤ s → s5 = s - 4) (cS : (∀ G : sv_G, 2 < gn G → sv_Ct G M_L_states 7 [.ref (sv_ad G 0 8 0), .int (nI s5), .int (nI q), .int w, .int (M 0 10 0 0), .ref (sv_ad G 5 9 0), .ref (sv_ad G 6 9 0)] (acM M cs) (some (.int (nI 1))) M2)) : sv_CtA G M_L_act 8 [.ref (sv_ad G 0 8 0), .int v, .int w, .ref (sv_ad G 4 9 0)] M (some (.int (nI 1))) (M2) 3 96 := by
  have hs20 : s < 20 := by rw [← hsa]; exact lowN_lt v (by decide)
  refine sv_CtA_of (lo := [some (.ref (sv_ad G 0 8 0)), some (.int v), some (.int w), some (.ref (sv_ad G 4 9 0)), none, none, none, none, none, none]) (pn_L) rfl (Nat.le_of_ble_eq_true rfl) rfl (fun K XK YK hkc hks => ?_)
  replace XK : sv_X G K cL_act RL 10 8 := XK
  replace YK : sv_Y G K (some .boolean) _ _ := YK
  show sw_W G (sv_Kn K 0 0) 10 0 _ _ _
  have main : ∀ x y, sw_W (g2 (g1 G x) y) K 10 10 [some (.ref (sv_ad G 0 8 0)), some (.int v), some (.int w), some (.ref (sv_ad G 4 9 0)), some (.ref (sv_ad (g1 G x) 5 9 0)), none, none, none, none, none] [.ref (sv_ad (g2 (g1 G x) y) 6 9 0)] (sv_upA (sv_upA M 9 5 0 (fun _ => 0)) 9 6 0 (fun _ => 0)) := by
    intro x y
    obtain ⟨G2, hG2⟩ : ∃ G2, G2 = g2 (g1 G x) y := ⟨_, rfl⟩
    have e0 : sv_ad G 0 8 0 = sv_ad G2 0 8 0 := by rw [hG2]; rfl
    have e4 : sv_ad G 4 9 0 = sv_ad G2 4 9 0 := by rw [hG2]; rfl
    have e5 : sv_ad (g1 G x) 5 9 0 = sv_ad G2 5 9 0 := by rw [hG2]; rfl
    have hg3 : gn G2 = 3 := by rw [hG2]; rfl
    have XG : sv_X G2 K cL_act RL 10 8 := by rw [hG2]; exact X_g2 (X_g1 XK)
    have X := XG
    have bk : ∀ pc lo rest N, sw_W G K 10 pc lo rest N → sw_W G2 K 10 pc lo rest N := fun pc lo rest N w => by rw [hG2]; exact sw_back2 rfl (sw_back1 hg w)
    rw [← hG2, e0, e4, e5]
    refine sw_astore_5 X dL_act_10 trivial ?_
    refine sw_iload_1 X dL_act_12 ?_
    refine sw_iconst X (nI 5) dL_act_13 (by decide) ?_
    refine sw_ishr X dL_act_14 ?_
    refine sw_iconst X (nI 3) dL_act_15 (by decide) ?_
    refine ca_L_46 X (by decide) dL_act_16 (Nat.le_of_ble_eq_true rfl) (c_L_low (n := 3) (by decide) (by decide)) ?_
    refine sw_tope (v2 := nI q) (congrArg nI hqa) ?_
    refine sw_istore_6 X dL_act_19 trivial ?_
    refine sw_iload_1 X dL_act_21 ?_
    refine sw_bipush X (nI 20) dL_act_22 (by decide) ?_
    refine ca_L_46 X (by decide) dL_act_24 (Nat.le_of_ble_eq_true rfl) (c_L_low (n := 20) (by decide) (by decide)) ?_
    refine sw_tope (v2 := nI s) (congrArg nI hsa) ?_
    refine sw_istore_7 X dL_act_27 trivial ?_
    refine sw_aload_0 X dL_act_29 ?_
    refine sw_aload_4 X dL_act_30 ?_
    refine sw_aload_5 X dL_act_32 ?_
    refine ca_L_99 X (by decide) dL_act_34 (Nat.le_of_ble_eq_true rfl) (c_L_look (M := (sv_upA (sv_upA M 9 5 0 (fun _ => 0)) 9 6 0 (fun _ => 0))) (by omega) (cs := cs) hcs) ?_
    refine sw_mem (M2 := acM M cs) rfl ?_
    refine sw_iload_7 X dL_act_37 ?_
    refine sw_bipush X (nI 10) dL_act_39 (by decide) ?_
    refine sw_icmp_ge X 75 dL_act_41 (by decide) (fun h41 => ?_) (fun h41 => ?_)
    ·
      exact absurd ((nI_leI (a := 10) (b := s) (by omega) (by omega)).mp h41) (by omega)
    ·
      refine sw_aload_0 X dL_act_44 ?_
      refine sw_iload_7 X dL_act_45 ?_
      refine sw_bipush X (nI 6) dL_act_47 (by decide) ?_
      refine sw_icmp_ge X 57 dL_act_49 (by decide) (fun h49 => ?_) (fun h49 => ?_)
      ·
        have h6 : 6 ≤ s := (nI_leI (by omega) (by omega)).mp h49
        refine sw_iload_7 X dL_act_57 ?_
        refine sw_iconst X (nI 4) dL_act_59 (by decide) ?_
        refine sw_isub X dL_act_60 ?_
        refine sw_tope (v2 := nI s5) (by first | (rw [pk_sub (by omega), h5b h6]) | rw [h5a h6]) ?_
        refine sw_iload_6 X dL_act_61 ?_
        refine sw_iload_2 X dL_act_63 ?_
        refine sw_aload_3 X dL_act_64 ?_
        refine sw_iconst X (nI 0) dL_act_65 (by decide) ?_
        refine ia_4 X (by omega) rfl (by omega) dL_act_66 ?_
        refine sw_tope (v2 := M 0 10 0 0) (by rw [acM_4]; exact hkv) ?_
        refine sw_aload_4 X dL_act_67 ?_
        refine sw_aload_5 X dL_act_69 ?_
        refine ca_L_103 X (by decide) dL_act_71 (Nat.le_of_ble_eq_true rfl) (cS G2 (by omega)) ?_
        exact bk _ _ _ _ (sw_zret XK YK dL_act_74 (by first | rfl | exact sv_nzB) rfl rfl)
      ·
        have h6 : s < 6 := by have := mt (nI_leI (a := 6) (b := s) (by omega) (by omega)).mpr h49; omega
        refine sw_iload_7 X dL_act_52 ?_
        refine sw_goto X 61 dL_act_54 (by decide) ?_
        refine sw_tope (v2 := nI s5) (by first | (rw [pk_sub (by omega), h5b h6]) | rw [h5a h6]) ?_
        refine sw_iload_6 X dL_act_61 ?_
        refine sw_iload_2 X dL_act_63 ?_
        refine sw_aload_3 X dL_act_64 ?_
        refine sw_iconst X (nI 0) dL_act_65 (by decide) ?_
        refine ia_4 X (by omega) rfl (by omega) dL_act_66 ?_
        refine sw_tope (v2 := M 0 10 0 0) (by rw [acM_4]; exact hkv) ?_
        refine sw_aload_4 X dL_act_67 ?_
        refine sw_aload_5 X dL_act_69 ?_
        refine ca_L_103 X (by decide) dL_act_71 (Nat.le_of_ble_eq_true rfl) (cS G2 (by omega)) ?_
        exact bk _ _ _ _ (sw_zret XK YK dL_act_74 (by first | rfl | exact sv_nzB) rfl rfl)
  have X0 := X_n (c := 0) (s := 0) XK (Nat.zero_le _) (Nat.zero_le _)
  refine sw_bipush X0 (nI 32) dL_act_0 (by decide) ?_
  refine sw_new1 XK hg (by rw [hkc]; omega) (by rw [hks]; omega) dL_act_2 (fun x => ?_)
  have X1 : sv_X (g1 G x) (sv_Kn K (0 + 1) (0 + 32)) cL_act RL 10 8 := X_n (X_g1 XK) (by rw [hkc]; omega) (by rw [hks]; omega)
  refine sw_astore_4 X1 dL_act_4 trivial ?_
  refine sw_bipush X1 (nI 48) dL_act_6 (by decide) ?_
  refine sw_new2 (X_g1 XK) rfl (by rw [hkc]; omega) (by rw [hks]; omega) dL_act_8 (fun y => ?_)
  exact sw_widen (by rw [hkc]; omega) (by rw [hks]; omega) (main x y)
set_option maxHeartbeats 4000000 in
set_option maxRecDepth 100000 in
theorem c_L_act_sp {G : sv_G} {M : sv_Mem} (hg : gn G = 1) {cs : Nat → Nat} (hcs : csOk (M 0) cs 13) (hkv : M 9 4 0 0 = M 0 10 0 0) {q s : Nat} {v w : Int32} (hq : q < 3) (hqa : lowN (sh5 v) 3 = q) (hsa : lowN v 20 = s) {M2 : sv_Mem} {c : Nat} {r : Int32} (hc : M 0 14 q 0 = nI c) (hl : c ≤ 13) (h10 : 10 ≤ s) (h13 : s < 13) (cP : (∀ G : sv_G, sv_Ct G M_X3_savepoint 4 [.ref (sv_ad G 0 8 0), .int (nI q), .int (nI (lowN w 3))] (acM M cs) (some (.int (r))) M2)) (hr0 : c = 0 → r = -4) (hr1 : c ≠ 0 → c - 1 = 12 → r = -3) (hr2 : c ≠ 0 → c - 1 ≠ 12 → r = nI (c - 1)) (hV : ∀ k, k < 16 → M2 0 11 0 k = M2 9 5 0 k) (hM3 : ∀ r, r < 48 → r / 16 ≠ 3 → md (M2 0 14 (r / 16) 1) (r % 16) = M2 9 6 0 r) : sv_CtA G M_L_act 8 [.ref (sv_ad G 0 8 0), .int v, .int w, .ref (sv_ad G 4 9 0)] M (some (.int (nI 1))) (M2) 3 96 := by
  have hs20 : s < 20 := by rw [← hsa]; exact lowN_lt v (by decide)
  refine sv_CtA_of (lo := [some (.ref (sv_ad G 0 8 0)), some (.int v), some (.int w), some (.ref (sv_ad G 4 9 0)), none, none, none, none, none, none]) (pn_L) rfl (Nat.le_of_ble_eq_true rfl) rfl (fun K XK YK hkc hks => ?_)
  replace XK : sv_X G K cL_act RL 10 8 := XK
  replace YK : sv_Y G K (some .boolean) _ _ := YK
  show sw_W G (sv_Kn K 0 0) 10 0 _ _ _
  have main : ∀ x y, sw_W (g2 (g1 G x) y) K 10 10 [some (.ref (sv_ad G 0 8 0)), some (.int v), some (.int w), some (.ref (sv_ad G 4 9 0)), some (.ref (sv_ad (g1 G x) 5 9 0)), none, none, none, none, none] [.ref (sv_ad (g2 (g1 G x) y) 6 9 0)] (sv_upA (sv_upA M 9 5 0 (fun _ => 0)) 9 6 0 (fun _ => 0)) := by
    intro x y
    obtain ⟨G2, hG2⟩ : ∃ G2, G2 = g2 (g1 G x) y := ⟨_, rfl⟩
    have e0 : sv_ad G 0 8 0 = sv_ad G2 0 8 0 := by rw [hG2]; rfl
    have e4 : sv_ad G 4 9 0 = sv_ad G2 4 9 0 := by rw [hG2]; rfl
    have e5 : sv_ad (g1 G x) 5 9 0 = sv_ad G2 5 9 0 := by rw [hG2]; rfl
    have hg3 : gn G2 = 3 := by rw [hG2]; rfl
    have XG : sv_X G2 K cL_act RL 10 8 := by rw [hG2]; exact X_g2 (X_g1 XK)
    have X := XG
    have bk : ∀ pc lo rest N, sw_W G K 10 pc lo rest N → sw_W G2 K 10 pc lo rest N := fun pc lo rest N w => by rw [hG2]; exact sw_back2 rfl (sw_back1 hg w)
    rw [← hG2, e0, e4, e5]
    refine sw_astore_5 X dL_act_10 trivial ?_
    refine sw_iload_1 X dL_act_12 ?_
    refine sw_iconst X (nI 5) dL_act_13 (by decide) ?_
    refine sw_ishr X dL_act_14 ?_
    refine sw_iconst X (nI 3) dL_act_15 (by decide) ?_
    refine ca_L_46 X (by decide) dL_act_16 (Nat.le_of_ble_eq_true rfl) (c_L_low (n := 3) (by decide) (by decide)) ?_
    refine sw_tope (v2 := nI q) (congrArg nI hqa) ?_
    refine sw_istore_6 X dL_act_19 trivial ?_
    refine sw_iload_1 X dL_act_21 ?_
    refine sw_bipush X (nI 20) dL_act_22 (by decide) ?_
    refine ca_L_46 X (by decide) dL_act_24 (Nat.le_of_ble_eq_true rfl) (c_L_low (n := 20) (by decide) (by decide)) ?_
    refine sw_tope (v2 := nI s) (congrArg nI hsa) ?_
    refine sw_istore_7 X dL_act_27 trivial ?_
    refine sw_aload_0 X dL_act_29 ?_
    refine sw_aload_4 X dL_act_30 ?_
    refine sw_aload_5 X dL_act_32 ?_
    refine ca_L_99 X (by decide) dL_act_34 (Nat.le_of_ble_eq_true rfl) (c_L_look (M := (sv_upA (sv_upA M 9 5 0 (fun _ => 0)) 9 6 0 (fun _ => 0))) (by omega) (cs := cs) hcs) ?_
    refine sw_mem (M2 := acM M cs) rfl ?_
    refine sw_iload_7 X dL_act_37 ?_
    refine sw_bipush X (nI 10) dL_act_39 (by decide) ?_
    refine sw_icmp_ge X 75 dL_act_41 (by decide) (fun h41 => ?_) (fun h41 => ?_)
    ·
      refine sw_iload_7 X dL_act_75 ?_
      refine sw_bipush X (nI 13) dL_act_77 (by decide) ?_
      refine sw_icmp_ge X 163 dL_act_79 (by decide) (fun h79 => ?_) (fun h79 => ?_)
      ·
        exact absurd ((nI_leI (a := 13) (b := s) (by omega) (by omega)).mp h79) (by omega)
      ·
        refine sw_aload_0 X dL_act_82 ?_
        refine sw_iload_6 X dL_act_83 ?_
        refine sw_iconst X (nI 1) dL_act_85 (by decide) ?_
        refine ca_L_23 X (by decide) dL_act_86 (Nat.le_of_ble_eq_true rfl) (c_X3_session_1 (M := acM M cs) hq hc hl) ?_
        refine sw_istore_8 X dL_act_89 trivial ?_
        refine sw_aload_0 X dL_act_91 ?_
        refine sw_iload_6 X dL_act_92 ?_
        refine sw_iconst X (nI 0) dL_act_94 (by decide) ?_
        refine ca_L_23 X (by decide) dL_act_95 (Nat.le_of_ble_eq_true rfl) (c_X3_session_0 (M := acM M cs) hq hc hl) ?_
        refine sw_istore_9 X dL_act_98 trivial ?_
        refine sw_aload_0 X dL_act_100 ?_
        refine sw_iload_6 X dL_act_101 ?_
        refine sw_iload_2 X dL_act_103 ?_
        refine sw_iconst X (nI 3) dL_act_104 (by decide) ?_
        refine ca_L_46 X (by decide) dL_act_105 (Nat.le_of_ble_eq_true rfl) (c_L_low (n := 3) (by decide) (by decide)) ?_
        refine ca_L_107 X (by decide) dL_act_108 (Nat.le_of_ble_eq_true rfl) (cP G2) ?_
        refine sw_iload_9 X dL_act_111 ?_
        refine sw_if_ne X 121 dL_act_113 (by decide) (fun h113 => ?_) (fun h113 => ?_)
        ·
          have hnz : c ≠ 0 := bI_ne0.mp h113
          refine sw_iload_8 X dL_act_121 ?_
          refine sw_bipush X (nI 12) dL_act_123 (by decide) ?_
          refine sw_icmp_ne X 133 dL_act_125 (by decide) (fun h125 => ?_) (fun h125 => ?_)
          ·
            have hn12 : c - 1 ≠ 12 := fun z => h125 (by rw [z])
            refine sw_iload_8 X dL_act_133 ?_
            refine sw_icmp_ne X 161 dL_act_135 (by decide) (fun h135 => ?_) (fun h135 => ?_)
            ·
              first | exact absurd (hr0 hz) h135 | exact absurd (hr1 hnz h12) h135 | exact absurd (hr2 hnz hn12) h135
            ·
              refine sw_aload_0 X dL_act_138 ?_
              refine sw_aload_4 X dL_act_139 ?_
              refine ca_L_76 X (by decide) dL_act_141 (Nat.le_of_ble_eq_true rfl) (c_L_areValues (by omega) hV) ?_
              refine sw_if_eq X 161 dL_act_144 (by decide) (fun h144 => ?_) (fun h144 => ?_)
              ·
                exact absurd h144 (by decide)
              ·
                refine sw_aload_0 X dL_act_147 ?_
                refine sw_aload_5 X dL_act_148 ?_
                refine sw_iconst X (nI 3) dL_act_150 (by decide) ?_
                refine ca_L_80 X (by decide) dL_act_151 (Nat.le_of_ble_eq_true rfl) (c_L_otherModes (by omega) (bn := 3) hM3) ?_
                refine sw_if_ne X 161 dL_act_154 (by decide) (fun h154 => ?_) (fun h154 => ?_)
                ·
                  exact absurd rfl h154
                ·
                  refine sw_iconst X (nI 1) dL_act_157 (by decide) ?_
                  refine sw_goto X 162 dL_act_158 (by decide) ?_
                  exact bk _ _ _ _ (sw_zret XK YK dL_act_162 (by first | rfl | exact sv_nzB) rfl rfl)
          ·
            have h12 : c - 1 = 12 := nJ (by omega) (by omega) h125
            refine sw_bipush X (-3) dL_act_128 (by decide) ?_
            refine sw_goto X 135 dL_act_130 (by decide) ?_
            refine sw_icmp_ne X 161 dL_act_135 (by decide) (fun h135 => ?_) (fun h135 => ?_)
            ·
              first | exact absurd (hr0 hz) h135 | exact absurd (hr1 hnz h12) h135 | exact absurd (hr2 hnz hn12) h135
            ·
              refine sw_aload_0 X dL_act_138 ?_
              refine sw_aload_4 X dL_act_139 ?_
              refine ca_L_76 X (by decide) dL_act_141 (Nat.le_of_ble_eq_true rfl) (c_L_areValues (by omega) hV) ?_
              refine sw_if_eq X 161 dL_act_144 (by decide) (fun h144 => ?_) (fun h144 => ?_)
              ·
                exact absurd h144 (by decide)
              ·
                refine sw_aload_0 X dL_act_147 ?_
                refine sw_aload_5 X dL_act_148 ?_
                refine sw_iconst X (nI 3) dL_act_150 (by decide) ?_
                refine ca_L_80 X (by decide) dL_act_151 (Nat.le_of_ble_eq_true rfl) (c_L_otherModes (by omega) (bn := 3) hM3) ?_
                refine sw_if_ne X 161 dL_act_154 (by decide) (fun h154 => ?_) (fun h154 => ?_)
                ·
                  exact absurd rfl h154
                ·
                  refine sw_iconst X (nI 1) dL_act_157 (by decide) ?_
                  refine sw_goto X 162 dL_act_158 (by decide) ?_
                  exact bk _ _ _ _ (sw_zret XK YK dL_act_162 (by first | rfl | exact sv_nzB) rfl rfl)
        ·
          have hz : c = 0 := Decidable.not_not.mp (bI_eq0.mp h113)
          refine sw_bipush X (-4) dL_act_116 (by decide) ?_
          refine sw_goto X 135 dL_act_118 (by decide) ?_
          refine sw_icmp_ne X 161 dL_act_135 (by decide) (fun h135 => ?_) (fun h135 => ?_)
          ·
            first | exact absurd (hr0 hz) h135 | exact absurd (hr1 hnz h12) h135 | exact absurd (hr2 hnz hn12) h135
          ·
            refine sw_aload_0 X dL_act_138 ?_
            refine sw_aload_4 X dL_act_139 ?_
            refine ca_L_76 X (by decide) dL_act_141 (Nat.le_of_ble_eq_true rfl) (c_L_areValues (by omega) hV) ?_
            refine sw_if_eq X 161 dL_act_144 (by decide) (fun h144 => ?_) (fun h144 => ?_)
            ·
              exact absurd h144 (by decide)
            ·
              refine sw_aload_0 X dL_act_147 ?_
              refine sw_aload_5 X dL_act_148 ?_
              refine sw_iconst X (nI 3) dL_act_150 (by decide) ?_
              refine ca_L_80 X (by decide) dL_act_151 (Nat.le_of_ble_eq_true rfl) (c_L_otherModes (by omega) (bn := 3) hM3) ?_
              refine sw_if_ne X 161 dL_act_154 (by decide) (fun h154 => ?_) (fun h154 => ?_)
              ·
                exact absurd rfl h154
              ·
                refine sw_iconst X (nI 1) dL_act_157 (by decide) ?_
                refine sw_goto X 162 dL_act_158 (by decide) ?_
                exact bk _ _ _ _ (sw_zret XK YK dL_act_162 (by first | rfl | exact sv_nzB) rfl rfl)
    ·
      exact absurd ((nI_leI (a := 10) (b := s) (by omega) (by omega)).mpr (by omega)) h41
  have X0 := X_n (c := 0) (s := 0) XK (Nat.zero_le _) (Nat.zero_le _)
  refine sw_bipush X0 (nI 32) dL_act_0 (by decide) ?_
  refine sw_new1 XK hg (by rw [hkc]; omega) (by rw [hks]; omega) dL_act_2 (fun x => ?_)
  have X1 : sv_X (g1 G x) (sv_Kn K (0 + 1) (0 + 32)) cL_act RL 10 8 := X_n (X_g1 XK) (by rw [hkc]; omega) (by rw [hks]; omega)
  refine sw_astore_4 X1 dL_act_4 trivial ?_
  refine sw_bipush X1 (nI 48) dL_act_6 (by decide) ?_
  refine sw_new2 (X_g1 XK) rfl (by rw [hkc]; omega) (by rw [hks]; omega) dL_act_8 (fun y => ?_)
  exact sw_widen (by rw [hkc]; omega) (by rw [hks]; omega) (main x y)
set_option maxHeartbeats 4000000 in
set_option maxRecDepth 100000 in
theorem c_L_act_un {G : sv_G} {M : sv_Mem} (hg : gn G = 1) {cs : Nat → Nat} (hcs : csOk (M 0) cs 13) (hkv : M 9 4 0 0 = M 0 10 0 0) {q s : Nat} {v w : Int32} (hq : q < 3) (hqa : lowN (sh5 v) 3 = q) (hsa : lowN v 20 = s) {M2 : sv_Mem} (h13 : s = 13) (cU : ∀ G : sv_G, gn G = 3 → sv_CtA G M_L_undoes 6 [.ref (sv_ad G 0 8 0), .int (nI q), .int (nI (lowN w 3)), .int (M 0 10 0 0), .ref (sv_ad G 5 9 0), .ref (sv_ad G 6 9 0)] (acM M cs) (some (.int (nI 1))) M2 1 16) : sv_CtA G M_L_act 8 [.ref (sv_ad G 0 8 0), .int v, .int w, .ref (sv_ad G 4 9 0)] M (some (.int (nI 1))) (M2) 3 96 := by
  have hs20 : s < 20 := by rw [← hsa]; exact lowN_lt v (by decide)
  refine sv_CtA_of (lo := [some (.ref (sv_ad G 0 8 0)), some (.int v), some (.int w), some (.ref (sv_ad G 4 9 0)), none, none, none, none, none, none]) (pn_L) rfl (Nat.le_of_ble_eq_true rfl) rfl (fun K XK YK hkc hks => ?_)
  replace XK : sv_X G K cL_act RL 10 8 := XK
  replace YK : sv_Y G K (some .boolean) _ _ := YK
  show sw_W G (sv_Kn K 0 0) 10 0 _ _ _
  have main : ∀ x y, sw_W (g2 (g1 G x) y) (sv_Kn K 2 80) 10 10 [some (.ref (sv_ad G 0 8 0)), some (.int v), some (.int w), some (.ref (sv_ad G 4 9 0)), some (.ref (sv_ad (g1 G x) 5 9 0)), none, none, none, none, none] [.ref (sv_ad (g2 (g1 G x) y) 6 9 0)] (sv_upA (sv_upA M 9 5 0 (fun _ => 0)) 9 6 0 (fun _ => 0)) := by
    intro x y
    obtain ⟨G2, hG2⟩ : ∃ G2, G2 = g2 (g1 G x) y := ⟨_, rfl⟩
    have e0 : sv_ad G 0 8 0 = sv_ad G2 0 8 0 := by rw [hG2]; rfl
    have e4 : sv_ad G 4 9 0 = sv_ad G2 4 9 0 := by rw [hG2]; rfl
    have e5 : sv_ad (g1 G x) 5 9 0 = sv_ad G2 5 9 0 := by rw [hG2]; rfl
    have hg3 : gn G2 = 3 := by rw [hG2]; rfl
    have XG : sv_X G2 K cL_act RL 10 8 := by rw [hG2]; exact X_g2 (X_g1 XK)
    have X : sv_X G2 (sv_Kn K 2 80) cL_act RL 10 8 := X_n XG (by rw [hkc]; omega) (by rw [hks]; omega)
    have bk : ∀ pc lo rest N, sw_W G K 10 pc lo rest N → sw_W G2 K 10 pc lo rest N := fun pc lo rest N w => by rw [hG2]; exact sw_back2 rfl (sw_back1 hg w)
    rw [← hG2, e0, e4, e5]
    refine sw_astore_5 X dL_act_10 trivial ?_
    refine sw_iload_1 X dL_act_12 ?_
    refine sw_iconst X (nI 5) dL_act_13 (by decide) ?_
    refine sw_ishr X dL_act_14 ?_
    refine sw_iconst X (nI 3) dL_act_15 (by decide) ?_
    refine ca_L_46 X (by decide) dL_act_16 (Nat.le_of_ble_eq_true rfl) (c_L_low (n := 3) (by decide) (by decide)) ?_
    refine sw_tope (v2 := nI q) (congrArg nI hqa) ?_
    refine sw_istore_6 X dL_act_19 trivial ?_
    refine sw_iload_1 X dL_act_21 ?_
    refine sw_bipush X (nI 20) dL_act_22 (by decide) ?_
    refine ca_L_46 X (by decide) dL_act_24 (Nat.le_of_ble_eq_true rfl) (c_L_low (n := 20) (by decide) (by decide)) ?_
    refine sw_tope (v2 := nI s) (congrArg nI hsa) ?_
    refine sw_istore_7 X dL_act_27 trivial ?_
    refine sw_aload_0 X dL_act_29 ?_
    refine sw_aload_4 X dL_act_30 ?_
    refine sw_aload_5 X dL_act_32 ?_
    refine ca_L_99 X (by decide) dL_act_34 (Nat.le_of_ble_eq_true rfl) (c_L_look (M := (sv_upA (sv_upA M 9 5 0 (fun _ => 0)) 9 6 0 (fun _ => 0))) (by omega) (cs := cs) hcs) ?_
    refine sw_mem (M2 := acM M cs) rfl ?_
    refine sw_iload_7 X dL_act_37 ?_
    refine sw_bipush X (nI 10) dL_act_39 (by decide) ?_
    refine sw_icmp_ge X 75 dL_act_41 (by decide) (fun h41 => ?_) (fun h41 => ?_)
    ·
      refine sw_iload_7 X dL_act_75 ?_
      refine sw_bipush X (nI 13) dL_act_77 (by decide) ?_
      refine sw_icmp_ge X 163 dL_act_79 (by decide) (fun h79 => ?_) (fun h79 => ?_)
      ·
        refine sw_iload_7 X dL_act_163 ?_
        refine sw_bipush X (nI 13) dL_act_165 (by decide) ?_
        refine sw_icmp_ne X 189 dL_act_167 (by decide) (fun h167 => ?_) (fun h167 => ?_)
        ·
          exact absurd (congrArg nI (show s = 13 by omega)) h167
        ·
          refine sw_aload_0 X dL_act_170 ?_
          refine sw_iload_6 X dL_act_171 ?_
          refine sw_iload_2 X dL_act_173 ?_
          refine sw_iconst X (nI 3) dL_act_174 (by decide) ?_
          refine ca_L_46 X (by decide) dL_act_175 (Nat.le_of_ble_eq_true rfl) (c_L_low (n := 3) (by decide) (by decide)) ?_
          refine sw_aload_3 X dL_act_178 ?_
          refine sw_iconst X (nI 0) dL_act_179 (by decide) ?_
          refine ia_4 X (by omega) rfl (by omega) dL_act_180 ?_
          refine sw_tope (v2 := M 0 10 0 0) (by rw [acM_4]; exact hkv) ?_
          refine sw_aload_4 X dL_act_181 ?_
          refine sw_aload_5 X dL_act_183 ?_
          refine sw_callSA (As := [.ref (sv_ad G2 0 8 0), .int (nI q), .int (nI (lowN w 3)), .int (M 0 10 0 0), .ref (sv_ad G2 5 9 0), .ref (sv_ad G2 6 9 0)]) (n := 6) XG mw_L_undoes (by decide +kernel) rfl wl_L_110 ws_L_undoes (by decide) dL_act_185 (Nat.le_of_ble_eq_true rfl) rfl (cU G2 hg3) (by rw [hkc]; omega) (by rw [hks]; omega) ?_
          refine sw_widen (by rw [hkc]; omega) (by rw [hks]; omega) ?_
          exact bk _ _ _ _ (sw_zret XK YK dL_act_188 (by first | rfl | exact sv_nzB) rfl rfl)
      ·
        exact absurd ((nI_leI (a := 13) (b := s) (by omega) (by omega)).mpr (by omega)) h79
    ·
      exact absurd ((nI_leI (a := 10) (b := s) (by omega) (by omega)).mpr (by omega)) h41
  have X0 := X_n (c := 0) (s := 0) XK (Nat.zero_le _) (Nat.zero_le _)
  refine sw_bipush X0 (nI 32) dL_act_0 (by decide) ?_
  refine sw_new1 XK hg (by rw [hkc]; omega) (by rw [hks]; omega) dL_act_2 (fun x => ?_)
  have X1 : sv_X (g1 G x) (sv_Kn K (0 + 1) (0 + 32)) cL_act RL 10 8 := X_n (X_g1 XK) (by rw [hkc]; omega) (by rw [hks]; omega)
  refine sw_astore_4 X1 dL_act_4 trivial ?_
  refine sw_bipush X1 (nI 48) dL_act_6 (by decide) ?_
  refine sw_new2 (X_g1 XK) rfl (by rw [hkc]; omega) (by rw [hks]; omega) dL_act_8 (fun y => ?_)
  exact main x y
set_option maxHeartbeats 4000000 in
set_option maxRecDepth 100000 in
theorem c_L_act_rn {G : sv_G} {M : sv_Mem} (hg : gn G = 1) {cs : Nat → Nat} (hcs : csOk (M 0) cs 13) (hkv : M 9 4 0 0 = M 0 10 0 0) {q s : Nat} {v w : Int32} (hq : q < 3) (hqa : lowN (sh5 v) 3 = q) (hsa : lowN v 20 = s) {M2 : sv_Mem} {c : Nat} (hc : M 0 14 q 0 = nI c) (hl : c ≤ 13) (h14 : s = 14) (hw : lowN w 3 < 8) (hnr : nrR (M 0 16 q) (nI (lowN w 3)) (c - 1) = -5) (cR : (∀ G : sv_G, sv_Ct G M_X3_release 5 [.ref (sv_ad G 0 8 0), .int (nI q), .int (nI (lowN w 3))] (acM M cs) (some (.int (-4))) M2)) (h2c : M2 0 14 q 0 = nI c) (hV : ∀ k, k < 16 → M2 0 11 0 k = M2 9 5 0 k) (hM3 : ∀ r, r < 48 → r / 16 ≠ 3 → md (M2 0 14 (r / 16) 1) (r % 16) = M2 9 6 0 r) : sv_CtA G M_L_act 8 [.ref (sv_ad G 0 8 0), .int v, .int w, .ref (sv_ad G 4 9 0)] M (some (.int (nI 1))) (M2) 3 96 := by
  have hs20 : s < 20 := by rw [← hsa]; exact lowN_lt v (by decide)
  refine sv_CtA_of (lo := [some (.ref (sv_ad G 0 8 0)), some (.int v), some (.int w), some (.ref (sv_ad G 4 9 0)), none, none, none, none, none, none]) (pn_L) rfl (Nat.le_of_ble_eq_true rfl) rfl (fun K XK YK hkc hks => ?_)
  replace XK : sv_X G K cL_act RL 10 8 := XK
  replace YK : sv_Y G K (some .boolean) _ _ := YK
  show sw_W G (sv_Kn K 0 0) 10 0 _ _ _
  have main : ∀ x y, sw_W (g2 (g1 G x) y) K 10 10 [some (.ref (sv_ad G 0 8 0)), some (.int v), some (.int w), some (.ref (sv_ad G 4 9 0)), some (.ref (sv_ad (g1 G x) 5 9 0)), none, none, none, none, none] [.ref (sv_ad (g2 (g1 G x) y) 6 9 0)] (sv_upA (sv_upA M 9 5 0 (fun _ => 0)) 9 6 0 (fun _ => 0)) := by
    intro x y
    obtain ⟨G2, hG2⟩ : ∃ G2, G2 = g2 (g1 G x) y := ⟨_, rfl⟩
    have e0 : sv_ad G 0 8 0 = sv_ad G2 0 8 0 := by rw [hG2]; rfl
    have e4 : sv_ad G 4 9 0 = sv_ad G2 4 9 0 := by rw [hG2]; rfl
    have e5 : sv_ad (g1 G x) 5 9 0 = sv_ad G2 5 9 0 := by rw [hG2]; rfl
    have hg3 : gn G2 = 3 := by rw [hG2]; rfl
    have XG : sv_X G2 K cL_act RL 10 8 := by rw [hG2]; exact X_g2 (X_g1 XK)
    have X := XG
    have bk : ∀ pc lo rest N, sw_W G K 10 pc lo rest N → sw_W G2 K 10 pc lo rest N := fun pc lo rest N w => by rw [hG2]; exact sw_back2 rfl (sw_back1 hg w)
    rw [← hG2, e0, e4, e5]
    refine sw_astore_5 X dL_act_10 trivial ?_
    refine sw_iload_1 X dL_act_12 ?_
    refine sw_iconst X (nI 5) dL_act_13 (by decide) ?_
    refine sw_ishr X dL_act_14 ?_
    refine sw_iconst X (nI 3) dL_act_15 (by decide) ?_
    refine ca_L_46 X (by decide) dL_act_16 (Nat.le_of_ble_eq_true rfl) (c_L_low (n := 3) (by decide) (by decide)) ?_
    refine sw_tope (v2 := nI q) (congrArg nI hqa) ?_
    refine sw_istore_6 X dL_act_19 trivial ?_
    refine sw_iload_1 X dL_act_21 ?_
    refine sw_bipush X (nI 20) dL_act_22 (by decide) ?_
    refine ca_L_46 X (by decide) dL_act_24 (Nat.le_of_ble_eq_true rfl) (c_L_low (n := 20) (by decide) (by decide)) ?_
    refine sw_tope (v2 := nI s) (congrArg nI hsa) ?_
    refine sw_istore_7 X dL_act_27 trivial ?_
    refine sw_aload_0 X dL_act_29 ?_
    refine sw_aload_4 X dL_act_30 ?_
    refine sw_aload_5 X dL_act_32 ?_
    refine ca_L_99 X (by decide) dL_act_34 (Nat.le_of_ble_eq_true rfl) (c_L_look (M := (sv_upA (sv_upA M 9 5 0 (fun _ => 0)) 9 6 0 (fun _ => 0))) (by omega) (cs := cs) hcs) ?_
    refine sw_mem (M2 := acM M cs) rfl ?_
    refine sw_iload_7 X dL_act_37 ?_
    refine sw_bipush X (nI 10) dL_act_39 (by decide) ?_
    refine sw_icmp_ge X 75 dL_act_41 (by decide) (fun h41 => ?_) (fun h41 => ?_)
    ·
      refine sw_iload_7 X dL_act_75 ?_
      refine sw_bipush X (nI 13) dL_act_77 (by decide) ?_
      refine sw_icmp_ge X 163 dL_act_79 (by decide) (fun h79 => ?_) (fun h79 => ?_)
      ·
        refine sw_iload_7 X dL_act_163 ?_
        refine sw_bipush X (nI 13) dL_act_165 (by decide) ?_
        refine sw_icmp_ne X 189 dL_act_167 (by decide) (fun h167 => ?_) (fun h167 => ?_)
        ·
          refine sw_iload_7 X dL_act_189 ?_
          refine sw_bipush X (nI 14) dL_act_191 (by decide) ?_
          refine sw_icmp_ne X 294 dL_act_193 (by decide) (fun h193 => ?_) (fun h193 => ?_)
          ·
            exact absurd (congrArg nI (show s = 14 by omega)) h193
          ·
            refine sw_aload_0 X dL_act_196 ?_
            refine sw_iload_6 X dL_act_197 ?_
            refine sw_iconst X (nI 1) dL_act_199 (by decide) ?_
            refine ca_L_23 X (by decide) dL_act_200 (Nat.le_of_ble_eq_true rfl) (c_X3_session_1 (M := acM M cs) hq hc hl) ?_
            refine sw_istore_8 X dL_act_203 trivial ?_
            refine sw_aload_0 X dL_act_205 ?_
            refine sw_iload_6 X dL_act_206 ?_
            refine sw_iload_2 X dL_act_208 ?_
            refine sw_iconst X (nI 3) dL_act_209 (by decide) ?_
            refine ca_L_46 X (by decide) dL_act_210 (Nat.le_of_ble_eq_true rfl) (c_L_low (n := 3) (by decide) (by decide)) ?_
            refine ca_L_33 X (by decide) dL_act_213 (Nat.le_of_ble_eq_true rfl) (c_X3_nearest_y (M := acM M cs) hq (nm_in hw) hc hl) ?_
            refine sw_tope hnr ?_
            refine sw_istore_9 X dL_act_216 trivial ?_
            refine sw_aload_0 X dL_act_218 ?_
            refine sw_iload_6 X dL_act_219 ?_
            refine sw_iload_2 X dL_act_221 ?_
            refine sw_iconst X (nI 3) dL_act_222 (by decide) ?_
            refine ca_L_46 X (by decide) dL_act_223 (Nat.le_of_ble_eq_true rfl) (c_L_low (n := 3) (by decide) (by decide)) ?_
            refine ca_L_87 X (by decide) dL_act_226 (Nat.le_of_ble_eq_true rfl) (cR G2) ?_
            refine sw_iload_9 X dL_act_229 ?_
            refine sw_if_ge X 239 dL_act_231 (by decide) (fun h231 => ?_) (fun h231 => ?_)
            ·
              exact absurd h231 (by decide)
            ·
              refine sw_bipush X (-4) dL_act_234 (by decide) ?_
              refine sw_goto X 244 dL_act_236 (by decide) ?_
              refine sw_icmp_ne X 292 dL_act_244 (by decide) (fun h244 => ?_) (fun h244 => ?_)
              ·
                exact absurd rfl h244
              ·
                refine sw_aload_0 X dL_act_247 ?_
                refine sw_iload_6 X dL_act_248 ?_
                refine sw_iconst X (nI 1) dL_act_250 (by decide) ?_
                refine ca_L_23 X (by decide) dL_act_251 (Nat.le_of_ble_eq_true rfl) (c_X3_session_1 (M := M2) hq h2c (by omega)) ?_
                refine sw_iload_9 X dL_act_254 ?_
                refine sw_if_ge X 264 dL_act_256 (by decide) (fun h256 => ?_) (fun h256 => ?_)
                ·
                  exact absurd h256 (by decide)
                ·
                  refine sw_iload_8 X dL_act_259 ?_
                  refine sw_goto X 266 dL_act_261 (by decide) ?_
                  refine sw_icmp_ne X 292 dL_act_266 (by decide) (fun h266 => ?_) (fun h266 => ?_)
                  ·
                    exact absurd rfl h266
                  ·
                    refine sw_aload_0 X dL_act_269 ?_
                    refine sw_aload_4 X dL_act_270 ?_
                    refine ca_L_76 X (by decide) dL_act_272 (Nat.le_of_ble_eq_true rfl) (c_L_areValues (by omega) hV) ?_
                    refine sw_if_eq X 292 dL_act_275 (by decide) (fun h275 => ?_) (fun h275 => ?_)
                    ·
                      exact absurd h275 (by decide)
                    ·
                      refine sw_aload_0 X dL_act_278 ?_
                      refine sw_aload_5 X dL_act_279 ?_
                      refine sw_iconst X (nI 3) dL_act_281 (by decide) ?_
                      refine ca_L_80 X (by decide) dL_act_282 (Nat.le_of_ble_eq_true rfl) (c_L_otherModes (by omega) (bn := 3) hM3) ?_
                      refine sw_if_ne X 292 dL_act_285 (by decide) (fun h285 => ?_) (fun h285 => ?_)
                      ·
                        exact absurd rfl h285
                      ·
                        refine sw_iconst X (nI 1) dL_act_288 (by decide) ?_
                        refine sw_goto X 293 dL_act_289 (by decide) ?_
                        exact bk _ _ _ _ (sw_zret XK YK dL_act_293 (by first | rfl | exact sv_nzB) rfl rfl)
        ·
          exact absurd (nJ (by omega) (by omega) h167) (by omega)
      ·
        exact absurd ((nI_leI (a := 13) (b := s) (by omega) (by omega)).mpr (by omega)) h79
    ·
      exact absurd ((nI_leI (a := 10) (b := s) (by omega) (by omega)).mpr (by omega)) h41
  have X0 := X_n (c := 0) (s := 0) XK (Nat.zero_le _) (Nat.zero_le _)
  refine sw_bipush X0 (nI 32) dL_act_0 (by decide) ?_
  refine sw_new1 XK hg (by rw [hkc]; omega) (by rw [hks]; omega) dL_act_2 (fun x => ?_)
  have X1 : sv_X (g1 G x) (sv_Kn K (0 + 1) (0 + 32)) cL_act RL 10 8 := X_n (X_g1 XK) (by rw [hkc]; omega) (by rw [hks]; omega)
  refine sw_astore_4 X1 dL_act_4 trivial ?_
  refine sw_bipush X1 (nI 48) dL_act_6 (by decide) ?_
  refine sw_new2 (X_g1 XK) rfl (by rw [hkc]; omega) (by rw [hks]; omega) dL_act_8 (fun y => ?_)
  exact sw_widen (by rw [hkc]; omega) (by rw [hks]; omega) (main x y)
set_option maxHeartbeats 4000000 in
set_option maxRecDepth 100000 in
theorem c_L_act_ry {G : sv_G} {M : sv_Mem} (hg : gn G = 1) {cs : Nat → Nat} (hcs : csOk (M 0) cs 13) (hkv : M 9 4 0 0 = M 0 10 0 0) {q s : Nat} {v w : Int32} (hq : q < 3) (hqa : lowN (sh5 v) 3 = q) (hsa : lowN v 20 = s) {M2 : sv_Mem} {c p : Nat} (hc : M 0 14 q 0 = nI c) (hl : c ≤ 13) (h14 : s = 14) (hw : lowN w 3 < 8) (hnr : nrR (M 0 16 q) (nI (lowN w 3)) (c - 1) = nI p) (hp : p < c - 1) (cR : (∀ G : sv_G, sv_Ct G M_X3_release 5 [.ref (sv_ad G 0 8 0), .int (nI q), .int (nI (lowN w 3))] (acM M cs) (some (.int (nI (c - 1 - p)))) M2)) (h2c : M2 0 14 q 0 = nI (p + 1)) (hV : ∀ k, k < 16 → M2 0 11 0 k = M2 9 5 0 k) (hM3 : ∀ r, r < 48 → r / 16 ≠ 3 → md (M2 0 14 (r / 16) 1) (r % 16) = M2 9 6 0 r) : sv_CtA G M_L_act 8 [.ref (sv_ad G 0 8 0), .int v, .int w, .ref (sv_ad G 4 9 0)] M (some (.int (nI 1))) (M2) 3 96 := by
  have hs20 : s < 20 := by rw [← hsa]; exact lowN_lt v (by decide)
  refine sv_CtA_of (lo := [some (.ref (sv_ad G 0 8 0)), some (.int v), some (.int w), some (.ref (sv_ad G 4 9 0)), none, none, none, none, none, none]) (pn_L) rfl (Nat.le_of_ble_eq_true rfl) rfl (fun K XK YK hkc hks => ?_)
  replace XK : sv_X G K cL_act RL 10 8 := XK
  replace YK : sv_Y G K (some .boolean) _ _ := YK
  show sw_W G (sv_Kn K 0 0) 10 0 _ _ _
  have main : ∀ x y, sw_W (g2 (g1 G x) y) K 10 10 [some (.ref (sv_ad G 0 8 0)), some (.int v), some (.int w), some (.ref (sv_ad G 4 9 0)), some (.ref (sv_ad (g1 G x) 5 9 0)), none, none, none, none, none] [.ref (sv_ad (g2 (g1 G x) y) 6 9 0)] (sv_upA (sv_upA M 9 5 0 (fun _ => 0)) 9 6 0 (fun _ => 0)) := by
    intro x y
    obtain ⟨G2, hG2⟩ : ∃ G2, G2 = g2 (g1 G x) y := ⟨_, rfl⟩
    have e0 : sv_ad G 0 8 0 = sv_ad G2 0 8 0 := by rw [hG2]; rfl
    have e4 : sv_ad G 4 9 0 = sv_ad G2 4 9 0 := by rw [hG2]; rfl
    have e5 : sv_ad (g1 G x) 5 9 0 = sv_ad G2 5 9 0 := by rw [hG2]; rfl
    have hg3 : gn G2 = 3 := by rw [hG2]; rfl
    have XG : sv_X G2 K cL_act RL 10 8 := by rw [hG2]; exact X_g2 (X_g1 XK)
    have X := XG
    have bk : ∀ pc lo rest N, sw_W G K 10 pc lo rest N → sw_W G2 K 10 pc lo rest N := fun pc lo rest N w => by rw [hG2]; exact sw_back2 rfl (sw_back1 hg w)
    rw [← hG2, e0, e4, e5]
    refine sw_astore_5 X dL_act_10 trivial ?_
    refine sw_iload_1 X dL_act_12 ?_
    refine sw_iconst X (nI 5) dL_act_13 (by decide) ?_
    refine sw_ishr X dL_act_14 ?_
    refine sw_iconst X (nI 3) dL_act_15 (by decide) ?_
    refine ca_L_46 X (by decide) dL_act_16 (Nat.le_of_ble_eq_true rfl) (c_L_low (n := 3) (by decide) (by decide)) ?_
    refine sw_tope (v2 := nI q) (congrArg nI hqa) ?_
    refine sw_istore_6 X dL_act_19 trivial ?_
    refine sw_iload_1 X dL_act_21 ?_
    refine sw_bipush X (nI 20) dL_act_22 (by decide) ?_
    refine ca_L_46 X (by decide) dL_act_24 (Nat.le_of_ble_eq_true rfl) (c_L_low (n := 20) (by decide) (by decide)) ?_
    refine sw_tope (v2 := nI s) (congrArg nI hsa) ?_
    refine sw_istore_7 X dL_act_27 trivial ?_
    refine sw_aload_0 X dL_act_29 ?_
    refine sw_aload_4 X dL_act_30 ?_
    refine sw_aload_5 X dL_act_32 ?_
    refine ca_L_99 X (by decide) dL_act_34 (Nat.le_of_ble_eq_true rfl) (c_L_look (M := (sv_upA (sv_upA M 9 5 0 (fun _ => 0)) 9 6 0 (fun _ => 0))) (by omega) (cs := cs) hcs) ?_
    refine sw_mem (M2 := acM M cs) rfl ?_
    refine sw_iload_7 X dL_act_37 ?_
    refine sw_bipush X (nI 10) dL_act_39 (by decide) ?_
    refine sw_icmp_ge X 75 dL_act_41 (by decide) (fun h41 => ?_) (fun h41 => ?_)
    ·
      refine sw_iload_7 X dL_act_75 ?_
      refine sw_bipush X (nI 13) dL_act_77 (by decide) ?_
      refine sw_icmp_ge X 163 dL_act_79 (by decide) (fun h79 => ?_) (fun h79 => ?_)
      ·
        refine sw_iload_7 X dL_act_163 ?_
        refine sw_bipush X (nI 13) dL_act_165 (by decide) ?_
        refine sw_icmp_ne X 189 dL_act_167 (by decide) (fun h167 => ?_) (fun h167 => ?_)
        ·
          refine sw_iload_7 X dL_act_189 ?_
          refine sw_bipush X (nI 14) dL_act_191 (by decide) ?_
          refine sw_icmp_ne X 294 dL_act_193 (by decide) (fun h193 => ?_) (fun h193 => ?_)
          ·
            exact absurd (congrArg nI (show s = 14 by omega)) h193
          ·
            refine sw_aload_0 X dL_act_196 ?_
            refine sw_iload_6 X dL_act_197 ?_
            refine sw_iconst X (nI 1) dL_act_199 (by decide) ?_
            refine ca_L_23 X (by decide) dL_act_200 (Nat.le_of_ble_eq_true rfl) (c_X3_session_1 (M := acM M cs) hq hc hl) ?_
            refine sw_istore_8 X dL_act_203 trivial ?_
            refine sw_aload_0 X dL_act_205 ?_
            refine sw_iload_6 X dL_act_206 ?_
            refine sw_iload_2 X dL_act_208 ?_
            refine sw_iconst X (nI 3) dL_act_209 (by decide) ?_
            refine ca_L_46 X (by decide) dL_act_210 (Nat.le_of_ble_eq_true rfl) (c_L_low (n := 3) (by decide) (by decide)) ?_
            refine ca_L_33 X (by decide) dL_act_213 (Nat.le_of_ble_eq_true rfl) (c_X3_nearest_y (M := acM M cs) hq (nm_in hw) hc hl) ?_
            refine sw_tope hnr ?_
            refine sw_istore_9 X dL_act_216 trivial ?_
            refine sw_aload_0 X dL_act_218 ?_
            refine sw_iload_6 X dL_act_219 ?_
            refine sw_iload_2 X dL_act_221 ?_
            refine sw_iconst X (nI 3) dL_act_222 (by decide) ?_
            refine ca_L_46 X (by decide) dL_act_223 (Nat.le_of_ble_eq_true rfl) (c_L_low (n := 3) (by decide) (by decide)) ?_
            refine ca_L_87 X (by decide) dL_act_226 (Nat.le_of_ble_eq_true rfl) (cR G2) ?_
            refine sw_iload_9 X dL_act_229 ?_
            refine sw_if_ge X 239 dL_act_231 (by decide) (fun h231 => ?_) (fun h231 => ?_)
            ·
              refine sw_iload_8 X dL_act_239 ?_
              refine sw_iload_9 X dL_act_241 ?_
              refine sw_isub X dL_act_243 ?_
              refine sw_icmp_ne X 292 dL_act_244 (by decide) (fun h244 => ?_) (fun h244 => ?_)
              ·
                exact absurd (pk_sub (by omega)).symm h244
              ·
                refine sw_aload_0 X dL_act_247 ?_
                refine sw_iload_6 X dL_act_248 ?_
                refine sw_iconst X (nI 1) dL_act_250 (by decide) ?_
                refine ca_L_23 X (by decide) dL_act_251 (Nat.le_of_ble_eq_true rfl) (c_X3_session_1 (M := M2) hq h2c (by omega)) ?_
                refine sw_iload_9 X dL_act_254 ?_
                refine sw_if_ge X 264 dL_act_256 (by decide) (fun h256 => ?_) (fun h256 => ?_)
                ·
                  refine sw_iload_9 X dL_act_264 ?_
                  refine sw_icmp_ne X 292 dL_act_266 (by decide) (fun h266 => ?_) (fun h266 => ?_)
                  ·
                    exact absurd rfl h266
                  ·
                    refine sw_aload_0 X dL_act_269 ?_
                    refine sw_aload_4 X dL_act_270 ?_
                    refine ca_L_76 X (by decide) dL_act_272 (Nat.le_of_ble_eq_true rfl) (c_L_areValues (by omega) hV) ?_
                    refine sw_if_eq X 292 dL_act_275 (by decide) (fun h275 => ?_) (fun h275 => ?_)
                    ·
                      exact absurd h275 (by decide)
                    ·
                      refine sw_aload_0 X dL_act_278 ?_
                      refine sw_aload_5 X dL_act_279 ?_
                      refine sw_iconst X (nI 3) dL_act_281 (by decide) ?_
                      refine ca_L_80 X (by decide) dL_act_282 (Nat.le_of_ble_eq_true rfl) (c_L_otherModes (by omega) (bn := 3) hM3) ?_
                      refine sw_if_ne X 292 dL_act_285 (by decide) (fun h285 => ?_) (fun h285 => ?_)
                      ·
                        exact absurd rfl h285
                      ·
                        refine sw_iconst X (nI 1) dL_act_288 (by decide) ?_
                        refine sw_goto X 293 dL_act_289 (by decide) ?_
                        exact bk _ _ _ _ (sw_zret XK YK dL_act_293 (by first | rfl | exact sv_nzB) rfl rfl)
                ·
                  exact absurd (Int32.not_lt.mp (nI_pos (n := p) (by omega))) h256
            ·
              exact absurd (Int32.not_lt.mp (nI_pos (n := p) (by omega))) h231
        ·
          exact absurd (nJ (by omega) (by omega) h167) (by omega)
      ·
        exact absurd ((nI_leI (a := 13) (b := s) (by omega) (by omega)).mpr (by omega)) h79
    ·
      exact absurd ((nI_leI (a := 10) (b := s) (by omega) (by omega)).mpr (by omega)) h41
  have X0 := X_n (c := 0) (s := 0) XK (Nat.zero_le _) (Nat.zero_le _)
  refine sw_bipush X0 (nI 32) dL_act_0 (by decide) ?_
  refine sw_new1 XK hg (by rw [hkc]; omega) (by rw [hks]; omega) dL_act_2 (fun x => ?_)
  have X1 : sv_X (g1 G x) (sv_Kn K (0 + 1) (0 + 32)) cL_act RL 10 8 := X_n (X_g1 XK) (by rw [hkc]; omega) (by rw [hks]; omega)
  refine sw_astore_4 X1 dL_act_4 trivial ?_
  refine sw_bipush X1 (nI 48) dL_act_6 (by decide) ?_
  refine sw_new2 (X_g1 XK) rfl (by rw [hkc]; omega) (by rw [hks]; omega) dL_act_8 (fun y => ?_)
  exact sw_widen (by rw [hkc]; omega) (by rw [hks]; omega) (main x y)
set_option maxHeartbeats 4000000 in
set_option maxRecDepth 100000 in
theorem c_L_act_kp {G : sv_G} {M : sv_Mem} (hg : gn G = 1) {cs : Nat → Nat} (hcs : csOk (M 0) cs 13) (hkv : M 9 4 0 0 = M 0 10 0 0) {q s : Nat} {v w : Int32} (hq : q < 3) (hqa : lowN (sh5 v) 3 = q) (hsa : lowN v 20 = s) {M2 : sv_Mem} (h15 : s = 15) (cK : ∀ G : sv_G, sv_Ct G M_X3_keep 4 [.ref (sv_ad G 0 8 0), .int (bI (lowN w 2 = 1))] (sv_up (acM M cs) 9 4 0 0 (nI (lowN w 2))) (some (.int (M 0 10 0 0))) M2) (hV : ∀ k, k < 16 → M2 0 11 0 k = M2 9 5 0 k)  : sv_CtA G M_L_act 8 [.ref (sv_ad G 0 8 0), .int v, .int w, .ref (sv_ad G 4 9 0)] M (some (.int (nI 1))) (M2) 3 96 := by
  have hs20 : s < 20 := by rw [← hsa]; exact lowN_lt v (by decide)
  have hw2 := lowN_lt w (n := 2) (by decide)
  refine sv_CtA_of (lo := [some (.ref (sv_ad G 0 8 0)), some (.int v), some (.int w), some (.ref (sv_ad G 4 9 0)), none, none, none, none, none, none]) (pn_L) rfl (Nat.le_of_ble_eq_true rfl) rfl (fun K XK YK hkc hks => ?_)
  replace XK : sv_X G K cL_act RL 10 8 := XK
  replace YK : sv_Y G K (some .boolean) _ _ := YK
  show sw_W G (sv_Kn K 0 0) 10 0 _ _ _
  have main : ∀ x y, sw_W (g2 (g1 G x) y) K 10 10 [some (.ref (sv_ad G 0 8 0)), some (.int v), some (.int w), some (.ref (sv_ad G 4 9 0)), some (.ref (sv_ad (g1 G x) 5 9 0)), none, none, none, none, none] [.ref (sv_ad (g2 (g1 G x) y) 6 9 0)] (sv_upA (sv_upA M 9 5 0 (fun _ => 0)) 9 6 0 (fun _ => 0)) := by
    intro x y
    obtain ⟨G2, hG2⟩ : ∃ G2, G2 = g2 (g1 G x) y := ⟨_, rfl⟩
    have e0 : sv_ad G 0 8 0 = sv_ad G2 0 8 0 := by rw [hG2]; rfl
    have e4 : sv_ad G 4 9 0 = sv_ad G2 4 9 0 := by rw [hG2]; rfl
    have e5 : sv_ad (g1 G x) 5 9 0 = sv_ad G2 5 9 0 := by rw [hG2]; rfl
    have hg3 : gn G2 = 3 := by rw [hG2]; rfl
    have XG : sv_X G2 K cL_act RL 10 8 := by rw [hG2]; exact X_g2 (X_g1 XK)
    have X := XG
    have bk : ∀ pc lo rest N, sw_W G K 10 pc lo rest N → sw_W G2 K 10 pc lo rest N := fun pc lo rest N w => by rw [hG2]; exact sw_back2 rfl (sw_back1 hg w)
    rw [← hG2, e0, e4, e5]
    refine sw_astore_5 X dL_act_10 trivial ?_
    refine sw_iload_1 X dL_act_12 ?_
    refine sw_iconst X (nI 5) dL_act_13 (by decide) ?_
    refine sw_ishr X dL_act_14 ?_
    refine sw_iconst X (nI 3) dL_act_15 (by decide) ?_
    refine ca_L_46 X (by decide) dL_act_16 (Nat.le_of_ble_eq_true rfl) (c_L_low (n := 3) (by decide) (by decide)) ?_
    refine sw_tope (v2 := nI q) (congrArg nI hqa) ?_
    refine sw_istore_6 X dL_act_19 trivial ?_
    refine sw_iload_1 X dL_act_21 ?_
    refine sw_bipush X (nI 20) dL_act_22 (by decide) ?_
    refine ca_L_46 X (by decide) dL_act_24 (Nat.le_of_ble_eq_true rfl) (c_L_low (n := 20) (by decide) (by decide)) ?_
    refine sw_tope (v2 := nI s) (congrArg nI hsa) ?_
    refine sw_istore_7 X dL_act_27 trivial ?_
    refine sw_aload_0 X dL_act_29 ?_
    refine sw_aload_4 X dL_act_30 ?_
    refine sw_aload_5 X dL_act_32 ?_
    refine ca_L_99 X (by decide) dL_act_34 (Nat.le_of_ble_eq_true rfl) (c_L_look (M := (sv_upA (sv_upA M 9 5 0 (fun _ => 0)) 9 6 0 (fun _ => 0))) (by omega) (cs := cs) hcs) ?_
    refine sw_mem (M2 := acM M cs) rfl ?_
    refine sw_iload_7 X dL_act_37 ?_
    refine sw_bipush X (nI 10) dL_act_39 (by decide) ?_
    refine sw_icmp_ge X 75 dL_act_41 (by decide) (fun h41 => ?_) (fun h41 => ?_)
    ·
      refine sw_iload_7 X dL_act_75 ?_
      refine sw_bipush X (nI 13) dL_act_77 (by decide) ?_
      refine sw_icmp_ge X 163 dL_act_79 (by decide) (fun h79 => ?_) (fun h79 => ?_)
      ·
        refine sw_iload_7 X dL_act_163 ?_
        refine sw_bipush X (nI 13) dL_act_165 (by decide) ?_
        refine sw_icmp_ne X 189 dL_act_167 (by decide) (fun h167 => ?_) (fun h167 => ?_)
        ·
          refine sw_iload_7 X dL_act_189 ?_
          refine sw_bipush X (nI 14) dL_act_191 (by decide) ?_
          refine sw_icmp_ne X 294 dL_act_193 (by decide) (fun h193 => ?_) (fun h193 => ?_)
          ·
            refine sw_iload_7 X dL_act_294 ?_
            refine sw_bipush X (nI 15) dL_act_296 (by decide) ?_
            refine sw_icmp_ne X 350 dL_act_298 (by decide) (fun h298 => ?_) (fun h298 => ?_)
            ·
              exact absurd (congrArg nI (show s = 15 by omega)) h298
            ·
              refine sw_aload_3 X dL_act_301 ?_
              refine sw_iconst X (nI 0) dL_act_302 (by decide) ?_
              refine ia_4 X (by omega) rfl (by omega) dL_act_303 ?_
              refine sw_tope (v2 := M 0 10 0 0) (by rw [acM_4]; exact hkv) ?_
              refine sw_istore_8 X dL_act_304 trivial ?_
              refine sw_aload_3 X dL_act_306 ?_
              refine sw_iconst X (nI 0) dL_act_307 (by decide) ?_
              refine sw_iload_2 X dL_act_308 ?_
              refine sw_iconst X (nI 2) dL_act_309 (by decide) ?_
              refine ca_L_46 X (by decide) dL_act_310 (Nat.le_of_ble_eq_true rfl) (c_L_low (n := 2) (by decide) (by decide)) ?_
              refine is_4 X (by omega) rfl (by omega) dL_act_313 ?_
              refine sw_aload_0 X dL_act_314 ?_
              refine sw_aload_3 X dL_act_315 ?_
              refine sw_iconst X (nI 0) dL_act_316 (by decide) ?_
              refine ia_4 X (by omega) rfl (by omega) dL_act_317 ?_
              refine sw_tope (v2 := nI (lowN w 2)) (by rw [sv_up_at, va_up_self]) ?_
              refine sw_iconst X (nI 1) dL_act_318 (by decide) ?_
              refine sw_icmp_ne X 326 dL_act_319 (by decide) (fun h319 => ?_) (fun h319 => ?_)
              ·
                refine sw_iconst X (nI 0) dL_act_326 (by decide) ?_
                refine sw_tope (v2 := bI (lowN w 2 = 1)) (by first | exact (bI_f (fun z => h319 (by rw [z]))).symm | exact (bI_t (nJ (by omega) (by omega) h319)).symm) ?_
                refine ca_L_114 X (by decide) dL_act_327 (Nat.le_of_ble_eq_true rfl) (cK G2) ?_
                refine sw_iload_8 X dL_act_330 ?_
                refine sw_icmp_ne X 348 dL_act_332 (by decide) (fun h332 => ?_) (fun h332 => ?_)
                ·
                  exact absurd rfl h332
                ·
                  refine sw_aload_0 X dL_act_335 ?_
                  refine sw_aload_4 X dL_act_336 ?_
                  refine ca_L_76 X (by decide) dL_act_338 (Nat.le_of_ble_eq_true rfl) (c_L_areValues (by omega) hV) ?_
                  refine sw_if_eq X 348 dL_act_341 (by decide) (fun h341 => ?_) (fun h341 => ?_)
                  ·
                    exact absurd h341 (by decide)
                  ·
                    refine sw_iconst X (nI 1) dL_act_344 (by decide) ?_
                    refine sw_goto X 349 dL_act_345 (by decide) ?_
                    exact bk _ _ _ _ (sw_zret XK YK dL_act_349 (by first | rfl | exact sv_nzB) rfl rfl)
              ·
                refine sw_iconst X (nI 1) dL_act_322 (by decide) ?_
                refine sw_goto X 327 dL_act_323 (by decide) ?_
                refine sw_tope (v2 := bI (lowN w 2 = 1)) (by first | exact (bI_f (fun z => h319 (by rw [z]))).symm | exact (bI_t (nJ (by omega) (by omega) h319)).symm) ?_
                refine ca_L_114 X (by decide) dL_act_327 (Nat.le_of_ble_eq_true rfl) (cK G2) ?_
                refine sw_iload_8 X dL_act_330 ?_
                refine sw_icmp_ne X 348 dL_act_332 (by decide) (fun h332 => ?_) (fun h332 => ?_)
                ·
                  exact absurd rfl h332
                ·
                  refine sw_aload_0 X dL_act_335 ?_
                  refine sw_aload_4 X dL_act_336 ?_
                  refine ca_L_76 X (by decide) dL_act_338 (Nat.le_of_ble_eq_true rfl) (c_L_areValues (by omega) hV) ?_
                  refine sw_if_eq X 348 dL_act_341 (by decide) (fun h341 => ?_) (fun h341 => ?_)
                  ·
                    exact absurd h341 (by decide)
                  ·
                    refine sw_iconst X (nI 1) dL_act_344 (by decide) ?_
                    refine sw_goto X 349 dL_act_345 (by decide) ?_
                    exact bk _ _ _ _ (sw_zret XK YK dL_act_349 (by first | rfl | exact sv_nzB) rfl rfl)
          ·
            exact absurd (nJ (by omega) (by omega) h193) (by omega)
        ·
          exact absurd (nJ (by omega) (by omega) h167) (by omega)
      ·
        exact absurd ((nI_leI (a := 13) (b := s) (by omega) (by omega)).mpr (by omega)) h79
    ·
      exact absurd ((nI_leI (a := 10) (b := s) (by omega) (by omega)).mpr (by omega)) h41
  have X0 := X_n (c := 0) (s := 0) XK (Nat.zero_le _) (Nat.zero_le _)
  refine sw_bipush X0 (nI 32) dL_act_0 (by decide) ?_
  refine sw_new1 XK hg (by rw [hkc]; omega) (by rw [hks]; omega) dL_act_2 (fun x => ?_)
  have X1 : sv_X (g1 G x) (sv_Kn K (0 + 1) (0 + 32)) cL_act RL 10 8 := X_n (X_g1 XK) (by rw [hkc]; omega) (by rw [hks]; omega)
  refine sw_astore_4 X1 dL_act_4 trivial ?_
  refine sw_bipush X1 (nI 48) dL_act_6 (by decide) ?_
  refine sw_new2 (X_g1 XK) rfl (by rw [hkc]; omega) (by rw [hks]; omega) dL_act_8 (fun y => ?_)
  exact sw_widen (by rw [hkc]; omega) (by rw [hks]; omega) (main x y)
set_option maxHeartbeats 4000000 in
set_option maxRecDepth 100000 in
theorem c_L_act_cl {G : sv_G} {M : sv_Mem} (hg : gn G = 1) {cs : Nat → Nat} (hcs : csOk (M 0) cs 13) (hkv : M 9 4 0 0 = M 0 10 0 0) {q s : Nat} {v w : Int32} (hq : q < 3) (hqa : lowN (sh5 v) 3 = q) (hsa : lowN v 20 = s) {M2 : sv_Mem} {i : Nat} (h16 : s = 16) (hi0 : lowN w 2 ≠ 0 → i = 0) (hi1 : lowN w 2 = 0 → i = 1) (cC : (∀ G : sv_G, 2 < gn G → sv_Ct G M_L_closes 5 [.ref (sv_ad G 0 8 0), .int (nI q), .int (nI i), .ref (sv_ad G 5 9 0), .ref (sv_ad G 6 9 0)] (acM M cs) (some (.int (nI 1))) M2)) : sv_CtA G M_L_act 8 [.ref (sv_ad G 0 8 0), .int v, .int w, .ref (sv_ad G 4 9 0)] M (some (.int (nI 1))) (M2) 3 96 := by
  have hs20 : s < 20 := by rw [← hsa]; exact lowN_lt v (by decide)
  have hw2 := lowN_lt w (n := 2) (by decide)
  refine sv_CtA_of (lo := [some (.ref (sv_ad G 0 8 0)), some (.int v), some (.int w), some (.ref (sv_ad G 4 9 0)), none, none, none, none, none, none]) (pn_L) rfl (Nat.le_of_ble_eq_true rfl) rfl (fun K XK YK hkc hks => ?_)
  replace XK : sv_X G K cL_act RL 10 8 := XK
  replace YK : sv_Y G K (some .boolean) _ _ := YK
  show sw_W G (sv_Kn K 0 0) 10 0 _ _ _
  have main : ∀ x y, sw_W (g2 (g1 G x) y) K 10 10 [some (.ref (sv_ad G 0 8 0)), some (.int v), some (.int w), some (.ref (sv_ad G 4 9 0)), some (.ref (sv_ad (g1 G x) 5 9 0)), none, none, none, none, none] [.ref (sv_ad (g2 (g1 G x) y) 6 9 0)] (sv_upA (sv_upA M 9 5 0 (fun _ => 0)) 9 6 0 (fun _ => 0)) := by
    intro x y
    obtain ⟨G2, hG2⟩ : ∃ G2, G2 = g2 (g1 G x) y := ⟨_, rfl⟩
    have e0 : sv_ad G 0 8 0 = sv_ad G2 0 8 0 := by rw [hG2]; rfl
    have e4 : sv_ad G 4 9 0 = sv_ad G2 4 9 0 := by rw [hG2]; rfl
    have e5 : sv_ad (g1 G x) 5 9 0 = sv_ad G2 5 9 0 := by rw [hG2]; rfl
    have hg3 : gn G2 = 3 := by rw [hG2]; rfl
    have XG : sv_X G2 K cL_act RL 10 8 := by rw [hG2]; exact X_g2 (X_g1 XK)
    have X := XG
    have bk : ∀ pc lo rest N, sw_W G K 10 pc lo rest N → sw_W G2 K 10 pc lo rest N := fun pc lo rest N w => by rw [hG2]; exact sw_back2 rfl (sw_back1 hg w)
    rw [← hG2, e0, e4, e5]
    refine sw_astore_5 X dL_act_10 trivial ?_
    refine sw_iload_1 X dL_act_12 ?_
    refine sw_iconst X (nI 5) dL_act_13 (by decide) ?_
    refine sw_ishr X dL_act_14 ?_
    refine sw_iconst X (nI 3) dL_act_15 (by decide) ?_
    refine ca_L_46 X (by decide) dL_act_16 (Nat.le_of_ble_eq_true rfl) (c_L_low (n := 3) (by decide) (by decide)) ?_
    refine sw_tope (v2 := nI q) (congrArg nI hqa) ?_
    refine sw_istore_6 X dL_act_19 trivial ?_
    refine sw_iload_1 X dL_act_21 ?_
    refine sw_bipush X (nI 20) dL_act_22 (by decide) ?_
    refine ca_L_46 X (by decide) dL_act_24 (Nat.le_of_ble_eq_true rfl) (c_L_low (n := 20) (by decide) (by decide)) ?_
    refine sw_tope (v2 := nI s) (congrArg nI hsa) ?_
    refine sw_istore_7 X dL_act_27 trivial ?_
    refine sw_aload_0 X dL_act_29 ?_
    refine sw_aload_4 X dL_act_30 ?_
    refine sw_aload_5 X dL_act_32 ?_
    refine ca_L_99 X (by decide) dL_act_34 (Nat.le_of_ble_eq_true rfl) (c_L_look (M := (sv_upA (sv_upA M 9 5 0 (fun _ => 0)) 9 6 0 (fun _ => 0))) (by omega) (cs := cs) hcs) ?_
    refine sw_mem (M2 := acM M cs) rfl ?_
    refine sw_iload_7 X dL_act_37 ?_
    refine sw_bipush X (nI 10) dL_act_39 (by decide) ?_
    refine sw_icmp_ge X 75 dL_act_41 (by decide) (fun h41 => ?_) (fun h41 => ?_)
    ·
      refine sw_iload_7 X dL_act_75 ?_
      refine sw_bipush X (nI 13) dL_act_77 (by decide) ?_
      refine sw_icmp_ge X 163 dL_act_79 (by decide) (fun h79 => ?_) (fun h79 => ?_)
      ·
        refine sw_iload_7 X dL_act_163 ?_
        refine sw_bipush X (nI 13) dL_act_165 (by decide) ?_
        refine sw_icmp_ne X 189 dL_act_167 (by decide) (fun h167 => ?_) (fun h167 => ?_)
        ·
          refine sw_iload_7 X dL_act_189 ?_
          refine sw_bipush X (nI 14) dL_act_191 (by decide) ?_
          refine sw_icmp_ne X 294 dL_act_193 (by decide) (fun h193 => ?_) (fun h193 => ?_)
          ·
            refine sw_iload_7 X dL_act_294 ?_
            refine sw_bipush X (nI 15) dL_act_296 (by decide) ?_
            refine sw_icmp_ne X 350 dL_act_298 (by decide) (fun h298 => ?_) (fun h298 => ?_)
            ·
              refine sw_iload_7 X dL_act_350 ?_
              refine sw_bipush X (nI 16) dL_act_352 (by decide) ?_
              refine sw_icmp_ne X 381 dL_act_354 (by decide) (fun h354 => ?_) (fun h354 => ?_)
              ·
                exact absurd (congrArg nI (show s = 16 by omega)) h354
              ·
                refine sw_aload_0 X dL_act_357 ?_
                refine sw_iload_6 X dL_act_358 ?_
                refine sw_iload_2 X dL_act_360 ?_
                refine sw_iconst X (nI 2) dL_act_361 (by decide) ?_
                refine ca_L_46 X (by decide) dL_act_362 (Nat.le_of_ble_eq_true rfl) (c_L_low (n := 2) (by decide) (by decide)) ?_
                refine sw_if_ne X 372 dL_act_365 (by decide) (fun h365 => ?_) (fun h365 => ?_)
                ·
                  refine sw_iconst X (nI 0) dL_act_372 (by decide) ?_
                  refine sw_tope (v2 := nI i) (by first | rw [hi0 (fun z => h365 (by rw [z]; rfl))] | rw [hi1 (nJ (b := 0) (by omega) (by omega) h365)]) ?_
                  refine sw_aload_4 X dL_act_373 ?_
                  refine sw_aload_5 X dL_act_375 ?_
                  refine ca_L_118 X (by decide) dL_act_377 (Nat.le_of_ble_eq_true rfl) (cC G2 (by omega)) ?_
                  exact bk _ _ _ _ (sw_zret XK YK dL_act_380 (by first | rfl | exact sv_nzB) rfl rfl)
                ·
                  refine sw_iconst X (nI 1) dL_act_368 (by decide) ?_
                  refine sw_goto X 373 dL_act_369 (by decide) ?_
                  refine sw_tope (v2 := nI i) (by first | rw [hi0 (fun z => h365 (by rw [z]; rfl))] | rw [hi1 (nJ (b := 0) (by omega) (by omega) h365)]) ?_
                  refine sw_aload_4 X dL_act_373 ?_
                  refine sw_aload_5 X dL_act_375 ?_
                  refine ca_L_118 X (by decide) dL_act_377 (Nat.le_of_ble_eq_true rfl) (cC G2 (by omega)) ?_
                  exact bk _ _ _ _ (sw_zret XK YK dL_act_380 (by first | rfl | exact sv_nzB) rfl rfl)
            ·
              exact absurd (nJ (by omega) (by omega) h298) (by omega)
          ·
            exact absurd (nJ (by omega) (by omega) h193) (by omega)
        ·
          exact absurd (nJ (by omega) (by omega) h167) (by omega)
      ·
        exact absurd ((nI_leI (a := 13) (b := s) (by omega) (by omega)).mpr (by omega)) h79
    ·
      exact absurd ((nI_leI (a := 10) (b := s) (by omega) (by omega)).mpr (by omega)) h41
  have X0 := X_n (c := 0) (s := 0) XK (Nat.zero_le _) (Nat.zero_le _)
  refine sw_bipush X0 (nI 32) dL_act_0 (by decide) ?_
  refine sw_new1 XK hg (by rw [hkc]; omega) (by rw [hks]; omega) dL_act_2 (fun x => ?_)
  have X1 : sv_X (g1 G x) (sv_Kn K (0 + 1) (0 + 32)) cL_act RL 10 8 := X_n (X_g1 XK) (by rw [hkc]; omega) (by rw [hks]; omega)
  refine sw_astore_4 X1 dL_act_4 trivial ?_
  refine sw_bipush X1 (nI 48) dL_act_6 (by decide) ?_
  refine sw_new2 (X_g1 XK) rfl (by rw [hkc]; omega) (by rw [hks]; omega) dL_act_8 (fun y => ?_)
  exact sw_widen (by rw [hkc]; omega) (by rw [hks]; omega) (main x y)
set_option maxHeartbeats 4000000 in
set_option maxRecDepth 100000 in
theorem c_L_act_by {G : sv_G} {M : sv_Mem} (hg : gn G = 1) {cs : Nat → Nat} (hcs : csOk (M 0) cs 13) (hkv : M 9 4 0 0 = M 0 10 0 0) {q s : Nat} {v w : Int32} (hq : q < 3) (hqa : lowN (sh5 v) 3 = q) (hsa : lowN v 20 = s) {M2 : sv_Mem} (h17 : 17 ≤ s) (hz : cs q = 0) (cB : (∀ G : sv_G, sv_Ct G M_X3_begin 4 [.ref (sv_ad G 0 8 0), .int (nI q)] (acM M cs) (some (.int (nI (cnt (fun j => va_up cs q 1 j ≠ 0) 3)))) M2)) (h2c : M2 0 14 q 0 = nI 1) (hV : ∀ k, k < 16 → M2 0 11 0 k = M2 9 5 0 k) (hM3 : ∀ r, r < 48 → r / 16 ≠ 3 → md (M2 0 14 (r / 16) 1) (r % 16) = M2 9 6 0 r) : sv_CtA G M_L_act 8 [.ref (sv_ad G 0 8 0), .int v, .int w, .ref (sv_ad G 4 9 0)] M (some (.int (nI 1))) (M2) 3 96 := by
  have hs20 : s < 20 := by rw [← hsa]; exact lowN_lt v (by decide)
  refine sv_CtA_of (lo := [some (.ref (sv_ad G 0 8 0)), some (.int v), some (.int w), some (.ref (sv_ad G 4 9 0)), none, none, none, none, none, none]) (pn_L) rfl (Nat.le_of_ble_eq_true rfl) rfl (fun K XK YK hkc hks => ?_)
  replace XK : sv_X G K cL_act RL 10 8 := XK
  replace YK : sv_Y G K (some .boolean) _ _ := YK
  show sw_W G (sv_Kn K 0 0) 10 0 _ _ _
  have main : ∀ x y, sw_W (g2 (g1 G x) y) K 10 10 [some (.ref (sv_ad G 0 8 0)), some (.int v), some (.int w), some (.ref (sv_ad G 4 9 0)), some (.ref (sv_ad (g1 G x) 5 9 0)), none, none, none, none, none] [.ref (sv_ad (g2 (g1 G x) y) 6 9 0)] (sv_upA (sv_upA M 9 5 0 (fun _ => 0)) 9 6 0 (fun _ => 0)) := by
    intro x y
    obtain ⟨G2, hG2⟩ : ∃ G2, G2 = g2 (g1 G x) y := ⟨_, rfl⟩
    have e0 : sv_ad G 0 8 0 = sv_ad G2 0 8 0 := by rw [hG2]; rfl
    have e4 : sv_ad G 4 9 0 = sv_ad G2 4 9 0 := by rw [hG2]; rfl
    have e5 : sv_ad (g1 G x) 5 9 0 = sv_ad G2 5 9 0 := by rw [hG2]; rfl
    have hg3 : gn G2 = 3 := by rw [hG2]; rfl
    have XG : sv_X G2 K cL_act RL 10 8 := by rw [hG2]; exact X_g2 (X_g1 XK)
    have X := XG
    have bk : ∀ pc lo rest N, sw_W G K 10 pc lo rest N → sw_W G2 K 10 pc lo rest N := fun pc lo rest N w => by rw [hG2]; exact sw_back2 rfl (sw_back1 hg w)
    rw [← hG2, e0, e4, e5]
    refine sw_astore_5 X dL_act_10 trivial ?_
    refine sw_iload_1 X dL_act_12 ?_
    refine sw_iconst X (nI 5) dL_act_13 (by decide) ?_
    refine sw_ishr X dL_act_14 ?_
    refine sw_iconst X (nI 3) dL_act_15 (by decide) ?_
    refine ca_L_46 X (by decide) dL_act_16 (Nat.le_of_ble_eq_true rfl) (c_L_low (n := 3) (by decide) (by decide)) ?_
    refine sw_tope (v2 := nI q) (congrArg nI hqa) ?_
    refine sw_istore_6 X dL_act_19 trivial ?_
    refine sw_iload_1 X dL_act_21 ?_
    refine sw_bipush X (nI 20) dL_act_22 (by decide) ?_
    refine ca_L_46 X (by decide) dL_act_24 (Nat.le_of_ble_eq_true rfl) (c_L_low (n := 20) (by decide) (by decide)) ?_
    refine sw_tope (v2 := nI s) (congrArg nI hsa) ?_
    refine sw_istore_7 X dL_act_27 trivial ?_
    refine sw_aload_0 X dL_act_29 ?_
    refine sw_aload_4 X dL_act_30 ?_
    refine sw_aload_5 X dL_act_32 ?_
    refine ca_L_99 X (by decide) dL_act_34 (Nat.le_of_ble_eq_true rfl) (c_L_look (M := (sv_upA (sv_upA M 9 5 0 (fun _ => 0)) 9 6 0 (fun _ => 0))) (by omega) (cs := cs) hcs) ?_
    refine sw_mem (M2 := acM M cs) rfl ?_
    refine sw_iload_7 X dL_act_37 ?_
    refine sw_bipush X (nI 10) dL_act_39 (by decide) ?_
    refine sw_icmp_ge X 75 dL_act_41 (by decide) (fun h41 => ?_) (fun h41 => ?_)
    ·
      refine sw_iload_7 X dL_act_75 ?_
      refine sw_bipush X (nI 13) dL_act_77 (by decide) ?_
      refine sw_icmp_ge X 163 dL_act_79 (by decide) (fun h79 => ?_) (fun h79 => ?_)
      ·
        refine sw_iload_7 X dL_act_163 ?_
        refine sw_bipush X (nI 13) dL_act_165 (by decide) ?_
        refine sw_icmp_ne X 189 dL_act_167 (by decide) (fun h167 => ?_) (fun h167 => ?_)
        ·
          refine sw_iload_7 X dL_act_189 ?_
          refine sw_bipush X (nI 14) dL_act_191 (by decide) ?_
          refine sw_icmp_ne X 294 dL_act_193 (by decide) (fun h193 => ?_) (fun h193 => ?_)
          ·
            refine sw_iload_7 X dL_act_294 ?_
            refine sw_bipush X (nI 15) dL_act_296 (by decide) ?_
            refine sw_icmp_ne X 350 dL_act_298 (by decide) (fun h298 => ?_) (fun h298 => ?_)
            ·
              refine sw_iload_7 X dL_act_350 ?_
              refine sw_bipush X (nI 16) dL_act_352 (by decide) ?_
              refine sw_icmp_ne X 381 dL_act_354 (by decide) (fun h354 => ?_) (fun h354 => ?_)
              ·
                refine sw_aload_0 X dL_act_381 ?_
                refine sw_iconst X (nI 0) dL_act_382 (by decide) ?_
                refine sw_iconst X (nI 0) dL_act_383 (by decide) ?_
                refine ca_L_23 X (by decide) dL_act_384 (Nat.le_of_ble_eq_true rfl) (c_X3_session_0 (M := acM M cs) (q := 0) (c := cs 0) (by decide) (hcs 0 (by decide)).1 (hcs 0 (by decide)).2) ?_
                refine sw_aload_0 X dL_act_387 ?_
                refine sw_iconst X (nI 1) dL_act_388 (by decide) ?_
                refine sw_iconst X (nI 0) dL_act_389 (by decide) ?_
                refine ca_L_23 X (by decide) dL_act_390 (Nat.le_of_ble_eq_true rfl) (c_X3_session_0 (M := acM M cs) (q := 1) (c := cs 1) (by decide) (hcs 1 (by decide)).1 (hcs 1 (by decide)).2) ?_
                refine sw_iadd X dL_act_393 ?_
                refine sw_aload_0 X dL_act_394 ?_
                refine sw_iconst X (nI 2) dL_act_395 (by decide) ?_
                refine sw_iconst X (nI 0) dL_act_396 (by decide) ?_
                refine ca_L_23 X (by decide) dL_act_397 (Nat.le_of_ble_eq_true rfl) (c_X3_session_0 (M := acM M cs) (q := 2) (c := cs 2) (by decide) (hcs 2 (by decide)).1 (hcs 2 (by decide)).2) ?_
                refine sw_iadd X dL_act_400 ?_
                refine sw_istore_8 X dL_act_401 trivial ?_
                refine sw_aload_0 X dL_act_403 ?_
                refine sw_iload_6 X dL_act_404 ?_
                refine sw_iconst X (nI 0) dL_act_406 (by decide) ?_
                refine ca_L_23 X (by decide) dL_act_407 (Nat.le_of_ble_eq_true rfl) (c_X3_session_0 (M := acM M cs) hq (hcs q hq).1 (hcs q hq).2) ?_
                refine sw_iconst X (nI 1) dL_act_410 (by decide) ?_
                refine sw_icmp_ne X 418 dL_act_411 (by decide) (fun h411 => ?_) (fun h411 => ?_)
                ·
                  refine sw_iconst X (nI 0) dL_act_418 (by decide) ?_
                  refine sw_istore_9 X dL_act_419 trivial ?_
                  refine sw_aload_0 X dL_act_421 ?_
                  refine sw_iload_6 X dL_act_422 ?_
                  refine ca_L_122 X (by decide) dL_act_424 (Nat.le_of_ble_eq_true rfl) (cB G2) ?_
                  refine sw_iload_9 X dL_act_427 ?_
                  refine sw_if_eq X 437 dL_act_429 (by decide) (fun h429 => ?_) (fun h429 => ?_)
                  ·
                    refine sw_iload_8 X dL_act_437 ?_
                    refine sw_iconst X (nI 1) dL_act_439 (by decide) ?_
                    refine sw_iadd X dL_act_440 ?_
                    refine sw_icmp_ne X 478 dL_act_441 (by decide) (fun h441 => ?_) (fun h441 => ?_)
                    ·
                      exact absurd (open_cnt hq hz) h441
                    ·
                      refine sw_aload_0 X dL_act_444 ?_
                      refine sw_iload_6 X dL_act_445 ?_
                      refine sw_iconst X (nI 0) dL_act_447 (by decide) ?_
                      refine ca_L_23 X (by decide) dL_act_448 (Nat.le_of_ble_eq_true rfl) (c_X3_session_0 (M := M2) hq (c := 1) h2c (by omega)) ?_
                      refine sw_iconst X (nI 1) dL_act_451 (by decide) ?_
                      refine sw_icmp_ne X 478 dL_act_452 (by decide) (fun h452 => ?_) (fun h452 => ?_)
                      ·
                        exact absurd (bI_t (by decide)) h452
                      ·
                        refine sw_aload_0 X dL_act_455 ?_
                        refine sw_aload_4 X dL_act_456 ?_
                        refine ca_L_76 X (by decide) dL_act_458 (Nat.le_of_ble_eq_true rfl) (c_L_areValues (by omega) hV) ?_
                        refine sw_if_eq X 478 dL_act_461 (by decide) (fun h461 => ?_) (fun h461 => ?_)
                        ·
                          exact absurd h461 (by decide)
                        ·
                          refine sw_aload_0 X dL_act_464 ?_
                          refine sw_aload_5 X dL_act_465 ?_
                          refine sw_iconst X (nI 3) dL_act_467 (by decide) ?_
                          refine ca_L_80 X (by decide) dL_act_468 (Nat.le_of_ble_eq_true rfl) (c_L_otherModes (by omega) (bn := 3) hM3) ?_
                          refine sw_if_ne X 478 dL_act_471 (by decide) (fun h471 => ?_) (fun h471 => ?_)
                          ·
                            exact absurd rfl h471
                          ·
                            refine sw_iconst X (nI 1) dL_act_474 (by decide) ?_
                            refine sw_goto X 479 dL_act_475 (by decide) ?_
                            exact bk _ _ _ _ (sw_zret XK YK dL_act_479 (by first | rfl | exact sv_nzB) rfl rfl)
                  ·
                    exact absurd rfl h429
                ·
                  exact absurd ((bI_f (fun z => z hz)).symm.trans h411) (by decide)
              ·
                exact absurd (nJ (by omega) (by omega) h354) (by omega)
            ·
              exact absurd (nJ (by omega) (by omega) h298) (by omega)
          ·
            exact absurd (nJ (by omega) (by omega) h193) (by omega)
        ·
          exact absurd (nJ (by omega) (by omega) h167) (by omega)
      ·
        exact absurd ((nI_leI (a := 13) (b := s) (by omega) (by omega)).mpr (by omega)) h79
    ·
      exact absurd ((nI_leI (a := 10) (b := s) (by omega) (by omega)).mpr (by omega)) h41
  have X0 := X_n (c := 0) (s := 0) XK (Nat.zero_le _) (Nat.zero_le _)
  refine sw_bipush X0 (nI 32) dL_act_0 (by decide) ?_
  refine sw_new1 XK hg (by rw [hkc]; omega) (by rw [hks]; omega) dL_act_2 (fun x => ?_)
  have X1 : sv_X (g1 G x) (sv_Kn K (0 + 1) (0 + 32)) cL_act RL 10 8 := X_n (X_g1 XK) (by rw [hkc]; omega) (by rw [hks]; omega)
  refine sw_astore_4 X1 dL_act_4 trivial ?_
  refine sw_bipush X1 (nI 48) dL_act_6 (by decide) ?_
  refine sw_new2 (X_g1 XK) rfl (by rw [hkc]; omega) (by rw [hks]; omega) dL_act_8 (fun y => ?_)
  exact sw_widen (by rw [hkc]; omega) (by rw [hks]; omega) (main x y)
set_option maxHeartbeats 4000000 in
set_option maxRecDepth 100000 in
theorem c_L_act_bn {G : sv_G} {M : sv_Mem} (hg : gn G = 1) {cs : Nat → Nat} (hcs : csOk (M 0) cs 13) (hkv : M 9 4 0 0 = M 0 10 0 0) {q s : Nat} {v w : Int32} (hq : q < 3) (hqa : lowN (sh5 v) 3 = q) (hsa : lowN v 20 = s) {M2 : sv_Mem} (h17 : 17 ≤ s) (hz : cs q ≠ 0) (cB : (∀ G : sv_G, sv_Ct G M_X3_begin 4 [.ref (sv_ad G 0 8 0), .int (nI q)] (acM M cs) (some (.int (-4))) M2)) (h2c : M2 0 14 q 0 = nI (cs q)) (hV : ∀ k, k < 16 → M2 0 11 0 k = M2 9 5 0 k) (hM3 : ∀ r, r < 48 → r / 16 ≠ 3 → md (M2 0 14 (r / 16) 1) (r % 16) = M2 9 6 0 r) : sv_CtA G M_L_act 8 [.ref (sv_ad G 0 8 0), .int v, .int w, .ref (sv_ad G 4 9 0)] M (some (.int (nI 1))) (M2) 3 96 := by
  have hs20 : s < 20 := by rw [← hsa]; exact lowN_lt v (by decide)
  refine sv_CtA_of (lo := [some (.ref (sv_ad G 0 8 0)), some (.int v), some (.int w), some (.ref (sv_ad G 4 9 0)), none, none, none, none, none, none]) (pn_L) rfl (Nat.le_of_ble_eq_true rfl) rfl (fun K XK YK hkc hks => ?_)
  replace XK : sv_X G K cL_act RL 10 8 := XK
  replace YK : sv_Y G K (some .boolean) _ _ := YK
  show sw_W G (sv_Kn K 0 0) 10 0 _ _ _
  have main : ∀ x y, sw_W (g2 (g1 G x) y) K 10 10 [some (.ref (sv_ad G 0 8 0)), some (.int v), some (.int w), some (.ref (sv_ad G 4 9 0)), some (.ref (sv_ad (g1 G x) 5 9 0)), none, none, none, none, none] [.ref (sv_ad (g2 (g1 G x) y) 6 9 0)] (sv_upA (sv_upA M 9 5 0 (fun _ => 0)) 9 6 0 (fun _ => 0)) := by
    intro x y
    obtain ⟨G2, hG2⟩ : ∃ G2, G2 = g2 (g1 G x) y := ⟨_, rfl⟩
    have e0 : sv_ad G 0 8 0 = sv_ad G2 0 8 0 := by rw [hG2]; rfl
    have e4 : sv_ad G 4 9 0 = sv_ad G2 4 9 0 := by rw [hG2]; rfl
    have e5 : sv_ad (g1 G x) 5 9 0 = sv_ad G2 5 9 0 := by rw [hG2]; rfl
    have hg3 : gn G2 = 3 := by rw [hG2]; rfl
    have XG : sv_X G2 K cL_act RL 10 8 := by rw [hG2]; exact X_g2 (X_g1 XK)
    have X := XG
    have bk : ∀ pc lo rest N, sw_W G K 10 pc lo rest N → sw_W G2 K 10 pc lo rest N := fun pc lo rest N w => by rw [hG2]; exact sw_back2 rfl (sw_back1 hg w)
    rw [← hG2, e0, e4, e5]
    refine sw_astore_5 X dL_act_10 trivial ?_
    refine sw_iload_1 X dL_act_12 ?_
    refine sw_iconst X (nI 5) dL_act_13 (by decide) ?_
    refine sw_ishr X dL_act_14 ?_
    refine sw_iconst X (nI 3) dL_act_15 (by decide) ?_
    refine ca_L_46 X (by decide) dL_act_16 (Nat.le_of_ble_eq_true rfl) (c_L_low (n := 3) (by decide) (by decide)) ?_
    refine sw_tope (v2 := nI q) (congrArg nI hqa) ?_
    refine sw_istore_6 X dL_act_19 trivial ?_
    refine sw_iload_1 X dL_act_21 ?_
    refine sw_bipush X (nI 20) dL_act_22 (by decide) ?_
    refine ca_L_46 X (by decide) dL_act_24 (Nat.le_of_ble_eq_true rfl) (c_L_low (n := 20) (by decide) (by decide)) ?_
    refine sw_tope (v2 := nI s) (congrArg nI hsa) ?_
    refine sw_istore_7 X dL_act_27 trivial ?_
    refine sw_aload_0 X dL_act_29 ?_
    refine sw_aload_4 X dL_act_30 ?_
    refine sw_aload_5 X dL_act_32 ?_
    refine ca_L_99 X (by decide) dL_act_34 (Nat.le_of_ble_eq_true rfl) (c_L_look (M := (sv_upA (sv_upA M 9 5 0 (fun _ => 0)) 9 6 0 (fun _ => 0))) (by omega) (cs := cs) hcs) ?_
    refine sw_mem (M2 := acM M cs) rfl ?_
    refine sw_iload_7 X dL_act_37 ?_
    refine sw_bipush X (nI 10) dL_act_39 (by decide) ?_
    refine sw_icmp_ge X 75 dL_act_41 (by decide) (fun h41 => ?_) (fun h41 => ?_)
    ·
      refine sw_iload_7 X dL_act_75 ?_
      refine sw_bipush X (nI 13) dL_act_77 (by decide) ?_
      refine sw_icmp_ge X 163 dL_act_79 (by decide) (fun h79 => ?_) (fun h79 => ?_)
      ·
        refine sw_iload_7 X dL_act_163 ?_
        refine sw_bipush X (nI 13) dL_act_165 (by decide) ?_
        refine sw_icmp_ne X 189 dL_act_167 (by decide) (fun h167 => ?_) (fun h167 => ?_)
        ·
          refine sw_iload_7 X dL_act_189 ?_
          refine sw_bipush X (nI 14) dL_act_191 (by decide) ?_
          refine sw_icmp_ne X 294 dL_act_193 (by decide) (fun h193 => ?_) (fun h193 => ?_)
          ·
            refine sw_iload_7 X dL_act_294 ?_
            refine sw_bipush X (nI 15) dL_act_296 (by decide) ?_
            refine sw_icmp_ne X 350 dL_act_298 (by decide) (fun h298 => ?_) (fun h298 => ?_)
            ·
              refine sw_iload_7 X dL_act_350 ?_
              refine sw_bipush X (nI 16) dL_act_352 (by decide) ?_
              refine sw_icmp_ne X 381 dL_act_354 (by decide) (fun h354 => ?_) (fun h354 => ?_)
              ·
                refine sw_aload_0 X dL_act_381 ?_
                refine sw_iconst X (nI 0) dL_act_382 (by decide) ?_
                refine sw_iconst X (nI 0) dL_act_383 (by decide) ?_
                refine ca_L_23 X (by decide) dL_act_384 (Nat.le_of_ble_eq_true rfl) (c_X3_session_0 (M := acM M cs) (q := 0) (c := cs 0) (by decide) (hcs 0 (by decide)).1 (hcs 0 (by decide)).2) ?_
                refine sw_aload_0 X dL_act_387 ?_
                refine sw_iconst X (nI 1) dL_act_388 (by decide) ?_
                refine sw_iconst X (nI 0) dL_act_389 (by decide) ?_
                refine ca_L_23 X (by decide) dL_act_390 (Nat.le_of_ble_eq_true rfl) (c_X3_session_0 (M := acM M cs) (q := 1) (c := cs 1) (by decide) (hcs 1 (by decide)).1 (hcs 1 (by decide)).2) ?_
                refine sw_iadd X dL_act_393 ?_
                refine sw_aload_0 X dL_act_394 ?_
                refine sw_iconst X (nI 2) dL_act_395 (by decide) ?_
                refine sw_iconst X (nI 0) dL_act_396 (by decide) ?_
                refine ca_L_23 X (by decide) dL_act_397 (Nat.le_of_ble_eq_true rfl) (c_X3_session_0 (M := acM M cs) (q := 2) (c := cs 2) (by decide) (hcs 2 (by decide)).1 (hcs 2 (by decide)).2) ?_
                refine sw_iadd X dL_act_400 ?_
                refine sw_istore_8 X dL_act_401 trivial ?_
                refine sw_aload_0 X dL_act_403 ?_
                refine sw_iload_6 X dL_act_404 ?_
                refine sw_iconst X (nI 0) dL_act_406 (by decide) ?_
                refine ca_L_23 X (by decide) dL_act_407 (Nat.le_of_ble_eq_true rfl) (c_X3_session_0 (M := acM M cs) hq (hcs q hq).1 (hcs q hq).2) ?_
                refine sw_iconst X (nI 1) dL_act_410 (by decide) ?_
                refine sw_icmp_ne X 418 dL_act_411 (by decide) (fun h411 => ?_) (fun h411 => ?_)
                ·
                  exact absurd (bI_t hz) h411
                ·
                  refine sw_iconst X (nI 1) dL_act_414 (by decide) ?_
                  refine sw_goto X 419 dL_act_415 (by decide) ?_
                  refine sw_istore_9 X dL_act_419 trivial ?_
                  refine sw_aload_0 X dL_act_421 ?_
                  refine sw_iload_6 X dL_act_422 ?_
                  refine ca_L_122 X (by decide) dL_act_424 (Nat.le_of_ble_eq_true rfl) (cB G2) ?_
                  refine sw_iload_9 X dL_act_427 ?_
                  refine sw_if_eq X 437 dL_act_429 (by decide) (fun h429 => ?_) (fun h429 => ?_)
                  ·
                    exact absurd h429 (by decide)
                  ·
                    refine sw_bipush X (-4) dL_act_432 (by decide) ?_
                    refine sw_goto X 441 dL_act_434 (by decide) ?_
                    refine sw_icmp_ne X 478 dL_act_441 (by decide) (fun h441 => ?_) (fun h441 => ?_)
                    ·
                      exact absurd rfl h441
                    ·
                      refine sw_aload_0 X dL_act_444 ?_
                      refine sw_iload_6 X dL_act_445 ?_
                      refine sw_iconst X (nI 0) dL_act_447 (by decide) ?_
                      refine ca_L_23 X (by decide) dL_act_448 (Nat.le_of_ble_eq_true rfl) (c_X3_session_0 (M := M2) hq (c := cs q) h2c (hcs q hq).2) ?_
                      refine sw_iconst X (nI 1) dL_act_451 (by decide) ?_
                      refine sw_icmp_ne X 478 dL_act_452 (by decide) (fun h452 => ?_) (fun h452 => ?_)
                      ·
                        exact absurd (bI_t hz) h452
                      ·
                        refine sw_aload_0 X dL_act_455 ?_
                        refine sw_aload_4 X dL_act_456 ?_
                        refine ca_L_76 X (by decide) dL_act_458 (Nat.le_of_ble_eq_true rfl) (c_L_areValues (by omega) hV) ?_
                        refine sw_if_eq X 478 dL_act_461 (by decide) (fun h461 => ?_) (fun h461 => ?_)
                        ·
                          exact absurd h461 (by decide)
                        ·
                          refine sw_aload_0 X dL_act_464 ?_
                          refine sw_aload_5 X dL_act_465 ?_
                          refine sw_iconst X (nI 3) dL_act_467 (by decide) ?_
                          refine ca_L_80 X (by decide) dL_act_468 (Nat.le_of_ble_eq_true rfl) (c_L_otherModes (by omega) (bn := 3) hM3) ?_
                          refine sw_if_ne X 478 dL_act_471 (by decide) (fun h471 => ?_) (fun h471 => ?_)
                          ·
                            exact absurd rfl h471
                          ·
                            refine sw_iconst X (nI 1) dL_act_474 (by decide) ?_
                            refine sw_goto X 479 dL_act_475 (by decide) ?_
                            exact bk _ _ _ _ (sw_zret XK YK dL_act_479 (by first | rfl | exact sv_nzB) rfl rfl)
              ·
                exact absurd (nJ (by omega) (by omega) h354) (by omega)
            ·
              exact absurd (nJ (by omega) (by omega) h298) (by omega)
          ·
            exact absurd (nJ (by omega) (by omega) h193) (by omega)
        ·
          exact absurd (nJ (by omega) (by omega) h167) (by omega)
      ·
        exact absurd ((nI_leI (a := 13) (b := s) (by omega) (by omega)).mpr (by omega)) h79
    ·
      exact absurd ((nI_leI (a := 10) (b := s) (by omega) (by omega)).mpr (by omega)) h41
  have X0 := X_n (c := 0) (s := 0) XK (Nat.zero_le _) (Nat.zero_le _)
  refine sw_bipush X0 (nI 32) dL_act_0 (by decide) ?_
  refine sw_new1 XK hg (by rw [hkc]; omega) (by rw [hks]; omega) dL_act_2 (fun x => ?_)
  have X1 : sv_X (g1 G x) (sv_Kn K (0 + 1) (0 + 32)) cL_act RL 10 8 := X_n (X_g1 XK) (by rw [hkc]; omega) (by rw [hks]; omega)
  refine sw_astore_4 X1 dL_act_4 trivial ?_
  refine sw_bipush X1 (nI 48) dL_act_6 (by decide) ?_
  refine sw_new2 (X_g1 XK) rfl (by rw [hkc]; omega) (by rw [hks]; omega) dL_act_8 (fun y => ?_)
  exact sw_widen (by rw [hkc]; omega) (by rw [hks]; omega) (main x y)
