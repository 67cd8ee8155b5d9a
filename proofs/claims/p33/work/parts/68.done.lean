theorem in3 : ∀ a, a < 7 → inR (nI a - nI 3) (-9999) (nI 9999) := by decide +kernel
abbrev sh3 (v : Int32) : Int32 := v >>> (nI 3 &&& 31)
abbrev sh5 (v : Int32) : Int32 := v >>> (nI 5 &&& 31)

set_option maxHeartbeats 4000000 in
set_option maxRecDepth 100000 in
theorem c_L_doneBy_0 {G : sv_G} {M : sv_Mem} {q : Nat} {v r : Int32} {M2 : sv_Mem} (hOp : sv_Ct G M_X3_read 5 [.ref (sv_ad G 0 8 0), .int (nI q), .int (nI (lowN v 5))] M (some (.int r)) M2) : sv_Ct G M_L_doneBy 6 [.ref (sv_ad G 0 8 0), .int (nI 0), .int (nI q), .int v] M (some (.int r)) (M2) := by
  refine sv_Ct_of (lo := [some (.ref (sv_ad G 0 8 0)), some (.int (nI 0)), some (.int (nI q)), some (.int v), none]) (pn_L) rfl (Nat.le_of_ble_eq_true rfl) rfl (fun K X Y => ?_)
  replace X : sv_X G K cL_doneBy RL 5 6 := X
  replace Y : sv_Y G K (some .int) _ _ := Y
  show sw_W G K 5 0 _ _ _
  refine sw_iload_3 X dL_doneBy_0 ?_
  refine sw_iconst X (nI 5) dL_doneBy_1 (by decide) ?_
  refine ca_L_46 X (by decide) dL_doneBy_2 (Nat.le_of_ble_eq_true rfl) (c_L_low (n := 5) (by decide) (by decide)) ?_
  refine sw_istore_4 X dL_doneBy_5 trivial ?_
  refine sw_iload_1 X dL_doneBy_7 ?_
  refine sw_tabInV X 44 dL_doneBy_8 (q := 0) rfl (by decide) (by decide) ?_
  refine sw_aload_0 X dL_doneBy_44 ?_
  refine sw_iload_2 X dL_doneBy_45 ?_
  refine sw_iload_4 X dL_doneBy_46 ?_
  refine ca_L_49 X (by decide) dL_doneBy_48 (Nat.le_of_ble_eq_true rfl) hOp ?_
  exact sw_iret X Y dL_doneBy_51 (rfl) (rfl)
set_option maxHeartbeats 4000000 in
set_option maxRecDepth 100000 in
theorem c_L_doneBy_1 {G : sv_G} {M : sv_Mem} {q : Nat} {v r : Int32} {M2 : sv_Mem} (hOp : sv_Ct G M_X3_erase 5 [.ref (sv_ad G 0 8 0), .int (nI q), .int (nI (lowN v 5))] M (some (.int r)) M2) : sv_Ct G M_L_doneBy 6 [.ref (sv_ad G 0 8 0), .int (nI 1), .int (nI q), .int v] M (some (.int r)) (M2) := by
  refine sv_Ct_of (lo := [some (.ref (sv_ad G 0 8 0)), some (.int (nI 1)), some (.int (nI q)), some (.int v), none]) (pn_L) rfl (Nat.le_of_ble_eq_true rfl) rfl (fun K X Y => ?_)
  replace X : sv_X G K cL_doneBy RL 5 6 := X
  replace Y : sv_Y G K (some .int) _ _ := Y
  show sw_W G K 5 0 _ _ _
  refine sw_iload_3 X dL_doneBy_0 ?_
  refine sw_iconst X (nI 5) dL_doneBy_1 (by decide) ?_
  refine ca_L_46 X (by decide) dL_doneBy_2 (Nat.le_of_ble_eq_true rfl) (c_L_low (n := 5) (by decide) (by decide)) ?_
  refine sw_istore_4 X dL_doneBy_5 trivial ?_
  refine sw_iload_1 X dL_doneBy_7 ?_
  refine sw_tabInV X 52 dL_doneBy_8 (q := 1) rfl (by decide) (by decide) ?_
  refine sw_aload_0 X dL_doneBy_52 ?_
  refine sw_iload_2 X dL_doneBy_53 ?_
  refine sw_iload_4 X dL_doneBy_54 ?_
  refine ca_L_52 X (by decide) dL_doneBy_56 (Nat.le_of_ble_eq_true rfl) hOp ?_
  exact sw_iret X Y dL_doneBy_59 (rfl) (rfl)
set_option maxHeartbeats 4000000 in
set_option maxRecDepth 100000 in
theorem c_L_doneBy_2 {G : sv_G} {M : sv_Mem} {q : Nat} {v r : Int32} {M2 : sv_Mem} (hOp : sv_Ct G M_X3_write 5 [.ref (sv_ad G 0 8 0), .int (nI q), .int (nI (lowN v 5)), .int (nI (lowN (sh3 v) 12))] M (some (.int r)) M2) : sv_Ct G M_L_doneBy 6 [.ref (sv_ad G 0 8 0), .int (nI 2), .int (nI q), .int v] M (some (.int r)) (M2) := by
  refine sv_Ct_of (lo := [some (.ref (sv_ad G 0 8 0)), some (.int (nI 2)), some (.int (nI q)), some (.int v), none]) (pn_L) rfl (Nat.le_of_ble_eq_true rfl) rfl (fun K X Y => ?_)
  replace X : sv_X G K cL_doneBy RL 5 6 := X
  replace Y : sv_Y G K (some .int) _ _ := Y
  show sw_W G K 5 0 _ _ _
  refine sw_iload_3 X dL_doneBy_0 ?_
  refine sw_iconst X (nI 5) dL_doneBy_1 (by decide) ?_
  refine ca_L_46 X (by decide) dL_doneBy_2 (Nat.le_of_ble_eq_true rfl) (c_L_low (n := 5) (by decide) (by decide)) ?_
  refine sw_istore_4 X dL_doneBy_5 trivial ?_
  refine sw_iload_1 X dL_doneBy_7 ?_
  refine sw_tabInV X 60 dL_doneBy_8 (q := 2) rfl (by decide) (by decide) ?_
  refine sw_aload_0 X dL_doneBy_60 ?_
  refine sw_iload_2 X dL_doneBy_61 ?_
  refine sw_iload_4 X dL_doneBy_62 ?_
  refine sw_iload_3 X dL_doneBy_64 ?_
  refine sw_iconst X (nI 3) dL_doneBy_65 (by decide) ?_
  refine sw_ishr X dL_doneBy_66 ?_
  refine sw_bipush X (nI 12) dL_doneBy_67 (by decide) ?_
  refine ca_L_46 X (by decide) dL_doneBy_69 (Nat.le_of_ble_eq_true rfl) (c_L_low (n := 12) (by decide) (by decide)) ?_
  refine ca_L_55 X (by decide) dL_doneBy_72 (Nat.le_of_ble_eq_true rfl) hOp ?_
  exact sw_iret X Y dL_doneBy_75 (rfl) (rfl)
set_option maxHeartbeats 4000000 in
set_option maxRecDepth 100000 in
theorem c_L_doneBy_3 {G : sv_G} {M : sv_Mem} {q : Nat} {v r : Int32} {M2 : sv_Mem} (hOp : sv_Ct G M_X3_write 5 [.ref (sv_ad G 0 8 0), .int (nI q), .int (nI (lowN v 5)), .int (nI (lowN (sh3 v) 12))] M (some (.int r)) M2) : sv_Ct G M_L_doneBy 6 [.ref (sv_ad G 0 8 0), .int (nI 3), .int (nI q), .int v] M (some (.int r)) (M2) := by
  refine sv_Ct_of (lo := [some (.ref (sv_ad G 0 8 0)), some (.int (nI 3)), some (.int (nI q)), some (.int v), none]) (pn_L) rfl (Nat.le_of_ble_eq_true rfl) rfl (fun K X Y => ?_)
  replace X : sv_X G K cL_doneBy RL 5 6 := X
  replace Y : sv_Y G K (some .int) _ _ := Y
  show sw_W G K 5 0 _ _ _
  refine sw_iload_3 X dL_doneBy_0 ?_
  refine sw_iconst X (nI 5) dL_doneBy_1 (by decide) ?_
  refine ca_L_46 X (by decide) dL_doneBy_2 (Nat.le_of_ble_eq_true rfl) (c_L_low (n := 5) (by decide) (by decide)) ?_
  refine sw_istore_4 X dL_doneBy_5 trivial ?_
  refine sw_iload_1 X dL_doneBy_7 ?_
  refine sw_tabInV X 60 dL_doneBy_8 (q := 3) rfl (by decide) (by decide) ?_
  refine sw_aload_0 X dL_doneBy_60 ?_
  refine sw_iload_2 X dL_doneBy_61 ?_
  refine sw_iload_4 X dL_doneBy_62 ?_
  refine sw_iload_3 X dL_doneBy_64 ?_
  refine sw_iconst X (nI 3) dL_doneBy_65 (by decide) ?_
  refine sw_ishr X dL_doneBy_66 ?_
  refine sw_bipush X (nI 12) dL_doneBy_67 (by decide) ?_
  refine ca_L_46 X (by decide) dL_doneBy_69 (Nat.le_of_ble_eq_true rfl) (c_L_low (n := 12) (by decide) (by decide)) ?_
  refine ca_L_55 X (by decide) dL_doneBy_72 (Nat.le_of_ble_eq_true rfl) hOp ?_
  exact sw_iret X Y dL_doneBy_75 (rfl) (rfl)
set_option maxHeartbeats 4000000 in
set_option maxRecDepth 100000 in
theorem c_L_doneBy_4 {G : sv_G} {M : sv_Mem} {q : Nat} {v r : Int32} {M2 : sv_Mem} (hOp : sv_Ct G M_X3_shift 5 [.ref (sv_ad G 0 8 0), .int (nI q), .int (nI (1 + lowN v 31)), .int (nI (lowN (sh5 v) 7) - nI 3)] M (some (.int r)) M2) : sv_Ct G M_L_doneBy 6 [.ref (sv_ad G 0 8 0), .int (nI 4), .int (nI q), .int v] M (some (.int r)) (M2) := by
  refine sv_Ct_of (lo := [some (.ref (sv_ad G 0 8 0)), some (.int (nI 4)), some (.int (nI q)), some (.int v), none]) (pn_L) rfl (Nat.le_of_ble_eq_true rfl) rfl (fun K X Y => ?_)
  replace X : sv_X G K cL_doneBy RL 5 6 := X
  replace Y : sv_Y G K (some .int) _ _ := Y
  show sw_W G K 5 0 _ _ _
  refine sw_iload_3 X dL_doneBy_0 ?_
  refine sw_iconst X (nI 5) dL_doneBy_1 (by decide) ?_
  refine ca_L_46 X (by decide) dL_doneBy_2 (Nat.le_of_ble_eq_true rfl) (c_L_low (n := 5) (by decide) (by decide)) ?_
  refine sw_istore_4 X dL_doneBy_5 trivial ?_
  refine sw_iload_1 X dL_doneBy_7 ?_
  refine sw_tabInV X 76 dL_doneBy_8 (q := 4) rfl (by decide) (by decide) ?_
  refine sw_aload_0 X dL_doneBy_76 ?_
  refine sw_iload_2 X dL_doneBy_77 ?_
  refine sw_iconst X (nI 1) dL_doneBy_78 (by decide) ?_
  refine sw_iload_3 X dL_doneBy_79 ?_
  refine sw_bipush X (nI 31) dL_doneBy_80 (by decide) ?_
  refine ca_L_46 X (by decide) dL_doneBy_82 (Nat.le_of_ble_eq_true rfl) (c_L_low (n := 31) (by decide) (by decide)) ?_
  refine sw_iadd X dL_doneBy_85 ?_
  try refine sw_tope (nI_add _ _) ?_
  refine sw_iload_3 X dL_doneBy_86 ?_
  refine sw_iconst X (nI 5) dL_doneBy_87 (by decide) ?_
  refine sw_ishr X dL_doneBy_88 ?_
  refine sw_bipush X (nI 7) dL_doneBy_89 (by decide) ?_
  refine ca_L_46 X (by decide) dL_doneBy_91 (Nat.le_of_ble_eq_true rfl) (c_L_low (n := 7) (by decide) (by decide)) ?_
  refine sw_iconst X (nI 3) dL_doneBy_94 (by decide) ?_
  refine sw_isub X dL_doneBy_95 ?_
  refine ca_L_59 X (by decide) dL_doneBy_96 (Nat.le_of_ble_eq_true rfl) hOp ?_
  exact sw_iret X Y dL_doneBy_99 (rfl) (rfl)
set_option maxHeartbeats 4000000 in
set_option maxRecDepth 100000 in
theorem c_L_doneBy_5 {G : sv_G} {M : sv_Mem} {q : Nat} {v r : Int32} {M2 : sv_Mem} (hOp : sv_Ct G M_X3_move 5 [.ref (sv_ad G 0 8 0), .int (nI q), .int (nI (lowN v 5)), .int (nI ((lowN v 5 + 1 + lowN (sh3 v) 4) % 5)), .int (nI (1 + lowN (sh5 v) 5))] M (some (.int r)) M2) : sv_Ct G M_L_doneBy 6 [.ref (sv_ad G 0 8 0), .int (nI 5), .int (nI q), .int v] M (some (.int r)) (M2) := by
  have h5 := lowN_lt v (n := 5) (by decide)
  have h4 := lowN_lt (v >>> (nI 3 &&& 31)) (n := 4) (by decide)
  refine sv_Ct_of (lo := [some (.ref (sv_ad G 0 8 0)), some (.int (nI 5)), some (.int (nI q)), some (.int v), none]) (pn_L) rfl (Nat.le_of_ble_eq_true rfl) rfl (fun K X Y => ?_)
  replace X : sv_X G K cL_doneBy RL 5 6 := X
  replace Y : sv_Y G K (some .int) _ _ := Y
  show sw_W G K 5 0 _ _ _
  refine sw_iload_3 X dL_doneBy_0 ?_
  refine sw_iconst X (nI 5) dL_doneBy_1 (by decide) ?_
  refine ca_L_46 X (by decide) dL_doneBy_2 (Nat.le_of_ble_eq_true rfl) (c_L_low (n := 5) (by decide) (by decide)) ?_
  refine sw_istore_4 X dL_doneBy_5 trivial ?_
  refine sw_iload_1 X dL_doneBy_7 ?_
  refine sw_tabOut X 100 dL_doneBy_8 (Or.inr (by decide)) (by decide) ?_
  refine sw_aload_0 X dL_doneBy_100 ?_
  refine sw_iload_2 X dL_doneBy_101 ?_
  refine sw_iload_4 X dL_doneBy_102 ?_
  refine sw_iload_4 X dL_doneBy_104 ?_
  refine sw_iconst X (nI 1) dL_doneBy_106 (by decide) ?_
  refine sw_iadd X dL_doneBy_107 ?_
  try refine sw_tope (nI_add _ _) ?_
  refine sw_iload_3 X dL_doneBy_108 ?_
  refine sw_iconst X (nI 3) dL_doneBy_109 (by decide) ?_
  refine sw_ishr X dL_doneBy_110 ?_
  refine sw_iconst X (nI 4) dL_doneBy_111 (by decide) ?_
  refine ca_L_46 X (by decide) dL_doneBy_112 (Nat.le_of_ble_eq_true rfl) (c_L_low (n := 4) (by decide) (by decide)) ?_
  refine sw_iadd X dL_doneBy_115 ?_
  try refine sw_tope (nI_add _ _) ?_
  refine sw_iconst X (nI 5) dL_doneBy_116 (by decide) ?_
  refine sw_irem X (by decide) dL_doneBy_117 ?_
  refine sw_tope (v2 := nI ((lowN v 5 + 1 + lowN (sh3 v) 4) % 5)) (pk_rem (by omega) (by omega) (by omega)) ?_
  refine sw_iconst X (nI 1) dL_doneBy_118 (by decide) ?_
  refine sw_iload_3 X dL_doneBy_119 ?_
  refine sw_iconst X (nI 5) dL_doneBy_120 (by decide) ?_
  refine sw_ishr X dL_doneBy_121 ?_
  refine sw_iconst X (nI 5) dL_doneBy_122 (by decide) ?_
  refine ca_L_46 X (by decide) dL_doneBy_123 (Nat.le_of_ble_eq_true rfl) (c_L_low (n := 5) (by decide) (by decide)) ?_
  refine sw_iadd X dL_doneBy_126 ?_
  try refine sw_tope (nI_add _ _) ?_
  refine ca_L_62 X (by decide) dL_doneBy_127 (Nat.le_of_ble_eq_true rfl) hOp ?_
  exact sw_iret X Y dL_doneBy_130 (rfl) (rfl)
theorem doneBy_all {M : sv_Mem} {cs : Nat → Nat} (hI : SI (M 0) cs) (hm : HM M) {q s : Nat} (hq : q < 3) (hs : s < 6) (v : Int32) : ∃ (r : Int32) (M2 : sv_Mem), (∀ G : sv_G, sv_Ct G M_L_doneBy 6 [.ref (sv_ad G 0 8 0), .int (nI s), .int (nI q), .int v] M (some (.int r)) M2) ∧ DB (M 0) (M2 0) cs q s (lowN v 5) (if s = 1 then -5 else nI (lowN (sh3 v) 12)) r ∧ M2 9 = M 9 ∧ HM M2 := by
  have h5 := lowN_lt v (n := 5) (by decide)
  have h12 := lowN_lt (sh3 v) (n := 12) (by decide)
  have h31 := lowN_lt v (n := 31) (by decide)
  have h7 := lowN_lt (sh5 v) (n := 7) (by decide)
  have h4 := lowN_lt (sh3 v) (n := 4) (by decide)
  have h55 := lowN_lt (sh5 v) (n := 5) (by decide)
  have hc : s = 0 ∨ s = 1 ∨ s = 2 ∨ s = 3 ∨ s = 4 ∨ s = 5 := by omega
  rcases hc with rfl | rfl | rfl | rfl | rfl | rfl
  · obtain ⟨r, D, ⟨M2, c, e0, e9, e8⟩, hD⟩ := ac_read hI hm hq (k := lowN v 5) (by omega) (if (0 : Nat) = 1 then -5 else nI (lowN (sh3 v) 12))
    exact ⟨r, M2, fun G => c_L_doneBy_0 (c G), e0 ▸ hD, e9, e8⟩
  · obtain ⟨r, D, ⟨M2, c, e0, e9, e8⟩, hD⟩ := ac_erase hI hm hq (k := lowN v 5) (by omega)
    exact ⟨r, M2, fun G => c_L_doneBy_1 (c G), e0 ▸ hD, e9, e8⟩
  · obtain ⟨r, D, ⟨M2, c, e0, e9, e8⟩, hD⟩ := ac_write hI hm hq (k := lowN v 5) (u := lowN (sh3 v) 12) (sort := 2) (by omega) (by omega) (by omega) (by omega)
    exact ⟨r, M2, fun G => c_L_doneBy_2 (c G), e0 ▸ hD, e9, e8⟩
  · obtain ⟨r, D, ⟨M2, c, e0, e9, e8⟩, hD⟩ := ac_write hI hm hq (k := lowN v 5) (u := lowN (sh3 v) 12) (sort := 3) (by omega) (by omega) (by omega) (by omega)
    exact ⟨r, M2, fun G => c_L_doneBy_3 (c G), e0 ▸ hD, e9, e8⟩
  · obtain ⟨r, D, ⟨M2, c, e0, e9, e8⟩, hD⟩ := ac_shift hI hm hq (kn := 1 + lowN v 31) (d := nI (lowN (sh5 v) 7) - nI 3) (sort := 4) (key := lowN v 5) (nv := if (4 : Nat) = 1 then -5 else nI (lowN (sh3 v) 12)) (by omega) (by omega) (in3 _ h7) (by omega)
    exact ⟨r, M2, fun G => c_L_doneBy_4 (c G), e0 ▸ hD, e9, e8⟩
  · obtain ⟨r, D, ⟨M2, c, e0, e9, e8⟩, hD⟩ := ac_move hI hm hq (ka := lowN v 5) (kb := (lowN v 5 + 1 + lowN (sh3 v) 4) % 5) (am := 1 + lowN (sh5 v) 5) (sort := 5) (key := lowN v 5) (nv := if (5 : Nat) = 1 then -5 else nI (lowN (sh3 v) 12)) (by omega) (by omega) (by omega) (by omega) (by omega) (by omega)
    exact ⟨r, M2, fun G => c_L_doneBy_5 (c G), e0 ▸ hD, e9, e8⟩
