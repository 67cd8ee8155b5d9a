theorem TX_w {M : sv_Mem} {x : Nat → Int32} {n p : Nat} (T : TX M x n p) (L : Int32) (hb : p ≤ 80) : TX (mF (mF (mF (mF M 9 (x p - nI 48)) 8 (nI (p + 1))) 10 L) 8 (nI (p + 2))) x n (p + 2) := TX_8 (TX_o (TX_8 (TX_o T (by omega) (by omega)) (by omega)) (by omega) (by omega)) (by omega)
set_option maxHeartbeats 4000000 in
set_option maxRecDepth 100000 in
theorem c_X4_readOrder_98 {G : sv_G} {M : sv_Mem} {x : Nat → Int32} {n p : Nat} (T : TX M x n p) (h1 : nx x n p (nI 48) (nI 50)) (h2 : p + 1 < n) (hL : x (p + 1) = nI 98)  : sv_Ct G M_X4_readOrder 4 [.ref (sv_ad G 4 9 0)] M (some (.int (bI True))) (mF (mF (mF (mF M 9 (x p - nI 48)) 8 (nI (p + 1))) 10 (nI 98)) 8 (nI (p + 2))) := by
  obtain ⟨hx, hl, hn, hp, hpb⟩ := id T
  refine sv_Ct_of (lo := [some (.ref (sv_ad G 4 9 0))]) (pn_X4) rfl (Nat.le_of_ble_eq_true rfl) rfl (fun K X Y => ?_)
  replace X : sv_X G K cX4_readOrder RX4 1 4 := X
  replace Y : sv_Y G K (some .boolean) _ _ := Y
  show sw_W G K 1 0 _ _ _
  refine sw_aload_0 X dX4_readOrder_0 ?_
  refine sw_bipush X (nI 48) dX4_readOrder_1 (by decide) ?_
  refine sw_bipush X (nI 50) dX4_readOrder_3 (by decide) ?_
  refine ca_X4_170 X (by decide) dX4_readOrder_5 (Nat.le_of_ble_eq_true rfl) (c_X4_isNext T) ?_
  refine sw_ifB_ne X 13 dX4_readOrder_8 (by decide) (fun h8 => ?_) (fun h8 => ?_)
  ·
    refine sw_aload_0 X dX4_readOrder_13 ?_
    refine sw_aload_0 X dX4_readOrder_14 ?_
    refine gf_X4_19 X dX4_readOrder_15 ?_
    refine sw_aload_0 X dX4_readOrder_18 ?_
    refine gf_X4_167 X dX4_readOrder_19 ?_
    refine sw_tope hp ?_
    refine ia_8 X rfl (by have := h1.1; omega) dX4_readOrder_22 ?_
    refine sw_tope (v2 := x p) (by rw [hx]) ?_
    refine sw_bipush X (nI 48) dX4_readOrder_23 (by decide) ?_
    refine sw_isub X dX4_readOrder_25 ?_
    refine pf_X4_179 X dX4_readOrder_26 ?_
    refine sw_aload_0 X dX4_readOrder_29 ?_
    refine sw_dup X dX4_readOrder_30 rfl ?_
    refine gf_X4_167 X dX4_readOrder_31 ?_
    refine sw_tope (v2 := nI p) (by rw [up4, mF_f, va_up_ne _ _ (by omega)]; exact hp) ?_
    refine sw_iconst X (nI 1) dX4_readOrder_34 (by decide) ?_
    refine sw_iadd X dX4_readOrder_35 ?_
    try refine sw_tope (nI_add _ _) ?_
    refine pf_X4_167 X dX4_readOrder_36 ?_
    refine sw_aload_0 X dX4_readOrder_39 ?_
    refine sw_aload_0 X dX4_readOrder_40 ?_
    refine gf_X4_167 X dX4_readOrder_41 ?_
    refine sw_tope (v2 := nI (p + 1)) (by rw [up4, mF_f, va_up_self]) ?_
    refine sw_aload_0 X dX4_readOrder_44 ?_
    refine gf_X4_164 X dX4_readOrder_45 ?_
    refine sw_tope (v2 := nI n) (by simp only [up4, mF_f]; rw [va_up_ne _ _ (by omega), va_up_ne _ _ (by omega)]; exact hl) ?_
    refine sw_icmp_ge X 63 dX4_readOrder_48 (by decide) (fun h48 => ?_) (fun h48 => ?_)
    ·
      exact absurd ((nI_leI (by omega) (by omega)).mp h48) (by omega)
    ·
      refine sw_aload_0 X dX4_readOrder_51 ?_
      refine gf_X4_19 X dX4_readOrder_52 ?_
      refine sw_aload_0 X dX4_readOrder_55 ?_
      refine gf_X4_167 X dX4_readOrder_56 ?_
      refine sw_tope (v2 := nI (p + 1)) (by rw [up4, mF_f, va_up_self]) ?_
      refine ia_8 X rfl (by omega) dX4_readOrder_59 ?_
      refine sw_tope (v2 := nI 98) (by simp only [up4, mF_t]; exact (congrFun hx _).trans hL) ?_
      refine sw_goto X 64 dX4_readOrder_60 (by decide) ?_
      refine pf_X4_182 X dX4_readOrder_64 ?_
      refine sw_aload_0 X dX4_readOrder_67 ?_
      refine sw_dup X dX4_readOrder_68 rfl ?_
      refine gf_X4_167 X dX4_readOrder_69 ?_
      refine sw_tope (v2 := nI (p + 1)) (by rw [up4, mF_f, va_up_ne _ _ (by omega), up4, mF_f, va_up_self]) ?_
      refine sw_iconst X (nI 1) dX4_readOrder_72 (by decide) ?_
      refine sw_iadd X dX4_readOrder_73 ?_
      try refine sw_tope (nI_add _ _) ?_
      refine pf_X4_167 X dX4_readOrder_74 ?_
      refine sw_aload_0 X dX4_readOrder_77 ?_
      refine gf_X4_182 X dX4_readOrder_78 ?_
      refine sw_tope (v2 := nI 98) (by simp only [up4, mF_f]; rw [va_up_ne _ _ (by omega), va_up_self]) ?_
      refine sw_tabInV X 184 dX4_readOrder_81 (q := 0) rfl (by decide) (by decide) ?_
      refine sw_iconst X (nI 1) dX4_readOrder_184 (by decide) ?_
      exact sw_zret X Y dX4_readOrder_185 (rfl) (rfl) (rfl)
  ·
    exact absurd h1 h8
set_option maxHeartbeats 4000000 in
set_option maxRecDepth 100000 in
theorem c_X4_readOrder_99 {G : sv_G} {M : sv_Mem} {x : Nat → Int32} {n p : Nat} (T : TX M x n p) (h1 : nx x n p (nI 48) (nI 50)) (h2 : p + 1 < n) (hL : x (p + 1) = nI 99)  : sv_Ct G M_X4_readOrder 4 [.ref (sv_ad G 4 9 0)] M (some (.int (bI True))) (mF (mF (mF (mF M 9 (x p - nI 48)) 8 (nI (p + 1))) 10 (nI 99)) 8 (nI (p + 2))) := by
  obtain ⟨hx, hl, hn, hp, hpb⟩ := id T
  refine sv_Ct_of (lo := [some (.ref (sv_ad G 4 9 0))]) (pn_X4) rfl (Nat.le_of_ble_eq_true rfl) rfl (fun K X Y => ?_)
  replace X : sv_X G K cX4_readOrder RX4 1 4 := X
  replace Y : sv_Y G K (some .boolean) _ _ := Y
  show sw_W G K 1 0 _ _ _
  refine sw_aload_0 X dX4_readOrder_0 ?_
  refine sw_bipush X (nI 48) dX4_readOrder_1 (by decide) ?_
  refine sw_bipush X (nI 50) dX4_readOrder_3 (by decide) ?_
  refine ca_X4_170 X (by decide) dX4_readOrder_5 (Nat.le_of_ble_eq_true rfl) (c_X4_isNext T) ?_
  refine sw_ifB_ne X 13 dX4_readOrder_8 (by decide) (fun h8 => ?_) (fun h8 => ?_)
  ·
    refine sw_aload_0 X dX4_readOrder_13 ?_
    refine sw_aload_0 X dX4_readOrder_14 ?_
    refine gf_X4_19 X dX4_readOrder_15 ?_
    refine sw_aload_0 X dX4_readOrder_18 ?_
    refine gf_X4_167 X dX4_readOrder_19 ?_
    refine sw_tope hp ?_
    refine ia_8 X rfl (by have := h1.1; omega) dX4_readOrder_22 ?_
    refine sw_tope (v2 := x p) (by rw [hx]) ?_
    refine sw_bipush X (nI 48) dX4_readOrder_23 (by decide) ?_
    refine sw_isub X dX4_readOrder_25 ?_
    refine pf_X4_179 X dX4_readOrder_26 ?_
    refine sw_aload_0 X dX4_readOrder_29 ?_
    refine sw_dup X dX4_readOrder_30 rfl ?_
    refine gf_X4_167 X dX4_readOrder_31 ?_
    refine sw_tope (v2 := nI p) (by rw [up4, mF_f, va_up_ne _ _ (by omega)]; exact hp) ?_
    refine sw_iconst X (nI 1) dX4_readOrder_34 (by decide) ?_
    refine sw_iadd X dX4_readOrder_35 ?_
    try refine sw_tope (nI_add _ _) ?_
    refine pf_X4_167 X dX4_readOrder_36 ?_
    refine sw_aload_0 X dX4_readOrder_39 ?_
    refine sw_aload_0 X dX4_readOrder_40 ?_
    refine gf_X4_167 X dX4_readOrder_41 ?_
    refine sw_tope (v2 := nI (p + 1)) (by rw [up4, mF_f, va_up_self]) ?_
    refine sw_aload_0 X dX4_readOrder_44 ?_
    refine gf_X4_164 X dX4_readOrder_45 ?_
    refine sw_tope (v2 := nI n) (by simp only [up4, mF_f]; rw [va_up_ne _ _ (by omega), va_up_ne _ _ (by omega)]; exact hl) ?_
    refine sw_icmp_ge X 63 dX4_readOrder_48 (by decide) (fun h48 => ?_) (fun h48 => ?_)
    ·
      exact absurd ((nI_leI (by omega) (by omega)).mp h48) (by omega)
    ·
      refine sw_aload_0 X dX4_readOrder_51 ?_
      refine gf_X4_19 X dX4_readOrder_52 ?_
      refine sw_aload_0 X dX4_readOrder_55 ?_
      refine gf_X4_167 X dX4_readOrder_56 ?_
      refine sw_tope (v2 := nI (p + 1)) (by rw [up4, mF_f, va_up_self]) ?_
      refine ia_8 X rfl (by omega) dX4_readOrder_59 ?_
      refine sw_tope (v2 := nI 99) (by simp only [up4, mF_t]; exact (congrFun hx _).trans hL) ?_
      refine sw_goto X 64 dX4_readOrder_60 (by decide) ?_
      refine pf_X4_182 X dX4_readOrder_64 ?_
      refine sw_aload_0 X dX4_readOrder_67 ?_
      refine sw_dup X dX4_readOrder_68 rfl ?_
      refine gf_X4_167 X dX4_readOrder_69 ?_
      refine sw_tope (v2 := nI (p + 1)) (by rw [up4, mF_f, va_up_ne _ _ (by omega), up4, mF_f, va_up_self]) ?_
      refine sw_iconst X (nI 1) dX4_readOrder_72 (by decide) ?_
      refine sw_iadd X dX4_readOrder_73 ?_
      try refine sw_tope (nI_add _ _) ?_
      refine pf_X4_167 X dX4_readOrder_74 ?_
      refine sw_aload_0 X dX4_readOrder_77 ?_
      refine gf_X4_182 X dX4_readOrder_78 ?_
      refine sw_tope (v2 := nI 99) (by simp only [up4, mF_f]; rw [va_up_ne _ _ (by omega), va_up_self]) ?_
      refine sw_tabInV X 184 dX4_readOrder_81 (q := 1) rfl (by decide) (by decide) ?_
      refine sw_iconst X (nI 1) dX4_readOrder_184 (by decide) ?_
      exact sw_zret X Y dX4_readOrder_185 (rfl) (rfl) (rfl)
  ·
    exact absurd h1 h8
set_option maxHeartbeats 4000000 in
set_option maxRecDepth 100000 in
theorem c_X4_readOrder_114 {G : sv_G} {M : sv_Mem} {x : Nat → Int32} {n p : Nat} (T : TX M x n p) (h1 : nx x n p (nI 48) (nI 50)) (h2 : p + 1 < n) (hL : x (p + 1) = nI 114)  : sv_Ct G M_X4_readOrder 4 [.ref (sv_ad G 4 9 0)] M (some (.int (bI True))) (mF (mF (mF (mF M 9 (x p - nI 48)) 8 (nI (p + 1))) 10 (nI 114)) 8 (nI (p + 2))) := by
  obtain ⟨hx, hl, hn, hp, hpb⟩ := id T
  refine sv_Ct_of (lo := [some (.ref (sv_ad G 4 9 0))]) (pn_X4) rfl (Nat.le_of_ble_eq_true rfl) rfl (fun K X Y => ?_)
  replace X : sv_X G K cX4_readOrder RX4 1 4 := X
  replace Y : sv_Y G K (some .boolean) _ _ := Y
  show sw_W G K 1 0 _ _ _
  refine sw_aload_0 X dX4_readOrder_0 ?_
  refine sw_bipush X (nI 48) dX4_readOrder_1 (by decide) ?_
  refine sw_bipush X (nI 50) dX4_readOrder_3 (by decide) ?_
  refine ca_X4_170 X (by decide) dX4_readOrder_5 (Nat.le_of_ble_eq_true rfl) (c_X4_isNext T) ?_
  refine sw_ifB_ne X 13 dX4_readOrder_8 (by decide) (fun h8 => ?_) (fun h8 => ?_)
  ·
    refine sw_aload_0 X dX4_readOrder_13 ?_
    refine sw_aload_0 X dX4_readOrder_14 ?_
    refine gf_X4_19 X dX4_readOrder_15 ?_
    refine sw_aload_0 X dX4_readOrder_18 ?_
    refine gf_X4_167 X dX4_readOrder_19 ?_
    refine sw_tope hp ?_
    refine ia_8 X rfl (by have := h1.1; omega) dX4_readOrder_22 ?_
    refine sw_tope (v2 := x p) (by rw [hx]) ?_
    refine sw_bipush X (nI 48) dX4_readOrder_23 (by decide) ?_
    refine sw_isub X dX4_readOrder_25 ?_
    refine pf_X4_179 X dX4_readOrder_26 ?_
    refine sw_aload_0 X dX4_readOrder_29 ?_
    refine sw_dup X dX4_readOrder_30 rfl ?_
    refine gf_X4_167 X dX4_readOrder_31 ?_
    refine sw_tope (v2 := nI p) (by rw [up4, mF_f, va_up_ne _ _ (by omega)]; exact hp) ?_
    refine sw_iconst X (nI 1) dX4_readOrder_34 (by decide) ?_
    refine sw_iadd X dX4_readOrder_35 ?_
    try refine sw_tope (nI_add _ _) ?_
    refine pf_X4_167 X dX4_readOrder_36 ?_
    refine sw_aload_0 X dX4_readOrder_39 ?_
    refine sw_aload_0 X dX4_readOrder_40 ?_
    refine gf_X4_167 X dX4_readOrder_41 ?_
    refine sw_tope (v2 := nI (p + 1)) (by rw [up4, mF_f, va_up_self]) ?_
    refine sw_aload_0 X dX4_readOrder_44 ?_
    refine gf_X4_164 X dX4_readOrder_45 ?_
    refine sw_tope (v2 := nI n) (by simp only [up4, mF_f]; rw [va_up_ne _ _ (by omega), va_up_ne _ _ (by omega)]; exact hl) ?_
    refine sw_icmp_ge X 63 dX4_readOrder_48 (by decide) (fun h48 => ?_) (fun h48 => ?_)
    ·
      exact absurd ((nI_leI (by omega) (by omega)).mp h48) (by omega)
    ·
      refine sw_aload_0 X dX4_readOrder_51 ?_
      refine gf_X4_19 X dX4_readOrder_52 ?_
      refine sw_aload_0 X dX4_readOrder_55 ?_
      refine gf_X4_167 X dX4_readOrder_56 ?_
      refine sw_tope (v2 := nI (p + 1)) (by rw [up4, mF_f, va_up_self]) ?_
      refine ia_8 X rfl (by omega) dX4_readOrder_59 ?_
      refine sw_tope (v2 := nI 114) (by simp only [up4, mF_t]; exact (congrFun hx _).trans hL) ?_
      refine sw_goto X 64 dX4_readOrder_60 (by decide) ?_
      refine pf_X4_182 X dX4_readOrder_64 ?_
      refine sw_aload_0 X dX4_readOrder_67 ?_
      refine sw_dup X dX4_readOrder_68 rfl ?_
      refine gf_X4_167 X dX4_readOrder_69 ?_
      refine sw_tope (v2 := nI (p + 1)) (by rw [up4, mF_f, va_up_ne _ _ (by omega), up4, mF_f, va_up_self]) ?_
      refine sw_iconst X (nI 1) dX4_readOrder_72 (by decide) ?_
      refine sw_iadd X dX4_readOrder_73 ?_
      try refine sw_tope (nI_add _ _) ?_
      refine pf_X4_167 X dX4_readOrder_74 ?_
      refine sw_aload_0 X dX4_readOrder_77 ?_
      refine gf_X4_182 X dX4_readOrder_78 ?_
      refine sw_tope (v2 := nI 114) (by simp only [up4, mF_f]; rw [va_up_ne _ _ (by omega), va_up_self]) ?_
      refine sw_tabInV X 184 dX4_readOrder_81 (q := 16) rfl (by decide) (by decide) ?_
      refine sw_iconst X (nI 1) dX4_readOrder_184 (by decide) ?_
      exact sw_zret X Y dX4_readOrder_185 (rfl) (rfl) (rfl)
  ·
    exact absurd h1 h8
set_option maxHeartbeats 4000000 in
set_option maxRecDepth 100000 in
theorem c_X4_readOrder_115_y {G : sv_G} {M : sv_Mem} {x : Nat → Int32} {n p : Nat} (T : TX M x n p) (h1 : nx x n p (nI 48) (nI 50)) (h2 : p + 1 < n) (hL : x (p + 1) = nI 115) (h3 : nx x n (p + 2) (nI 97) (nI 104)) : sv_Ct G M_X4_readOrder 4 [.ref (sv_ad G 4 9 0)] M (some (.int (bI True))) (mF (mF (mF (mF (mF (mF M 9 (x p - nI 48)) 8 (nI (p + 1))) 10 (nI 115)) 8 (nI (p + 2))) 11 (x (p + 2) - nI 97)) 8 (nI (p + 3))) := by
  obtain ⟨hx, hl, hn, hp, hpb⟩ := id T
  refine sv_Ct_of (lo := [some (.ref (sv_ad G 4 9 0))]) (pn_X4) rfl (Nat.le_of_ble_eq_true rfl) rfl (fun K X Y => ?_)
  replace X : sv_X G K cX4_readOrder RX4 1 4 := X
  replace Y : sv_Y G K (some .boolean) _ _ := Y
  show sw_W G K 1 0 _ _ _
  refine sw_aload_0 X dX4_readOrder_0 ?_
  refine sw_bipush X (nI 48) dX4_readOrder_1 (by decide) ?_
  refine sw_bipush X (nI 50) dX4_readOrder_3 (by decide) ?_
  refine ca_X4_170 X (by decide) dX4_readOrder_5 (Nat.le_of_ble_eq_true rfl) (c_X4_isNext T) ?_
  refine sw_ifB_ne X 13 dX4_readOrder_8 (by decide) (fun h8 => ?_) (fun h8 => ?_)
  ·
    refine sw_aload_0 X dX4_readOrder_13 ?_
    refine sw_aload_0 X dX4_readOrder_14 ?_
    refine gf_X4_19 X dX4_readOrder_15 ?_
    refine sw_aload_0 X dX4_readOrder_18 ?_
    refine gf_X4_167 X dX4_readOrder_19 ?_
    refine sw_tope hp ?_
    refine ia_8 X rfl (by have := h1.1; omega) dX4_readOrder_22 ?_
    refine sw_tope (v2 := x p) (by rw [hx]) ?_
    refine sw_bipush X (nI 48) dX4_readOrder_23 (by decide) ?_
    refine sw_isub X dX4_readOrder_25 ?_
    refine pf_X4_179 X dX4_readOrder_26 ?_
    refine sw_aload_0 X dX4_readOrder_29 ?_
    refine sw_dup X dX4_readOrder_30 rfl ?_
    refine gf_X4_167 X dX4_readOrder_31 ?_
    refine sw_tope (v2 := nI p) (by rw [up4, mF_f, va_up_ne _ _ (by omega)]; exact hp) ?_
    refine sw_iconst X (nI 1) dX4_readOrder_34 (by decide) ?_
    refine sw_iadd X dX4_readOrder_35 ?_
    try refine sw_tope (nI_add _ _) ?_
    refine pf_X4_167 X dX4_readOrder_36 ?_
    refine sw_aload_0 X dX4_readOrder_39 ?_
    refine sw_aload_0 X dX4_readOrder_40 ?_
    refine gf_X4_167 X dX4_readOrder_41 ?_
    refine sw_tope (v2 := nI (p + 1)) (by rw [up4, mF_f, va_up_self]) ?_
    refine sw_aload_0 X dX4_readOrder_44 ?_
    refine gf_X4_164 X dX4_readOrder_45 ?_
    refine sw_tope (v2 := nI n) (by simp only [up4, mF_f]; rw [va_up_ne _ _ (by omega), va_up_ne _ _ (by omega)]; exact hl) ?_
    refine sw_icmp_ge X 63 dX4_readOrder_48 (by decide) (fun h48 => ?_) (fun h48 => ?_)
    ·
      exact absurd ((nI_leI (by omega) (by omega)).mp h48) (by omega)
    ·
      refine sw_aload_0 X dX4_readOrder_51 ?_
      refine gf_X4_19 X dX4_readOrder_52 ?_
      refine sw_aload_0 X dX4_readOrder_55 ?_
      refine gf_X4_167 X dX4_readOrder_56 ?_
      refine sw_tope (v2 := nI (p + 1)) (by rw [up4, mF_f, va_up_self]) ?_
      refine ia_8 X rfl (by omega) dX4_readOrder_59 ?_
      refine sw_tope (v2 := nI 115) (by simp only [up4, mF_t]; exact (congrFun hx _).trans hL) ?_
      refine sw_goto X 64 dX4_readOrder_60 (by decide) ?_
      refine pf_X4_182 X dX4_readOrder_64 ?_
      refine sw_aload_0 X dX4_readOrder_67 ?_
      refine sw_dup X dX4_readOrder_68 rfl ?_
      refine gf_X4_167 X dX4_readOrder_69 ?_
      refine sw_tope (v2 := nI (p + 1)) (by rw [up4, mF_f, va_up_ne _ _ (by omega), up4, mF_f, va_up_self]) ?_
      refine sw_iconst X (nI 1) dX4_readOrder_72 (by decide) ?_
      refine sw_iadd X dX4_readOrder_73 ?_
      try refine sw_tope (nI_add _ _) ?_
      refine pf_X4_167 X dX4_readOrder_74 ?_
      refine sw_aload_0 X dX4_readOrder_77 ?_
      refine gf_X4_182 X dX4_readOrder_78 ?_
      refine sw_tope (v2 := nI 115) (by simp only [up4, mF_f]; rw [va_up_ne _ _ (by omega), va_up_self]) ?_
      refine sw_tabInV X 186 dX4_readOrder_81 (q := 17) rfl (by decide) (by decide) ?_
      refine sw_aload_0 X dX4_readOrder_186 ?_
      refine ca_X4_185 X (by decide) dX4_readOrder_187 (Nat.le_of_ble_eq_true rfl) (c_X4_readName_y (TX_w T _ (by omega)) h3) ?_
      exact sw_zret X Y dX4_readOrder_190 (rfl) (rfl) (rfl)
  ·
    exact absurd h1 h8
set_option maxHeartbeats 4000000 in
set_option maxRecDepth 100000 in
theorem c_X4_readOrder_115_n {G : sv_G} {M : sv_Mem} {x : Nat → Int32} {n p : Nat} (T : TX M x n p) (h1 : nx x n p (nI 48) (nI 50)) (h2 : p + 1 < n) (hL : x (p + 1) = nI 115) (h3 : ¬ nx x n (p + 2) (nI 97) (nI 104)) : sv_Ct G M_X4_readOrder 4 [.ref (sv_ad G 4 9 0)] M (some (.int (bI False))) (mF (mF (mF (mF M 9 (x p - nI 48)) 8 (nI (p + 1))) 10 (nI 115)) 8 (nI (p + 2))) := by
  obtain ⟨hx, hl, hn, hp, hpb⟩ := id T
  refine sv_Ct_of (lo := [some (.ref (sv_ad G 4 9 0))]) (pn_X4) rfl (Nat.le_of_ble_eq_true rfl) rfl (fun K X Y => ?_)
  replace X : sv_X G K cX4_readOrder RX4 1 4 := X
  replace Y : sv_Y G K (some .boolean) _ _ := Y
  show sw_W G K 1 0 _ _ _
  refine sw_aload_0 X dX4_readOrder_0 ?_
  refine sw_bipush X (nI 48) dX4_readOrder_1 (by decide) ?_
  refine sw_bipush X (nI 50) dX4_readOrder_3 (by decide) ?_
  refine ca_X4_170 X (by decide) dX4_readOrder_5 (Nat.le_of_ble_eq_true rfl) (c_X4_isNext T) ?_
  refine sw_ifB_ne X 13 dX4_readOrder_8 (by decide) (fun h8 => ?_) (fun h8 => ?_)
  ·
    refine sw_aload_0 X dX4_readOrder_13 ?_
    refine sw_aload_0 X dX4_readOrder_14 ?_
    refine gf_X4_19 X dX4_readOrder_15 ?_
    refine sw_aload_0 X dX4_readOrder_18 ?_
    refine gf_X4_167 X dX4_readOrder_19 ?_
    refine sw_tope hp ?_
    refine ia_8 X rfl (by have := h1.1; omega) dX4_readOrder_22 ?_
    refine sw_tope (v2 := x p) (by rw [hx]) ?_
    refine sw_bipush X (nI 48) dX4_readOrder_23 (by decide) ?_
    refine sw_isub X dX4_readOrder_25 ?_
    refine pf_X4_179 X dX4_readOrder_26 ?_
    refine sw_aload_0 X dX4_readOrder_29 ?_
    refine sw_dup X dX4_readOrder_30 rfl ?_
    refine gf_X4_167 X dX4_readOrder_31 ?_
    refine sw_tope (v2 := nI p) (by rw [up4, mF_f, va_up_ne _ _ (by omega)]; exact hp) ?_
    refine sw_iconst X (nI 1) dX4_readOrder_34 (by decide) ?_
    refine sw_iadd X dX4_readOrder_35 ?_
    try refine sw_tope (nI_add _ _) ?_
    refine pf_X4_167 X dX4_readOrder_36 ?_
    refine sw_aload_0 X dX4_readOrder_39 ?_
    refine sw_aload_0 X dX4_readOrder_40 ?_
    refine gf_X4_167 X dX4_readOrder_41 ?_
    refine sw_tope (v2 := nI (p + 1)) (by rw [up4, mF_f, va_up_self]) ?_
    refine sw_aload_0 X dX4_readOrder_44 ?_
    refine gf_X4_164 X dX4_readOrder_45 ?_
    refine sw_tope (v2 := nI n) (by simp only [up4, mF_f]; rw [va_up_ne _ _ (by omega), va_up_ne _ _ (by omega)]; exact hl) ?_
    refine sw_icmp_ge X 63 dX4_readOrder_48 (by decide) (fun h48 => ?_) (fun h48 => ?_)
    ·
      exact absurd ((nI_leI (by omega) (by omega)).mp h48) (by omega)
    ·
      refine sw_aload_0 X dX4_readOrder_51 ?_
      refine gf_X4_19 X dX4_readOrder_52 ?_
      refine sw_aload_0 X dX4_readOrder_55 ?_
      refine gf_X4_167 X dX4_readOrder_56 ?_
      refine sw_tope (v2 := nI (p + 1)) (by rw [up4, mF_f, va_up_self]) ?_
      refine ia_8 X rfl (by omega) dX4_readOrder_59 ?_
      refine sw_tope (v2 := nI 115) (by simp only [up4, mF_t]; exact (congrFun hx _).trans hL) ?_
      refine sw_goto X 64 dX4_readOrder_60 (by decide) ?_
      refine pf_X4_182 X dX4_readOrder_64 ?_
      refine sw_aload_0 X dX4_readOrder_67 ?_
      refine sw_dup X dX4_readOrder_68 rfl ?_
      refine gf_X4_167 X dX4_readOrder_69 ?_
      refine sw_tope (v2 := nI (p + 1)) (by rw [up4, mF_f, va_up_ne _ _ (by omega), up4, mF_f, va_up_self]) ?_
      refine sw_iconst X (nI 1) dX4_readOrder_72 (by decide) ?_
      refine sw_iadd X dX4_readOrder_73 ?_
      try refine sw_tope (nI_add _ _) ?_
      refine pf_X4_167 X dX4_readOrder_74 ?_
      refine sw_aload_0 X dX4_readOrder_77 ?_
      refine gf_X4_182 X dX4_readOrder_78 ?_
      refine sw_tope (v2 := nI 115) (by simp only [up4, mF_f]; rw [va_up_ne _ _ (by omega), va_up_self]) ?_
      refine sw_tabInV X 186 dX4_readOrder_81 (q := 17) rfl (by decide) (by decide) ?_
      refine sw_aload_0 X dX4_readOrder_186 ?_
      refine ca_X4_185 X (by decide) dX4_readOrder_187 (Nat.le_of_ble_eq_true rfl) (c_X4_readName_n (TX_w T _ (by omega)) h3) ?_
      exact sw_zret X Y dX4_readOrder_190 (rfl) (rfl) (rfl)
  ·
    exact absurd h1 h8
set_option maxHeartbeats 4000000 in
set_option maxRecDepth 100000 in
theorem c_X4_readOrder_117_y {G : sv_G} {M : sv_Mem} {x : Nat → Int32} {n p : Nat} (T : TX M x n p) (h1 : nx x n p (nI 48) (nI 50)) (h2 : p + 1 < n) (hL : x (p + 1) = nI 117) (h3 : nx x n (p + 2) (nI 97) (nI 104)) : sv_Ct G M_X4_readOrder 4 [.ref (sv_ad G 4 9 0)] M (some (.int (bI True))) (mF (mF (mF (mF (mF (mF M 9 (x p - nI 48)) 8 (nI (p + 1))) 10 (nI 117)) 8 (nI (p + 2))) 11 (x (p + 2) - nI 97)) 8 (nI (p + 3))) := by
  obtain ⟨hx, hl, hn, hp, hpb⟩ := id T
  refine sv_Ct_of (lo := [some (.ref (sv_ad G 4 9 0))]) (pn_X4) rfl (Nat.le_of_ble_eq_true rfl) rfl (fun K X Y => ?_)
  replace X : sv_X G K cX4_readOrder RX4 1 4 := X
  replace Y : sv_Y G K (some .boolean) _ _ := Y
  show sw_W G K 1 0 _ _ _
  refine sw_aload_0 X dX4_readOrder_0 ?_
  refine sw_bipush X (nI 48) dX4_readOrder_1 (by decide) ?_
  refine sw_bipush X (nI 50) dX4_readOrder_3 (by decide) ?_
  refine ca_X4_170 X (by decide) dX4_readOrder_5 (Nat.le_of_ble_eq_true rfl) (c_X4_isNext T) ?_
  refine sw_ifB_ne X 13 dX4_readOrder_8 (by decide) (fun h8 => ?_) (fun h8 => ?_)
  ·
    refine sw_aload_0 X dX4_readOrder_13 ?_
    refine sw_aload_0 X dX4_readOrder_14 ?_
    refine gf_X4_19 X dX4_readOrder_15 ?_
    refine sw_aload_0 X dX4_readOrder_18 ?_
    refine gf_X4_167 X dX4_readOrder_19 ?_
    refine sw_tope hp ?_
    refine ia_8 X rfl (by have := h1.1; omega) dX4_readOrder_22 ?_
    refine sw_tope (v2 := x p) (by rw [hx]) ?_
    refine sw_bipush X (nI 48) dX4_readOrder_23 (by decide) ?_
    refine sw_isub X dX4_readOrder_25 ?_
    refine pf_X4_179 X dX4_readOrder_26 ?_
    refine sw_aload_0 X dX4_readOrder_29 ?_
    refine sw_dup X dX4_readOrder_30 rfl ?_
    refine gf_X4_167 X dX4_readOrder_31 ?_
    refine sw_tope (v2 := nI p) (by rw [up4, mF_f, va_up_ne _ _ (by omega)]; exact hp) ?_
    refine sw_iconst X (nI 1) dX4_readOrder_34 (by decide) ?_
    refine sw_iadd X dX4_readOrder_35 ?_
    try refine sw_tope (nI_add _ _) ?_
    refine pf_X4_167 X dX4_readOrder_36 ?_
    refine sw_aload_0 X dX4_readOrder_39 ?_
    refine sw_aload_0 X dX4_readOrder_40 ?_
    refine gf_X4_167 X dX4_readOrder_41 ?_
    refine sw_tope (v2 := nI (p + 1)) (by rw [up4, mF_f, va_up_self]) ?_
    refine sw_aload_0 X dX4_readOrder_44 ?_
    refine gf_X4_164 X dX4_readOrder_45 ?_
    refine sw_tope (v2 := nI n) (by simp only [up4, mF_f]; rw [va_up_ne _ _ (by omega), va_up_ne _ _ (by omega)]; exact hl) ?_
    refine sw_icmp_ge X 63 dX4_readOrder_48 (by decide) (fun h48 => ?_) (fun h48 => ?_)
    ·
      exact absurd ((nI_leI (by omega) (by omega)).mp h48) (by omega)
    ·
      refine sw_aload_0 X dX4_readOrder_51 ?_
      refine gf_X4_19 X dX4_readOrder_52 ?_
      refine sw_aload_0 X dX4_readOrder_55 ?_
      refine gf_X4_167 X dX4_readOrder_56 ?_
      refine sw_tope (v2 := nI (p + 1)) (by rw [up4, mF_f, va_up_self]) ?_
      refine ia_8 X rfl (by omega) dX4_readOrder_59 ?_
      refine sw_tope (v2 := nI 117) (by simp only [up4, mF_t]; exact (congrFun hx _).trans hL) ?_
      refine sw_goto X 64 dX4_readOrder_60 (by decide) ?_
      refine pf_X4_182 X dX4_readOrder_64 ?_
      refine sw_aload_0 X dX4_readOrder_67 ?_
      refine sw_dup X dX4_readOrder_68 rfl ?_
      refine gf_X4_167 X dX4_readOrder_69 ?_
      refine sw_tope (v2 := nI (p + 1)) (by rw [up4, mF_f, va_up_ne _ _ (by omega), up4, mF_f, va_up_self]) ?_
      refine sw_iconst X (nI 1) dX4_readOrder_72 (by decide) ?_
      refine sw_iadd X dX4_readOrder_73 ?_
      try refine sw_tope (nI_add _ _) ?_
      refine pf_X4_167 X dX4_readOrder_74 ?_
      refine sw_aload_0 X dX4_readOrder_77 ?_
      refine gf_X4_182 X dX4_readOrder_78 ?_
      refine sw_tope (v2 := nI 117) (by simp only [up4, mF_f]; rw [va_up_ne _ _ (by omega), va_up_self]) ?_
      refine sw_tabInV X 186 dX4_readOrder_81 (q := 19) rfl (by decide) (by decide) ?_
      refine sw_aload_0 X dX4_readOrder_186 ?_
      refine ca_X4_185 X (by decide) dX4_readOrder_187 (Nat.le_of_ble_eq_true rfl) (c_X4_readName_y (TX_w T _ (by omega)) h3) ?_
      exact sw_zret X Y dX4_readOrder_190 (rfl) (rfl) (rfl)
  ·
    exact absurd h1 h8
set_option maxHeartbeats 4000000 in
set_option maxRecDepth 100000 in
theorem c_X4_readOrder_117_n {G : sv_G} {M : sv_Mem} {x : Nat → Int32} {n p : Nat} (T : TX M x n p) (h1 : nx x n p (nI 48) (nI 50)) (h2 : p + 1 < n) (hL : x (p + 1) = nI 117) (h3 : ¬ nx x n (p + 2) (nI 97) (nI 104)) : sv_Ct G M_X4_readOrder 4 [.ref (sv_ad G 4 9 0)] M (some (.int (bI False))) (mF (mF (mF (mF M 9 (x p - nI 48)) 8 (nI (p + 1))) 10 (nI 117)) 8 (nI (p + 2))) := by
  obtain ⟨hx, hl, hn, hp, hpb⟩ := id T
  refine sv_Ct_of (lo := [some (.ref (sv_ad G 4 9 0))]) (pn_X4) rfl (Nat.le_of_ble_eq_true rfl) rfl (fun K X Y => ?_)
  replace X : sv_X G K cX4_readOrder RX4 1 4 := X
  replace Y : sv_Y G K (some .boolean) _ _ := Y
  show sw_W G K 1 0 _ _ _
  refine sw_aload_0 X dX4_readOrder_0 ?_
  refine sw_bipush X (nI 48) dX4_readOrder_1 (by decide) ?_
  refine sw_bipush X (nI 50) dX4_readOrder_3 (by decide) ?_
  refine ca_X4_170 X (by decide) dX4_readOrder_5 (Nat.le_of_ble_eq_true rfl) (c_X4_isNext T) ?_
  refine sw_ifB_ne X 13 dX4_readOrder_8 (by decide) (fun h8 => ?_) (fun h8 => ?_)
  ·
    refine sw_aload_0 X dX4_readOrder_13 ?_
    refine sw_aload_0 X dX4_readOrder_14 ?_
    refine gf_X4_19 X dX4_readOrder_15 ?_
    refine sw_aload_0 X dX4_readOrder_18 ?_
    refine gf_X4_167 X dX4_readOrder_19 ?_
    refine sw_tope hp ?_
    refine ia_8 X rfl (by have := h1.1; omega) dX4_readOrder_22 ?_
    refine sw_tope (v2 := x p) (by rw [hx]) ?_
    refine sw_bipush X (nI 48) dX4_readOrder_23 (by decide) ?_
    refine sw_isub X dX4_readOrder_25 ?_
    refine pf_X4_179 X dX4_readOrder_26 ?_
    refine sw_aload_0 X dX4_readOrder_29 ?_
    refine sw_dup X dX4_readOrder_30 rfl ?_
    refine gf_X4_167 X dX4_readOrder_31 ?_
    refine sw_tope (v2 := nI p) (by rw [up4, mF_f, va_up_ne _ _ (by omega)]; exact hp) ?_
    refine sw_iconst X (nI 1) dX4_readOrder_34 (by decide) ?_
    refine sw_iadd X dX4_readOrder_35 ?_
    try refine sw_tope (nI_add _ _) ?_
    refine pf_X4_167 X dX4_readOrder_36 ?_
    refine sw_aload_0 X dX4_readOrder_39 ?_
    refine sw_aload_0 X dX4_readOrder_40 ?_
    refine gf_X4_167 X dX4_readOrder_41 ?_
    refine sw_tope (v2 := nI (p + 1)) (by rw [up4, mF_f, va_up_self]) ?_
    refine sw_aload_0 X dX4_readOrder_44 ?_
    refine gf_X4_164 X dX4_readOrder_45 ?_
    refine sw_tope (v2 := nI n) (by simp only [up4, mF_f]; rw [va_up_ne _ _ (by omega), va_up_ne _ _ (by omega)]; exact hl) ?_
    refine sw_icmp_ge X 63 dX4_readOrder_48 (by decide) (fun h48 => ?_) (fun h48 => ?_)
    ·
      exact absurd ((nI_leI (by omega) (by omega)).mp h48) (by omega)
    ·
      refine sw_aload_0 X dX4_readOrder_51 ?_
      refine gf_X4_19 X dX4_readOrder_52 ?_
      refine sw_aload_0 X dX4_readOrder_55 ?_
      refine gf_X4_167 X dX4_readOrder_56 ?_
      refine sw_tope (v2 := nI (p + 1)) (by rw [up4, mF_f, va_up_self]) ?_
      refine ia_8 X rfl (by omega) dX4_readOrder_59 ?_
      refine sw_tope (v2 := nI 117) (by simp only [up4, mF_t]; exact (congrFun hx _).trans hL) ?_
      refine sw_goto X 64 dX4_readOrder_60 (by decide) ?_
      refine pf_X4_182 X dX4_readOrder_64 ?_
      refine sw_aload_0 X dX4_readOrder_67 ?_
      refine sw_dup X dX4_readOrder_68 rfl ?_
      refine gf_X4_167 X dX4_readOrder_69 ?_
      refine sw_tope (v2 := nI (p + 1)) (by rw [up4, mF_f, va_up_ne _ _ (by omega), up4, mF_f, va_up_self]) ?_
      refine sw_iconst X (nI 1) dX4_readOrder_72 (by decide) ?_
      refine sw_iadd X dX4_readOrder_73 ?_
      try refine sw_tope (nI_add _ _) ?_
      refine pf_X4_167 X dX4_readOrder_74 ?_
      refine sw_aload_0 X dX4_readOrder_77 ?_
      refine gf_X4_182 X dX4_readOrder_78 ?_
      refine sw_tope (v2 := nI 117) (by simp only [up4, mF_f]; rw [va_up_ne _ _ (by omega), va_up_self]) ?_
      refine sw_tabInV X 186 dX4_readOrder_81 (q := 19) rfl (by decide) (by decide) ?_
      refine sw_aload_0 X dX4_readOrder_186 ?_
      refine ca_X4_185 X (by decide) dX4_readOrder_187 (Nat.le_of_ble_eq_true rfl) (c_X4_readName_n (TX_w T _ (by omega)) h3) ?_
      exact sw_zret X Y dX4_readOrder_190 (rfl) (rfl) (rfl)
  ·
    exact absurd h1 h8
set_option maxHeartbeats 4000000 in
set_option maxRecDepth 100000 in
theorem c_X4_readOrder_100_y {G : sv_G} {M : sv_Mem} {x : Nat → Int32} {n p : Nat} (T : TX M x n p) (h1 : nx x n p (nI 48) (nI 50)) (h2 : p + 1 < n) (hL : x (p + 1) = nI 100) (h3 : nx x n (p + 2) (nI 97) (nI 104)) : sv_Ct G M_X4_readOrder 4 [.ref (sv_ad G 4 9 0)] M (some (.int (bI True))) (mF (mF (mF (mF (mF (mF M 9 (x p - nI 48)) 8 (nI (p + 1))) 10 (nI 100)) 8 (nI (p + 2))) 11 (x (p + 2) - nI 97)) 8 (nI (p + 3))) := by
  obtain ⟨hx, hl, hn, hp, hpb⟩ := id T
  refine sv_Ct_of (lo := [some (.ref (sv_ad G 4 9 0))]) (pn_X4) rfl (Nat.le_of_ble_eq_true rfl) rfl (fun K X Y => ?_)
  replace X : sv_X G K cX4_readOrder RX4 1 4 := X
  replace Y : sv_Y G K (some .boolean) _ _ := Y
  show sw_W G K 1 0 _ _ _
  refine sw_aload_0 X dX4_readOrder_0 ?_
  refine sw_bipush X (nI 48) dX4_readOrder_1 (by decide) ?_
  refine sw_bipush X (nI 50) dX4_readOrder_3 (by decide) ?_
  refine ca_X4_170 X (by decide) dX4_readOrder_5 (Nat.le_of_ble_eq_true rfl) (c_X4_isNext T) ?_
  refine sw_ifB_ne X 13 dX4_readOrder_8 (by decide) (fun h8 => ?_) (fun h8 => ?_)
  ·
    refine sw_aload_0 X dX4_readOrder_13 ?_
    refine sw_aload_0 X dX4_readOrder_14 ?_
    refine gf_X4_19 X dX4_readOrder_15 ?_
    refine sw_aload_0 X dX4_readOrder_18 ?_
    refine gf_X4_167 X dX4_readOrder_19 ?_
    refine sw_tope hp ?_
    refine ia_8 X rfl (by have := h1.1; omega) dX4_readOrder_22 ?_
    refine sw_tope (v2 := x p) (by rw [hx]) ?_
    refine sw_bipush X (nI 48) dX4_readOrder_23 (by decide) ?_
    refine sw_isub X dX4_readOrder_25 ?_
    refine pf_X4_179 X dX4_readOrder_26 ?_
    refine sw_aload_0 X dX4_readOrder_29 ?_
    refine sw_dup X dX4_readOrder_30 rfl ?_
    refine gf_X4_167 X dX4_readOrder_31 ?_
    refine sw_tope (v2 := nI p) (by rw [up4, mF_f, va_up_ne _ _ (by omega)]; exact hp) ?_
    refine sw_iconst X (nI 1) dX4_readOrder_34 (by decide) ?_
    refine sw_iadd X dX4_readOrder_35 ?_
    try refine sw_tope (nI_add _ _) ?_
    refine pf_X4_167 X dX4_readOrder_36 ?_
    refine sw_aload_0 X dX4_readOrder_39 ?_
    refine sw_aload_0 X dX4_readOrder_40 ?_
    refine gf_X4_167 X dX4_readOrder_41 ?_
    refine sw_tope (v2 := nI (p + 1)) (by rw [up4, mF_f, va_up_self]) ?_
    refine sw_aload_0 X dX4_readOrder_44 ?_
    refine gf_X4_164 X dX4_readOrder_45 ?_
    refine sw_tope (v2 := nI n) (by simp only [up4, mF_f]; rw [va_up_ne _ _ (by omega), va_up_ne _ _ (by omega)]; exact hl) ?_
    refine sw_icmp_ge X 63 dX4_readOrder_48 (by decide) (fun h48 => ?_) (fun h48 => ?_)
    ·
      exact absurd ((nI_leI (by omega) (by omega)).mp h48) (by omega)
    ·
      refine sw_aload_0 X dX4_readOrder_51 ?_
      refine gf_X4_19 X dX4_readOrder_52 ?_
      refine sw_aload_0 X dX4_readOrder_55 ?_
      refine gf_X4_167 X dX4_readOrder_56 ?_
      refine sw_tope (v2 := nI (p + 1)) (by rw [up4, mF_f, va_up_self]) ?_
      refine ia_8 X rfl (by omega) dX4_readOrder_59 ?_
      refine sw_tope (v2 := nI 100) (by simp only [up4, mF_t]; exact (congrFun hx _).trans hL) ?_
      refine sw_goto X 64 dX4_readOrder_60 (by decide) ?_
      refine pf_X4_182 X dX4_readOrder_64 ?_
      refine sw_aload_0 X dX4_readOrder_67 ?_
      refine sw_dup X dX4_readOrder_68 rfl ?_
      refine gf_X4_167 X dX4_readOrder_69 ?_
      refine sw_tope (v2 := nI (p + 1)) (by rw [up4, mF_f, va_up_ne _ _ (by omega), up4, mF_f, va_up_self]) ?_
      refine sw_iconst X (nI 1) dX4_readOrder_72 (by decide) ?_
      refine sw_iadd X dX4_readOrder_73 ?_
      try refine sw_tope (nI_add _ _) ?_
      refine pf_X4_167 X dX4_readOrder_74 ?_
      refine sw_aload_0 X dX4_readOrder_77 ?_
      refine gf_X4_182 X dX4_readOrder_78 ?_
      refine sw_tope (v2 := nI 100) (by simp only [up4, mF_f]; rw [va_up_ne _ _ (by omega), va_up_self]) ?_
      refine sw_tabInV X 186 dX4_readOrder_81 (q := 2) rfl (by decide) (by decide) ?_
      refine sw_aload_0 X dX4_readOrder_186 ?_
      refine ca_X4_185 X (by decide) dX4_readOrder_187 (Nat.le_of_ble_eq_true rfl) (c_X4_readName_y (TX_w T _ (by omega)) h3) ?_
      exact sw_zret X Y dX4_readOrder_190 (rfl) (rfl) (rfl)
  ·
    exact absurd h1 h8
set_option maxHeartbeats 4000000 in
set_option maxRecDepth 100000 in
theorem c_X4_readOrder_100_n {G : sv_G} {M : sv_Mem} {x : Nat → Int32} {n p : Nat} (T : TX M x n p) (h1 : nx x n p (nI 48) (nI 50)) (h2 : p + 1 < n) (hL : x (p + 1) = nI 100) (h3 : ¬ nx x n (p + 2) (nI 97) (nI 104)) : sv_Ct G M_X4_readOrder 4 [.ref (sv_ad G 4 9 0)] M (some (.int (bI False))) (mF (mF (mF (mF M 9 (x p - nI 48)) 8 (nI (p + 1))) 10 (nI 100)) 8 (nI (p + 2))) := by
  obtain ⟨hx, hl, hn, hp, hpb⟩ := id T
  refine sv_Ct_of (lo := [some (.ref (sv_ad G 4 9 0))]) (pn_X4) rfl (Nat.le_of_ble_eq_true rfl) rfl (fun K X Y => ?_)
  replace X : sv_X G K cX4_readOrder RX4 1 4 := X
  replace Y : sv_Y G K (some .boolean) _ _ := Y
  show sw_W G K 1 0 _ _ _
  refine sw_aload_0 X dX4_readOrder_0 ?_
  refine sw_bipush X (nI 48) dX4_readOrder_1 (by decide) ?_
  refine sw_bipush X (nI 50) dX4_readOrder_3 (by decide) ?_
  refine ca_X4_170 X (by decide) dX4_readOrder_5 (Nat.le_of_ble_eq_true rfl) (c_X4_isNext T) ?_
  refine sw_ifB_ne X 13 dX4_readOrder_8 (by decide) (fun h8 => ?_) (fun h8 => ?_)
  ·
    refine sw_aload_0 X dX4_readOrder_13 ?_
    refine sw_aload_0 X dX4_readOrder_14 ?_
    refine gf_X4_19 X dX4_readOrder_15 ?_
    refine sw_aload_0 X dX4_readOrder_18 ?_
    refine gf_X4_167 X dX4_readOrder_19 ?_
    refine sw_tope hp ?_
    refine ia_8 X rfl (by have := h1.1; omega) dX4_readOrder_22 ?_
    refine sw_tope (v2 := x p) (by rw [hx]) ?_
    refine sw_bipush X (nI 48) dX4_readOrder_23 (by decide) ?_
    refine sw_isub X dX4_readOrder_25 ?_
    refine pf_X4_179 X dX4_readOrder_26 ?_
    refine sw_aload_0 X dX4_readOrder_29 ?_
    refine sw_dup X dX4_readOrder_30 rfl ?_
    refine gf_X4_167 X dX4_readOrder_31 ?_
    refine sw_tope (v2 := nI p) (by rw [up4, mF_f, va_up_ne _ _ (by omega)]; exact hp) ?_
    refine sw_iconst X (nI 1) dX4_readOrder_34 (by decide) ?_
    refine sw_iadd X dX4_readOrder_35 ?_
    try refine sw_tope (nI_add _ _) ?_
    refine pf_X4_167 X dX4_readOrder_36 ?_
    refine sw_aload_0 X dX4_readOrder_39 ?_
    refine sw_aload_0 X dX4_readOrder_40 ?_
    refine gf_X4_167 X dX4_readOrder_41 ?_
    refine sw_tope (v2 := nI (p + 1)) (by rw [up4, mF_f, va_up_self]) ?_
    refine sw_aload_0 X dX4_readOrder_44 ?_
    refine gf_X4_164 X dX4_readOrder_45 ?_
    refine sw_tope (v2 := nI n) (by simp only [up4, mF_f]; rw [va_up_ne _ _ (by omega), va_up_ne _ _ (by omega)]; exact hl) ?_
    refine sw_icmp_ge X 63 dX4_readOrder_48 (by decide) (fun h48 => ?_) (fun h48 => ?_)
    ·
      exact absurd ((nI_leI (by omega) (by omega)).mp h48) (by omega)
    ·
      refine sw_aload_0 X dX4_readOrder_51 ?_
      refine gf_X4_19 X dX4_readOrder_52 ?_
      refine sw_aload_0 X dX4_readOrder_55 ?_
      refine gf_X4_167 X dX4_readOrder_56 ?_
      refine sw_tope (v2 := nI (p + 1)) (by rw [up4, mF_f, va_up_self]) ?_
      refine ia_8 X rfl (by omega) dX4_readOrder_59 ?_
      refine sw_tope (v2 := nI 100) (by simp only [up4, mF_t]; exact (congrFun hx _).trans hL) ?_
      refine sw_goto X 64 dX4_readOrder_60 (by decide) ?_
      refine pf_X4_182 X dX4_readOrder_64 ?_
      refine sw_aload_0 X dX4_readOrder_67 ?_
      refine sw_dup X dX4_readOrder_68 rfl ?_
      refine gf_X4_167 X dX4_readOrder_69 ?_
      refine sw_tope (v2 := nI (p + 1)) (by rw [up4, mF_f, va_up_ne _ _ (by omega), up4, mF_f, va_up_self]) ?_
      refine sw_iconst X (nI 1) dX4_readOrder_72 (by decide) ?_
      refine sw_iadd X dX4_readOrder_73 ?_
      try refine sw_tope (nI_add _ _) ?_
      refine pf_X4_167 X dX4_readOrder_74 ?_
      refine sw_aload_0 X dX4_readOrder_77 ?_
      refine gf_X4_182 X dX4_readOrder_78 ?_
      refine sw_tope (v2 := nI 100) (by simp only [up4, mF_f]; rw [va_up_ne _ _ (by omega), va_up_self]) ?_
      refine sw_tabInV X 186 dX4_readOrder_81 (q := 2) rfl (by decide) (by decide) ?_
      refine sw_aload_0 X dX4_readOrder_186 ?_
      refine ca_X4_185 X (by decide) dX4_readOrder_187 (Nat.le_of_ble_eq_true rfl) (c_X4_readName_n (TX_w T _ (by omega)) h3) ?_
      exact sw_zret X Y dX4_readOrder_190 (rfl) (rfl) (rfl)
  ·
    exact absurd h1 h8
set_option maxHeartbeats 4000000 in
set_option maxRecDepth 100000 in
theorem c_X4_readOrder_101_y {G : sv_G} {M : sv_Mem} {x : Nat → Int32} {n p : Nat} (T : TX M x n p) (h1 : nx x n p (nI 48) (nI 50)) (h2 : p + 1 < n) (hL : x (p + 1) = nI 101) (h3 : dgt x n (p + 2)) : sv_Ct G M_X4_readOrder 4 [.ref (sv_ad G 4 9 0)] M (some (.int (bI True))) (mF (mF (mF (mF (mF (mF M 9 (x p - nI 48)) 8 (nI (p + 1))) 10 (nI 101)) 8 (nI (p + 2))) 8 (nI (rnE x n 15 (p + 2)).1)) 11 (nI (rnE x n 15 (p + 2)).2)) := by
  obtain ⟨hx, hl, hn, hp, hpb⟩ := id T
  refine sv_Ct_of (lo := [some (.ref (sv_ad G 4 9 0))]) (pn_X4) rfl (Nat.le_of_ble_eq_true rfl) rfl (fun K X Y => ?_)
  replace X : sv_X G K cX4_readOrder RX4 1 4 := X
  replace Y : sv_Y G K (some .boolean) _ _ := Y
  show sw_W G K 1 0 _ _ _
  refine sw_aload_0 X dX4_readOrder_0 ?_
  refine sw_bipush X (nI 48) dX4_readOrder_1 (by decide) ?_
  refine sw_bipush X (nI 50) dX4_readOrder_3 (by decide) ?_
  refine ca_X4_170 X (by decide) dX4_readOrder_5 (Nat.le_of_ble_eq_true rfl) (c_X4_isNext T) ?_
  refine sw_ifB_ne X 13 dX4_readOrder_8 (by decide) (fun h8 => ?_) (fun h8 => ?_)
  ·
    refine sw_aload_0 X dX4_readOrder_13 ?_
    refine sw_aload_0 X dX4_readOrder_14 ?_
    refine gf_X4_19 X dX4_readOrder_15 ?_
    refine sw_aload_0 X dX4_readOrder_18 ?_
    refine gf_X4_167 X dX4_readOrder_19 ?_
    refine sw_tope hp ?_
    refine ia_8 X rfl (by have := h1.1; omega) dX4_readOrder_22 ?_
    refine sw_tope (v2 := x p) (by rw [hx]) ?_
    refine sw_bipush X (nI 48) dX4_readOrder_23 (by decide) ?_
    refine sw_isub X dX4_readOrder_25 ?_
    refine pf_X4_179 X dX4_readOrder_26 ?_
    refine sw_aload_0 X dX4_readOrder_29 ?_
    refine sw_dup X dX4_readOrder_30 rfl ?_
    refine gf_X4_167 X dX4_readOrder_31 ?_
    refine sw_tope (v2 := nI p) (by rw [up4, mF_f, va_up_ne _ _ (by omega)]; exact hp) ?_
    refine sw_iconst X (nI 1) dX4_readOrder_34 (by decide) ?_
    refine sw_iadd X dX4_readOrder_35 ?_
    try refine sw_tope (nI_add _ _) ?_
    refine pf_X4_167 X dX4_readOrder_36 ?_
    refine sw_aload_0 X dX4_readOrder_39 ?_
    refine sw_aload_0 X dX4_readOrder_40 ?_
    refine gf_X4_167 X dX4_readOrder_41 ?_
    refine sw_tope (v2 := nI (p + 1)) (by rw [up4, mF_f, va_up_self]) ?_
    refine sw_aload_0 X dX4_readOrder_44 ?_
    refine gf_X4_164 X dX4_readOrder_45 ?_
    refine sw_tope (v2 := nI n) (by simp only [up4, mF_f]; rw [va_up_ne _ _ (by omega), va_up_ne _ _ (by omega)]; exact hl) ?_
    refine sw_icmp_ge X 63 dX4_readOrder_48 (by decide) (fun h48 => ?_) (fun h48 => ?_)
    ·
      exact absurd ((nI_leI (by omega) (by omega)).mp h48) (by omega)
    ·
      refine sw_aload_0 X dX4_readOrder_51 ?_
      refine gf_X4_19 X dX4_readOrder_52 ?_
      refine sw_aload_0 X dX4_readOrder_55 ?_
      refine gf_X4_167 X dX4_readOrder_56 ?_
      refine sw_tope (v2 := nI (p + 1)) (by rw [up4, mF_f, va_up_self]) ?_
      refine ia_8 X rfl (by omega) dX4_readOrder_59 ?_
      refine sw_tope (v2 := nI 101) (by simp only [up4, mF_t]; exact (congrFun hx _).trans hL) ?_
      refine sw_goto X 64 dX4_readOrder_60 (by decide) ?_
      refine pf_X4_182 X dX4_readOrder_64 ?_
      refine sw_aload_0 X dX4_readOrder_67 ?_
      refine sw_dup X dX4_readOrder_68 rfl ?_
      refine gf_X4_167 X dX4_readOrder_69 ?_
      refine sw_tope (v2 := nI (p + 1)) (by rw [up4, mF_f, va_up_ne _ _ (by omega), up4, mF_f, va_up_self]) ?_
      refine sw_iconst X (nI 1) dX4_readOrder_72 (by decide) ?_
      refine sw_iadd X dX4_readOrder_73 ?_
      try refine sw_tope (nI_add _ _) ?_
      refine pf_X4_167 X dX4_readOrder_74 ?_
      refine sw_aload_0 X dX4_readOrder_77 ?_
      refine gf_X4_182 X dX4_readOrder_78 ?_
      refine sw_tope (v2 := nI 101) (by simp only [up4, mF_f]; rw [va_up_ne _ _ (by omega), va_up_self]) ?_
      refine sw_tabInV X 191 dX4_readOrder_81 (q := 3) rfl (by decide) (by decide) ?_
      refine sw_aload_0 X dX4_readOrder_191 ?_
      refine ca_X4_189 X (by decide) dX4_readOrder_192 (Nat.le_of_ble_eq_true rfl) (c_X4_readKey_y (TX_w T _ (by omega)) h3) ?_
      exact sw_zret X Y dX4_readOrder_195 (rfl) (rfl) (rfl)
  ·
    exact absurd h1 h8
set_option maxHeartbeats 4000000 in
set_option maxRecDepth 100000 in
theorem c_X4_readOrder_101_n {G : sv_G} {M : sv_Mem} {x : Nat → Int32} {n p : Nat} (T : TX M x n p) (h1 : nx x n p (nI 48) (nI 50)) (h2 : p + 1 < n) (hL : x (p + 1) = nI 101) (h3 : ¬ dgt x n (p + 2)) : sv_Ct G M_X4_readOrder 4 [.ref (sv_ad G 4 9 0)] M (some (.int (bI False))) (mF (mF (mF (mF (mF M 9 (x p - nI 48)) 8 (nI (p + 1))) 10 (nI 101)) 8 (nI (p + 2))) 11 (-5)) := by
  obtain ⟨hx, hl, hn, hp, hpb⟩ := id T
  refine sv_Ct_of (lo := [some (.ref (sv_ad G 4 9 0))]) (pn_X4) rfl (Nat.le_of_ble_eq_true rfl) rfl (fun K X Y => ?_)
  replace X : sv_X G K cX4_readOrder RX4 1 4 := X
  replace Y : sv_Y G K (some .boolean) _ _ := Y
  show sw_W G K 1 0 _ _ _
  refine sw_aload_0 X dX4_readOrder_0 ?_
  refine sw_bipush X (nI 48) dX4_readOrder_1 (by decide) ?_
  refine sw_bipush X (nI 50) dX4_readOrder_3 (by decide) ?_
  refine ca_X4_170 X (by decide) dX4_readOrder_5 (Nat.le_of_ble_eq_true rfl) (c_X4_isNext T) ?_
  refine sw_ifB_ne X 13 dX4_readOrder_8 (by decide) (fun h8 => ?_) (fun h8 => ?_)
  ·
    refine sw_aload_0 X dX4_readOrder_13 ?_
    refine sw_aload_0 X dX4_readOrder_14 ?_
    refine gf_X4_19 X dX4_readOrder_15 ?_
    refine sw_aload_0 X dX4_readOrder_18 ?_
    refine gf_X4_167 X dX4_readOrder_19 ?_
    refine sw_tope hp ?_
    refine ia_8 X rfl (by have := h1.1; omega) dX4_readOrder_22 ?_
    refine sw_tope (v2 := x p) (by rw [hx]) ?_
    refine sw_bipush X (nI 48) dX4_readOrder_23 (by decide) ?_
    refine sw_isub X dX4_readOrder_25 ?_
    refine pf_X4_179 X dX4_readOrder_26 ?_
    refine sw_aload_0 X dX4_readOrder_29 ?_
    refine sw_dup X dX4_readOrder_30 rfl ?_
    refine gf_X4_167 X dX4_readOrder_31 ?_
    refine sw_tope (v2 := nI p) (by rw [up4, mF_f, va_up_ne _ _ (by omega)]; exact hp) ?_
    refine sw_iconst X (nI 1) dX4_readOrder_34 (by decide) ?_
    refine sw_iadd X dX4_readOrder_35 ?_
    try refine sw_tope (nI_add _ _) ?_
    refine pf_X4_167 X dX4_readOrder_36 ?_
    refine sw_aload_0 X dX4_readOrder_39 ?_
    refine sw_aload_0 X dX4_readOrder_40 ?_
    refine gf_X4_167 X dX4_readOrder_41 ?_
    refine sw_tope (v2 := nI (p + 1)) (by rw [up4, mF_f, va_up_self]) ?_
    refine sw_aload_0 X dX4_readOrder_44 ?_
    refine gf_X4_164 X dX4_readOrder_45 ?_
    refine sw_tope (v2 := nI n) (by simp only [up4, mF_f]; rw [va_up_ne _ _ (by omega), va_up_ne _ _ (by omega)]; exact hl) ?_
    refine sw_icmp_ge X 63 dX4_readOrder_48 (by decide) (fun h48 => ?_) (fun h48 => ?_)
    ·
      exact absurd ((nI_leI (by omega) (by omega)).mp h48) (by omega)
    ·
      refine sw_aload_0 X dX4_readOrder_51 ?_
      refine gf_X4_19 X dX4_readOrder_52 ?_
      refine sw_aload_0 X dX4_readOrder_55 ?_
      refine gf_X4_167 X dX4_readOrder_56 ?_
      refine sw_tope (v2 := nI (p + 1)) (by rw [up4, mF_f, va_up_self]) ?_
      refine ia_8 X rfl (by omega) dX4_readOrder_59 ?_
      refine sw_tope (v2 := nI 101) (by simp only [up4, mF_t]; exact (congrFun hx _).trans hL) ?_
      refine sw_goto X 64 dX4_readOrder_60 (by decide) ?_
      refine pf_X4_182 X dX4_readOrder_64 ?_
      refine sw_aload_0 X dX4_readOrder_67 ?_
      refine sw_dup X dX4_readOrder_68 rfl ?_
      refine gf_X4_167 X dX4_readOrder_69 ?_
      refine sw_tope (v2 := nI (p + 1)) (by rw [up4, mF_f, va_up_ne _ _ (by omega), up4, mF_f, va_up_self]) ?_
      refine sw_iconst X (nI 1) dX4_readOrder_72 (by decide) ?_
      refine sw_iadd X dX4_readOrder_73 ?_
      try refine sw_tope (nI_add _ _) ?_
      refine pf_X4_167 X dX4_readOrder_74 ?_
      refine sw_aload_0 X dX4_readOrder_77 ?_
      refine gf_X4_182 X dX4_readOrder_78 ?_
      refine sw_tope (v2 := nI 101) (by simp only [up4, mF_f]; rw [va_up_ne _ _ (by omega), va_up_self]) ?_
      refine sw_tabInV X 191 dX4_readOrder_81 (q := 3) rfl (by decide) (by decide) ?_
      refine sw_aload_0 X dX4_readOrder_191 ?_
      refine ca_X4_189 X (by decide) dX4_readOrder_192 (Nat.le_of_ble_eq_true rfl) (c_X4_readKey_n (TX_w T _ (by omega)) h3) ?_
      exact sw_zret X Y dX4_readOrder_195 (rfl) (rfl) (rfl)
  ·
    exact absurd h1 h8
set_option maxHeartbeats 4000000 in
set_option maxRecDepth 100000 in
theorem c_X4_readOrder_103_y {G : sv_G} {M : sv_Mem} {x : Nat → Int32} {n p : Nat} (T : TX M x n p) (h1 : nx x n p (nI 48) (nI 50)) (h2 : p + 1 < n) (hL : x (p + 1) = nI 103) (h3 : dgt x n (p + 2)) : sv_Ct G M_X4_readOrder 4 [.ref (sv_ad G 4 9 0)] M (some (.int (bI True))) (mF (mF (mF (mF (mF (mF M 9 (x p - nI 48)) 8 (nI (p + 1))) 10 (nI 103)) 8 (nI (p + 2))) 8 (nI (rnE x n 15 (p + 2)).1)) 11 (nI (rnE x n 15 (p + 2)).2)) := by
  obtain ⟨hx, hl, hn, hp, hpb⟩ := id T
  refine sv_Ct_of (lo := [some (.ref (sv_ad G 4 9 0))]) (pn_X4) rfl (Nat.le_of_ble_eq_true rfl) rfl (fun K X Y => ?_)
  replace X : sv_X G K cX4_readOrder RX4 1 4 := X
  replace Y : sv_Y G K (some .boolean) _ _ := Y
  show sw_W G K 1 0 _ _ _
  refine sw_aload_0 X dX4_readOrder_0 ?_
  refine sw_bipush X (nI 48) dX4_readOrder_1 (by decide) ?_
  refine sw_bipush X (nI 50) dX4_readOrder_3 (by decide) ?_
  refine ca_X4_170 X (by decide) dX4_readOrder_5 (Nat.le_of_ble_eq_true rfl) (c_X4_isNext T) ?_
  refine sw_ifB_ne X 13 dX4_readOrder_8 (by decide) (fun h8 => ?_) (fun h8 => ?_)
  ·
    refine sw_aload_0 X dX4_readOrder_13 ?_
    refine sw_aload_0 X dX4_readOrder_14 ?_
    refine gf_X4_19 X dX4_readOrder_15 ?_
    refine sw_aload_0 X dX4_readOrder_18 ?_
    refine gf_X4_167 X dX4_readOrder_19 ?_
    refine sw_tope hp ?_
    refine ia_8 X rfl (by have := h1.1; omega) dX4_readOrder_22 ?_
    refine sw_tope (v2 := x p) (by rw [hx]) ?_
    refine sw_bipush X (nI 48) dX4_readOrder_23 (by decide) ?_
    refine sw_isub X dX4_readOrder_25 ?_
    refine pf_X4_179 X dX4_readOrder_26 ?_
    refine sw_aload_0 X dX4_readOrder_29 ?_
    refine sw_dup X dX4_readOrder_30 rfl ?_
    refine gf_X4_167 X dX4_readOrder_31 ?_
    refine sw_tope (v2 := nI p) (by rw [up4, mF_f, va_up_ne _ _ (by omega)]; exact hp) ?_
    refine sw_iconst X (nI 1) dX4_readOrder_34 (by decide) ?_
    refine sw_iadd X dX4_readOrder_35 ?_
    try refine sw_tope (nI_add _ _) ?_
    refine pf_X4_167 X dX4_readOrder_36 ?_
    refine sw_aload_0 X dX4_readOrder_39 ?_
    refine sw_aload_0 X dX4_readOrder_40 ?_
    refine gf_X4_167 X dX4_readOrder_41 ?_
    refine sw_tope (v2 := nI (p + 1)) (by rw [up4, mF_f, va_up_self]) ?_
    refine sw_aload_0 X dX4_readOrder_44 ?_
    refine gf_X4_164 X dX4_readOrder_45 ?_
    refine sw_tope (v2 := nI n) (by simp only [up4, mF_f]; rw [va_up_ne _ _ (by omega), va_up_ne _ _ (by omega)]; exact hl) ?_
    refine sw_icmp_ge X 63 dX4_readOrder_48 (by decide) (fun h48 => ?_) (fun h48 => ?_)
    ·
      exact absurd ((nI_leI (by omega) (by omega)).mp h48) (by omega)
    ·
      refine sw_aload_0 X dX4_readOrder_51 ?_
      refine gf_X4_19 X dX4_readOrder_52 ?_
      refine sw_aload_0 X dX4_readOrder_55 ?_
      refine gf_X4_167 X dX4_readOrder_56 ?_
      refine sw_tope (v2 := nI (p + 1)) (by rw [up4, mF_f, va_up_self]) ?_
      refine ia_8 X rfl (by omega) dX4_readOrder_59 ?_
      refine sw_tope (v2 := nI 103) (by simp only [up4, mF_t]; exact (congrFun hx _).trans hL) ?_
      refine sw_goto X 64 dX4_readOrder_60 (by decide) ?_
      refine pf_X4_182 X dX4_readOrder_64 ?_
      refine sw_aload_0 X dX4_readOrder_67 ?_
      refine sw_dup X dX4_readOrder_68 rfl ?_
      refine gf_X4_167 X dX4_readOrder_69 ?_
      refine sw_tope (v2 := nI (p + 1)) (by rw [up4, mF_f, va_up_ne _ _ (by omega), up4, mF_f, va_up_self]) ?_
      refine sw_iconst X (nI 1) dX4_readOrder_72 (by decide) ?_
      refine sw_iadd X dX4_readOrder_73 ?_
      try refine sw_tope (nI_add _ _) ?_
      refine pf_X4_167 X dX4_readOrder_74 ?_
      refine sw_aload_0 X dX4_readOrder_77 ?_
      refine gf_X4_182 X dX4_readOrder_78 ?_
      refine sw_tope (v2 := nI 103) (by simp only [up4, mF_f]; rw [va_up_ne _ _ (by omega), va_up_self]) ?_
      refine sw_tabInV X 191 dX4_readOrder_81 (q := 5) rfl (by decide) (by decide) ?_
      refine sw_aload_0 X dX4_readOrder_191 ?_
      refine ca_X4_189 X (by decide) dX4_readOrder_192 (Nat.le_of_ble_eq_true rfl) (c_X4_readKey_y (TX_w T _ (by omega)) h3) ?_
      exact sw_zret X Y dX4_readOrder_195 (rfl) (rfl) (rfl)
  ·
    exact absurd h1 h8
set_option maxHeartbeats 4000000 in
set_option maxRecDepth 100000 in
theorem c_X4_readOrder_103_n {G : sv_G} {M : sv_Mem} {x : Nat → Int32} {n p : Nat} (T : TX M x n p) (h1 : nx x n p (nI 48) (nI 50)) (h2 : p + 1 < n) (hL : x (p + 1) = nI 103) (h3 : ¬ dgt x n (p + 2)) : sv_Ct G M_X4_readOrder 4 [.ref (sv_ad G 4 9 0)] M (some (.int (bI False))) (mF (mF (mF (mF (mF M 9 (x p - nI 48)) 8 (nI (p + 1))) 10 (nI 103)) 8 (nI (p + 2))) 11 (-5)) := by
  obtain ⟨hx, hl, hn, hp, hpb⟩ := id T
  refine sv_Ct_of (lo := [some (.ref (sv_ad G 4 9 0))]) (pn_X4) rfl (Nat.le_of_ble_eq_true rfl) rfl (fun K X Y => ?_)
  replace X : sv_X G K cX4_readOrder RX4 1 4 := X
  replace Y : sv_Y G K (some .boolean) _ _ := Y
  show sw_W G K 1 0 _ _ _
  refine sw_aload_0 X dX4_readOrder_0 ?_
  refine sw_bipush X (nI 48) dX4_readOrder_1 (by decide) ?_
  refine sw_bipush X (nI 50) dX4_readOrder_3 (by decide) ?_
  refine ca_X4_170 X (by decide) dX4_readOrder_5 (Nat.le_of_ble_eq_true rfl) (c_X4_isNext T) ?_
  refine sw_ifB_ne X 13 dX4_readOrder_8 (by decide) (fun h8 => ?_) (fun h8 => ?_)
  ·
    refine sw_aload_0 X dX4_readOrder_13 ?_
    refine sw_aload_0 X dX4_readOrder_14 ?_
    refine gf_X4_19 X dX4_readOrder_15 ?_
    refine sw_aload_0 X dX4_readOrder_18 ?_
    refine gf_X4_167 X dX4_readOrder_19 ?_
    refine sw_tope hp ?_
    refine ia_8 X rfl (by have := h1.1; omega) dX4_readOrder_22 ?_
    refine sw_tope (v2 := x p) (by rw [hx]) ?_
    refine sw_bipush X (nI 48) dX4_readOrder_23 (by decide) ?_
    refine sw_isub X dX4_readOrder_25 ?_
    refine pf_X4_179 X dX4_readOrder_26 ?_
    refine sw_aload_0 X dX4_readOrder_29 ?_
    refine sw_dup X dX4_readOrder_30 rfl ?_
    refine gf_X4_167 X dX4_readOrder_31 ?_
    refine sw_tope (v2 := nI p) (by rw [up4, mF_f, va_up_ne _ _ (by omega)]; exact hp) ?_
    refine sw_iconst X (nI 1) dX4_readOrder_34 (by decide) ?_
    refine sw_iadd X dX4_readOrder_35 ?_
    try refine sw_tope (nI_add _ _) ?_
    refine pf_X4_167 X dX4_readOrder_36 ?_
    refine sw_aload_0 X dX4_readOrder_39 ?_
    refine sw_aload_0 X dX4_readOrder_40 ?_
    refine gf_X4_167 X dX4_readOrder_41 ?_
    refine sw_tope (v2 := nI (p + 1)) (by rw [up4, mF_f, va_up_self]) ?_
    refine sw_aload_0 X dX4_readOrder_44 ?_
    refine gf_X4_164 X dX4_readOrder_45 ?_
    refine sw_tope (v2 := nI n) (by simp only [up4, mF_f]; rw [va_up_ne _ _ (by omega), va_up_ne _ _ (by omega)]; exact hl) ?_
    refine sw_icmp_ge X 63 dX4_readOrder_48 (by decide) (fun h48 => ?_) (fun h48 => ?_)
    ·
      exact absurd ((nI_leI (by omega) (by omega)).mp h48) (by omega)
    ·
      refine sw_aload_0 X dX4_readOrder_51 ?_
      refine gf_X4_19 X dX4_readOrder_52 ?_
      refine sw_aload_0 X dX4_readOrder_55 ?_
      refine gf_X4_167 X dX4_readOrder_56 ?_
      refine sw_tope (v2 := nI (p + 1)) (by rw [up4, mF_f, va_up_self]) ?_
      refine ia_8 X rfl (by omega) dX4_readOrder_59 ?_
      refine sw_tope (v2 := nI 103) (by simp only [up4, mF_t]; exact (congrFun hx _).trans hL) ?_
      refine sw_goto X 64 dX4_readOrder_60 (by decide) ?_
      refine pf_X4_182 X dX4_readOrder_64 ?_
      refine sw_aload_0 X dX4_readOrder_67 ?_
      refine sw_dup X dX4_readOrder_68 rfl ?_
      refine gf_X4_167 X dX4_readOrder_69 ?_
      refine sw_tope (v2 := nI (p + 1)) (by rw [up4, mF_f, va_up_ne _ _ (by omega), up4, mF_f, va_up_self]) ?_
      refine sw_iconst X (nI 1) dX4_readOrder_72 (by decide) ?_
      refine sw_iadd X dX4_readOrder_73 ?_
      try refine sw_tope (nI_add _ _) ?_
      refine pf_X4_167 X dX4_readOrder_74 ?_
      refine sw_aload_0 X dX4_readOrder_77 ?_
      refine gf_X4_182 X dX4_readOrder_78 ?_
      refine sw_tope (v2 := nI 103) (by simp only [up4, mF_f]; rw [va_up_ne _ _ (by omega), va_up_self]) ?_
      refine sw_tabInV X 191 dX4_readOrder_81 (q := 5) rfl (by decide) (by decide) ?_
      refine sw_aload_0 X dX4_readOrder_191 ?_
      refine ca_X4_189 X (by decide) dX4_readOrder_192 (Nat.le_of_ble_eq_true rfl) (c_X4_readKey_n (TX_w T _ (by omega)) h3) ?_
      exact sw_zret X Y dX4_readOrder_195 (rfl) (rfl) (rfl)
  ·
    exact absurd h1 h8
set_option maxHeartbeats 4000000 in
set_option maxRecDepth 100000 in
theorem c_X4_readOrder_119_k {G : sv_G} {M : sv_Mem} {x : Nat → Int32} {n p : Nat} (T : TX M x n p) (h1 : nx x n p (nI 48) (nI 50)) (h2 : p + 1 < n) (hL : x (p + 1) = nI 119) (h3 : ¬ dgt x n (p + 2)) : sv_Ct G M_X4_readOrder 4 [.ref (sv_ad G 4 9 0)] M (some (.int (bI False))) (mF (mF (mF (mF (mF M 9 (x p - nI 48)) 8 (nI (p + 1))) 10 (nI 119)) 8 (nI (p + 2))) 11 (-5)) := by
  obtain ⟨hx, hl, hn, hp, hpb⟩ := id T
  refine sv_Ct_of (lo := [some (.ref (sv_ad G 4 9 0))]) (pn_X4) rfl (Nat.le_of_ble_eq_true rfl) rfl (fun K X Y => ?_)
  replace X : sv_X G K cX4_readOrder RX4 1 4 := X
  replace Y : sv_Y G K (some .boolean) _ _ := Y
  show sw_W G K 1 0 _ _ _
  refine sw_aload_0 X dX4_readOrder_0 ?_
  refine sw_bipush X (nI 48) dX4_readOrder_1 (by decide) ?_
  refine sw_bipush X (nI 50) dX4_readOrder_3 (by decide) ?_
  refine ca_X4_170 X (by decide) dX4_readOrder_5 (Nat.le_of_ble_eq_true rfl) (c_X4_isNext T) ?_
  refine sw_ifB_ne X 13 dX4_readOrder_8 (by decide) (fun h8 => ?_) (fun h8 => ?_)
  ·
    refine sw_aload_0 X dX4_readOrder_13 ?_
    refine sw_aload_0 X dX4_readOrder_14 ?_
    refine gf_X4_19 X dX4_readOrder_15 ?_
    refine sw_aload_0 X dX4_readOrder_18 ?_
    refine gf_X4_167 X dX4_readOrder_19 ?_
    refine sw_tope hp ?_
    refine ia_8 X rfl (by have := h1.1; omega) dX4_readOrder_22 ?_
    refine sw_tope (v2 := x p) (by rw [hx]) ?_
    refine sw_bipush X (nI 48) dX4_readOrder_23 (by decide) ?_
    refine sw_isub X dX4_readOrder_25 ?_
    refine pf_X4_179 X dX4_readOrder_26 ?_
    refine sw_aload_0 X dX4_readOrder_29 ?_
    refine sw_dup X dX4_readOrder_30 rfl ?_
    refine gf_X4_167 X dX4_readOrder_31 ?_
    refine sw_tope (v2 := nI p) (by rw [up4, mF_f, va_up_ne _ _ (by omega)]; exact hp) ?_
    refine sw_iconst X (nI 1) dX4_readOrder_34 (by decide) ?_
    refine sw_iadd X dX4_readOrder_35 ?_
    try refine sw_tope (nI_add _ _) ?_
    refine pf_X4_167 X dX4_readOrder_36 ?_
    refine sw_aload_0 X dX4_readOrder_39 ?_
    refine sw_aload_0 X dX4_readOrder_40 ?_
    refine gf_X4_167 X dX4_readOrder_41 ?_
    refine sw_tope (v2 := nI (p + 1)) (by rw [up4, mF_f, va_up_self]) ?_
    refine sw_aload_0 X dX4_readOrder_44 ?_
    refine gf_X4_164 X dX4_readOrder_45 ?_
    refine sw_tope (v2 := nI n) (by simp only [up4, mF_f]; rw [va_up_ne _ _ (by omega), va_up_ne _ _ (by omega)]; exact hl) ?_
    refine sw_icmp_ge X 63 dX4_readOrder_48 (by decide) (fun h48 => ?_) (fun h48 => ?_)
    ·
      exact absurd ((nI_leI (by omega) (by omega)).mp h48) (by omega)
    ·
      refine sw_aload_0 X dX4_readOrder_51 ?_
      refine gf_X4_19 X dX4_readOrder_52 ?_
      refine sw_aload_0 X dX4_readOrder_55 ?_
      refine gf_X4_167 X dX4_readOrder_56 ?_
      refine sw_tope (v2 := nI (p + 1)) (by rw [up4, mF_f, va_up_self]) ?_
      refine ia_8 X rfl (by omega) dX4_readOrder_59 ?_
      refine sw_tope (v2 := nI 119) (by simp only [up4, mF_t]; exact (congrFun hx _).trans hL) ?_
      refine sw_goto X 64 dX4_readOrder_60 (by decide) ?_
      refine pf_X4_182 X dX4_readOrder_64 ?_
      refine sw_aload_0 X dX4_readOrder_67 ?_
      refine sw_dup X dX4_readOrder_68 rfl ?_
      refine gf_X4_167 X dX4_readOrder_69 ?_
      refine sw_tope (v2 := nI (p + 1)) (by rw [up4, mF_f, va_up_ne _ _ (by omega), up4, mF_f, va_up_self]) ?_
      refine sw_iconst X (nI 1) dX4_readOrder_72 (by decide) ?_
      refine sw_iadd X dX4_readOrder_73 ?_
      try refine sw_tope (nI_add _ _) ?_
      refine pf_X4_167 X dX4_readOrder_74 ?_
      refine sw_aload_0 X dX4_readOrder_77 ?_
      refine gf_X4_182 X dX4_readOrder_78 ?_
      refine sw_tope (v2 := nI 119) (by simp only [up4, mF_f]; rw [va_up_ne _ _ (by omega), va_up_self]) ?_
      refine sw_tabInV X 196 dX4_readOrder_81 (q := 21) rfl (by decide) (by decide) ?_
      refine sw_aload_0 X dX4_readOrder_196 ?_
      refine ca_X4_189 X (by decide) dX4_readOrder_197 (Nat.le_of_ble_eq_true rfl) (c_X4_readKey_n (TX_w T _ (by omega)) h3) ?_
      refine sw_ifB_eq X 212 dX4_readOrder_200 (by decide) (fun h200 => ?_) (fun h200 => ?_)
      ·
        refine sw_iconst X (nI 0) dX4_readOrder_212 (by decide) ?_
        exact sw_zret X Y dX4_readOrder_213 (rfl) (rfl) (rfl)
      ·
        exact absurd h200 id
  ·
    exact absurd h1 h8
set_option maxHeartbeats 4000000 in
set_option maxRecDepth 100000 in
theorem c_X4_readOrder_119_e {G : sv_G} {M : sv_Mem} {x : Nat → Int32} {n p : Nat} (T : TX M x n p) (h1 : nx x n p (nI 48) (nI 50)) (h2 : p + 1 < n) (hL : x (p + 1) = nI 119) {p3 v3 : Nat} (h3 : dgt x n (p + 2)) (hE : rnE x n 15 (p + 2) = (p3, v3)) (hp3 : p3 ≤ n) (h4 : ¬ nx x n p3 (nI 61) (nI 61)) : sv_Ct G M_X4_readOrder 4 [.ref (sv_ad G 4 9 0)] M (some (.int (bI False))) (mF (mF (mF (mF (mF (mF M 9 (x p - nI 48)) 8 (nI (p + 1))) 10 (nI 119)) 8 (nI (p + 2))) 8 (nI p3)) 11 (nI v3)) := by
  obtain ⟨hx, hl, hn, hp, hpb⟩ := id T
  refine sv_Ct_of (lo := [some (.ref (sv_ad G 4 9 0))]) (pn_X4) rfl (Nat.le_of_ble_eq_true rfl) rfl (fun K X Y => ?_)
  replace X : sv_X G K cX4_readOrder RX4 1 4 := X
  replace Y : sv_Y G K (some .boolean) _ _ := Y
  show sw_W G K 1 0 _ _ _
  refine sw_aload_0 X dX4_readOrder_0 ?_
  refine sw_bipush X (nI 48) dX4_readOrder_1 (by decide) ?_
  refine sw_bipush X (nI 50) dX4_readOrder_3 (by decide) ?_
  refine ca_X4_170 X (by decide) dX4_readOrder_5 (Nat.le_of_ble_eq_true rfl) (c_X4_isNext T) ?_
  refine sw_ifB_ne X 13 dX4_readOrder_8 (by decide) (fun h8 => ?_) (fun h8 => ?_)
  ·
    refine sw_aload_0 X dX4_readOrder_13 ?_
    refine sw_aload_0 X dX4_readOrder_14 ?_
    refine gf_X4_19 X dX4_readOrder_15 ?_
    refine sw_aload_0 X dX4_readOrder_18 ?_
    refine gf_X4_167 X dX4_readOrder_19 ?_
    refine sw_tope hp ?_
    refine ia_8 X rfl (by have := h1.1; omega) dX4_readOrder_22 ?_
    refine sw_tope (v2 := x p) (by rw [hx]) ?_
    refine sw_bipush X (nI 48) dX4_readOrder_23 (by decide) ?_
    refine sw_isub X dX4_readOrder_25 ?_
    refine pf_X4_179 X dX4_readOrder_26 ?_
    refine sw_aload_0 X dX4_readOrder_29 ?_
    refine sw_dup X dX4_readOrder_30 rfl ?_
    refine gf_X4_167 X dX4_readOrder_31 ?_
    refine sw_tope (v2 := nI p) (by rw [up4, mF_f, va_up_ne _ _ (by omega)]; exact hp) ?_
    refine sw_iconst X (nI 1) dX4_readOrder_34 (by decide) ?_
    refine sw_iadd X dX4_readOrder_35 ?_
    try refine sw_tope (nI_add _ _) ?_
    refine pf_X4_167 X dX4_readOrder_36 ?_
    refine sw_aload_0 X dX4_readOrder_39 ?_
    refine sw_aload_0 X dX4_readOrder_40 ?_
    refine gf_X4_167 X dX4_readOrder_41 ?_
    refine sw_tope (v2 := nI (p + 1)) (by rw [up4, mF_f, va_up_self]) ?_
    refine sw_aload_0 X dX4_readOrder_44 ?_
    refine gf_X4_164 X dX4_readOrder_45 ?_
    refine sw_tope (v2 := nI n) (by simp only [up4, mF_f]; rw [va_up_ne _ _ (by omega), va_up_ne _ _ (by omega)]; exact hl) ?_
    refine sw_icmp_ge X 63 dX4_readOrder_48 (by decide) (fun h48 => ?_) (fun h48 => ?_)
    ·
      exact absurd ((nI_leI (by omega) (by omega)).mp h48) (by omega)
    ·
      refine sw_aload_0 X dX4_readOrder_51 ?_
      refine gf_X4_19 X dX4_readOrder_52 ?_
      refine sw_aload_0 X dX4_readOrder_55 ?_
      refine gf_X4_167 X dX4_readOrder_56 ?_
      refine sw_tope (v2 := nI (p + 1)) (by rw [up4, mF_f, va_up_self]) ?_
      refine ia_8 X rfl (by omega) dX4_readOrder_59 ?_
      refine sw_tope (v2 := nI 119) (by simp only [up4, mF_t]; exact (congrFun hx _).trans hL) ?_
      refine sw_goto X 64 dX4_readOrder_60 (by decide) ?_
      refine pf_X4_182 X dX4_readOrder_64 ?_
      refine sw_aload_0 X dX4_readOrder_67 ?_
      refine sw_dup X dX4_readOrder_68 rfl ?_
      refine gf_X4_167 X dX4_readOrder_69 ?_
      refine sw_tope (v2 := nI (p + 1)) (by rw [up4, mF_f, va_up_ne _ _ (by omega), up4, mF_f, va_up_self]) ?_
      refine sw_iconst X (nI 1) dX4_readOrder_72 (by decide) ?_
      refine sw_iadd X dX4_readOrder_73 ?_
      try refine sw_tope (nI_add _ _) ?_
      refine pf_X4_167 X dX4_readOrder_74 ?_
      refine sw_aload_0 X dX4_readOrder_77 ?_
      refine gf_X4_182 X dX4_readOrder_78 ?_
      refine sw_tope (v2 := nI 119) (by simp only [up4, mF_f]; rw [va_up_ne _ _ (by omega), va_up_self]) ?_
      refine sw_tabInV X 196 dX4_readOrder_81 (q := 21) rfl (by decide) (by decide) ?_
      refine sw_aload_0 X dX4_readOrder_196 ?_
      refine ca_X4_189 X (by decide) dX4_readOrder_197 (Nat.le_of_ble_eq_true rfl) (c_X4_readKey_y (TX_w T _ (by omega)) h3) ?_
      refine sw_ifB_eq X 212 dX4_readOrder_200 (by decide) (fun h200 => ?_) (fun h200 => ?_)
      ·
        exact absurd trivial h200
      ·
        simp only [hE]
        refine sw_aload_0 X dX4_readOrder_203 ?_
        refine sw_bipush X (nI 61) dX4_readOrder_204 (by decide) ?_
        refine ca_X4_192 X (by decide) dX4_readOrder_206 (Nat.le_of_ble_eq_true rfl) (c_X4_passes_n (TX_o (TX_8 (TX_w T _ (by omega)) (by omega)) (by omega) (by omega)) h4) ?_
        refine sw_ifB_ne X 214 dX4_readOrder_209 (by decide) (fun h209 => ?_) (fun h209 => ?_)
        ·
          exact absurd h209 h4
        ·
          refine sw_iconst X (nI 0) dX4_readOrder_212 (by decide) ?_
          exact sw_zret X Y dX4_readOrder_213 (rfl) (rfl) (rfl)
  ·
    exact absurd h1 h8
set_option maxHeartbeats 4000000 in
set_option maxRecDepth 100000 in
theorem c_X4_readOrder_119_v {G : sv_G} {M : sv_Mem} {x : Nat → Int32} {n p : Nat} (T : TX M x n p) (h1 : nx x n p (nI 48) (nI 50)) (h2 : p + 1 < n) (hL : x (p + 1) = nI 119) {p3 v3 : Nat} (h3 : dgt x n (p + 2)) (hE : rnE x n 15 (p + 2) = (p3, v3)) (hp3 : p3 ≤ n) (h4 : nx x n p3 (nI 61) (nI 61)) (h5 : ¬ dgt x n (p3 + 1)) : sv_Ct G M_X4_readOrder 4 [.ref (sv_ad G 4 9 0)] M (some (.int (bI False))) (mF (mF (mF (mF (mF (mF (mF (mF M 9 (x p - nI 48)) 8 (nI (p + 1))) 10 (nI 119)) 8 (nI (p + 2))) 8 (nI p3)) 11 (nI v3)) 8 (nI (p3 + 1))) 12 (-5)) := by
  obtain ⟨hx, hl, hn, hp, hpb⟩ := id T
  refine sv_Ct_of (lo := [some (.ref (sv_ad G 4 9 0))]) (pn_X4) rfl (Nat.le_of_ble_eq_true rfl) rfl (fun K X Y => ?_)
  replace X : sv_X G K cX4_readOrder RX4 1 4 := X
  replace Y : sv_Y G K (some .boolean) _ _ := Y
  show sw_W G K 1 0 _ _ _
  refine sw_aload_0 X dX4_readOrder_0 ?_
  refine sw_bipush X (nI 48) dX4_readOrder_1 (by decide) ?_
  refine sw_bipush X (nI 50) dX4_readOrder_3 (by decide) ?_
  refine ca_X4_170 X (by decide) dX4_readOrder_5 (Nat.le_of_ble_eq_true rfl) (c_X4_isNext T) ?_
  refine sw_ifB_ne X 13 dX4_readOrder_8 (by decide) (fun h8 => ?_) (fun h8 => ?_)
  ·
    refine sw_aload_0 X dX4_readOrder_13 ?_
    refine sw_aload_0 X dX4_readOrder_14 ?_
    refine gf_X4_19 X dX4_readOrder_15 ?_
    refine sw_aload_0 X dX4_readOrder_18 ?_
    refine gf_X4_167 X dX4_readOrder_19 ?_
    refine sw_tope hp ?_
    refine ia_8 X rfl (by have := h1.1; omega) dX4_readOrder_22 ?_
    refine sw_tope (v2 := x p) (by rw [hx]) ?_
    refine sw_bipush X (nI 48) dX4_readOrder_23 (by decide) ?_
    refine sw_isub X dX4_readOrder_25 ?_
    refine pf_X4_179 X dX4_readOrder_26 ?_
    refine sw_aload_0 X dX4_readOrder_29 ?_
    refine sw_dup X dX4_readOrder_30 rfl ?_
    refine gf_X4_167 X dX4_readOrder_31 ?_
    refine sw_tope (v2 := nI p) (by rw [up4, mF_f, va_up_ne _ _ (by omega)]; exact hp) ?_
    refine sw_iconst X (nI 1) dX4_readOrder_34 (by decide) ?_
    refine sw_iadd X dX4_readOrder_35 ?_
    try refine sw_tope (nI_add _ _) ?_
    refine pf_X4_167 X dX4_readOrder_36 ?_
    refine sw_aload_0 X dX4_readOrder_39 ?_
    refine sw_aload_0 X dX4_readOrder_40 ?_
    refine gf_X4_167 X dX4_readOrder_41 ?_
    refine sw_tope (v2 := nI (p + 1)) (by rw [up4, mF_f, va_up_self]) ?_
    refine sw_aload_0 X dX4_readOrder_44 ?_
    refine gf_X4_164 X dX4_readOrder_45 ?_
    refine sw_tope (v2 := nI n) (by simp only [up4, mF_f]; rw [va_up_ne _ _ (by omega), va_up_ne _ _ (by omega)]; exact hl) ?_
    refine sw_icmp_ge X 63 dX4_readOrder_48 (by decide) (fun h48 => ?_) (fun h48 => ?_)
    ·
      exact absurd ((nI_leI (by omega) (by omega)).mp h48) (by omega)
    ·
      refine sw_aload_0 X dX4_readOrder_51 ?_
      refine gf_X4_19 X dX4_readOrder_52 ?_
      refine sw_aload_0 X dX4_readOrder_55 ?_
      refine gf_X4_167 X dX4_readOrder_56 ?_
      refine sw_tope (v2 := nI (p + 1)) (by rw [up4, mF_f, va_up_self]) ?_
      refine ia_8 X rfl (by omega) dX4_readOrder_59 ?_
      refine sw_tope (v2 := nI 119) (by simp only [up4, mF_t]; exact (congrFun hx _).trans hL) ?_
      refine sw_goto X 64 dX4_readOrder_60 (by decide) ?_
      refine pf_X4_182 X dX4_readOrder_64 ?_
      refine sw_aload_0 X dX4_readOrder_67 ?_
      refine sw_dup X dX4_readOrder_68 rfl ?_
      refine gf_X4_167 X dX4_readOrder_69 ?_
      refine sw_tope (v2 := nI (p + 1)) (by rw [up4, mF_f, va_up_ne _ _ (by omega), up4, mF_f, va_up_self]) ?_
      refine sw_iconst X (nI 1) dX4_readOrder_72 (by decide) ?_
      refine sw_iadd X dX4_readOrder_73 ?_
      try refine sw_tope (nI_add _ _) ?_
      refine pf_X4_167 X dX4_readOrder_74 ?_
      refine sw_aload_0 X dX4_readOrder_77 ?_
      refine gf_X4_182 X dX4_readOrder_78 ?_
      refine sw_tope (v2 := nI 119) (by simp only [up4, mF_f]; rw [va_up_ne _ _ (by omega), va_up_self]) ?_
      refine sw_tabInV X 196 dX4_readOrder_81 (q := 21) rfl (by decide) (by decide) ?_
      refine sw_aload_0 X dX4_readOrder_196 ?_
      refine ca_X4_189 X (by decide) dX4_readOrder_197 (Nat.le_of_ble_eq_true rfl) (c_X4_readKey_y (TX_w T _ (by omega)) h3) ?_
      refine sw_ifB_eq X 212 dX4_readOrder_200 (by decide) (fun h200 => ?_) (fun h200 => ?_)
      ·
        exact absurd trivial h200
      ·
        simp only [hE]
        refine sw_aload_0 X dX4_readOrder_203 ?_
        refine sw_bipush X (nI 61) dX4_readOrder_204 (by decide) ?_
        refine ca_X4_192 X (by decide) dX4_readOrder_206 (Nat.le_of_ble_eq_true rfl) (c_X4_passes_y (TX_o (TX_8 (TX_w T _ (by omega)) (by omega)) (by omega) (by omega)) h4) ?_
        refine sw_ifB_ne X 214 dX4_readOrder_209 (by decide) (fun h209 => ?_) (fun h209 => ?_)
        ·
          refine sw_aload_0 X dX4_readOrder_214 ?_
          refine sw_aload_0 X dX4_readOrder_215 ?_
          refine sw_sipush X (nI 9999) dX4_readOrder_216 (by decide) ?_
          refine ca_X4_176 X (by decide) dX4_readOrder_219 (Nat.le_of_ble_eq_true rfl) (c_X4_readNumber_n (TX_8 (TX_o (TX_8 (TX_w T _ (by omega)) (by omega)) (by omega) (by omega)) (by omega)) h5) ?_
          refine pf_X4_195 X dX4_readOrder_222 ?_
          refine sw_aload_0 X dX4_readOrder_225 ?_
          refine gf_X4_195 X dX4_readOrder_226 ?_
          refine sw_tope (v2 := -5) (by rw [up4, mF_f, va_up_self]) ?_
          refine sw_bipush X (-5) dX4_readOrder_229 (by decide) ?_
          refine sw_icmp_eq X 238 dX4_readOrder_231 (by decide) (fun h231 => ?_) (fun h231 => ?_)
          ·
            refine sw_iconst X (nI 0) dX4_readOrder_238 (by decide) ?_
            exact sw_zret X Y dX4_readOrder_239 (rfl) (rfl) (rfl)
          ·
            exact absurd rfl h231
        ·
          exact absurd h4 h209
  ·
    exact absurd h1 h8
set_option maxHeartbeats 4000000 in
set_option maxRecDepth 100000 in
theorem c_X4_readOrder_119_y {G : sv_G} {M : sv_Mem} {x : Nat → Int32} {n p : Nat} (T : TX M x n p) (h1 : nx x n p (nI 48) (nI 50)) (h2 : p + 1 < n) (hL : x (p + 1) = nI 119) {p3 v3 : Nat} (h3 : dgt x n (p + 2)) (hE : rnE x n 15 (p + 2) = (p3, v3)) (hp3 : p3 ≤ n) (h4 : nx x n p3 (nI 61) (nI 61)) (h5 : dgt x n (p3 + 1)) : sv_Ct G M_X4_readOrder 4 [.ref (sv_ad G 4 9 0)] M (some (.int (bI True))) (mF (mF (mF (mF (mF (mF (mF (mF (mF M 9 (x p - nI 48)) 8 (nI (p + 1))) 10 (nI 119)) 8 (nI (p + 2))) 8 (nI p3)) 11 (nI v3)) 8 (nI (p3 + 1))) 8 (nI (rnE x n 9999 (p3 + 1)).1)) 12 (nI (rnE x n 9999 (p3 + 1)).2)) := by
  obtain ⟨hx, hl, hn, hp, hpb⟩ := id T
  refine sv_Ct_of (lo := [some (.ref (sv_ad G 4 9 0))]) (pn_X4) rfl (Nat.le_of_ble_eq_true rfl) rfl (fun K X Y => ?_)
  replace X : sv_X G K cX4_readOrder RX4 1 4 := X
  replace Y : sv_Y G K (some .boolean) _ _ := Y
  show sw_W G K 1 0 _ _ _
  refine sw_aload_0 X dX4_readOrder_0 ?_
  refine sw_bipush X (nI 48) dX4_readOrder_1 (by decide) ?_
  refine sw_bipush X (nI 50) dX4_readOrder_3 (by decide) ?_
  refine ca_X4_170 X (by decide) dX4_readOrder_5 (Nat.le_of_ble_eq_true rfl) (c_X4_isNext T) ?_
  refine sw_ifB_ne X 13 dX4_readOrder_8 (by decide) (fun h8 => ?_) (fun h8 => ?_)
  ·
    refine sw_aload_0 X dX4_readOrder_13 ?_
    refine sw_aload_0 X dX4_readOrder_14 ?_
    refine gf_X4_19 X dX4_readOrder_15 ?_
    refine sw_aload_0 X dX4_readOrder_18 ?_
    refine gf_X4_167 X dX4_readOrder_19 ?_
    refine sw_tope hp ?_
    refine ia_8 X rfl (by have := h1.1; omega) dX4_readOrder_22 ?_
    refine sw_tope (v2 := x p) (by rw [hx]) ?_
    refine sw_bipush X (nI 48) dX4_readOrder_23 (by decide) ?_
    refine sw_isub X dX4_readOrder_25 ?_
    refine pf_X4_179 X dX4_readOrder_26 ?_
    refine sw_aload_0 X dX4_readOrder_29 ?_
    refine sw_dup X dX4_readOrder_30 rfl ?_
    refine gf_X4_167 X dX4_readOrder_31 ?_
    refine sw_tope (v2 := nI p) (by rw [up4, mF_f, va_up_ne _ _ (by omega)]; exact hp) ?_
    refine sw_iconst X (nI 1) dX4_readOrder_34 (by decide) ?_
    refine sw_iadd X dX4_readOrder_35 ?_
    try refine sw_tope (nI_add _ _) ?_
    refine pf_X4_167 X dX4_readOrder_36 ?_
    refine sw_aload_0 X dX4_readOrder_39 ?_
    refine sw_aload_0 X dX4_readOrder_40 ?_
    refine gf_X4_167 X dX4_readOrder_41 ?_
    refine sw_tope (v2 := nI (p + 1)) (by rw [up4, mF_f, va_up_self]) ?_
    refine sw_aload_0 X dX4_readOrder_44 ?_
    refine gf_X4_164 X dX4_readOrder_45 ?_
    refine sw_tope (v2 := nI n) (by simp only [up4, mF_f]; rw [va_up_ne _ _ (by omega), va_up_ne _ _ (by omega)]; exact hl) ?_
    refine sw_icmp_ge X 63 dX4_readOrder_48 (by decide) (fun h48 => ?_) (fun h48 => ?_)
    ·
      exact absurd ((nI_leI (by omega) (by omega)).mp h48) (by omega)
    ·
      refine sw_aload_0 X dX4_readOrder_51 ?_
      refine gf_X4_19 X dX4_readOrder_52 ?_
      refine sw_aload_0 X dX4_readOrder_55 ?_
      refine gf_X4_167 X dX4_readOrder_56 ?_
      refine sw_tope (v2 := nI (p + 1)) (by rw [up4, mF_f, va_up_self]) ?_
      refine ia_8 X rfl (by omega) dX4_readOrder_59 ?_
      refine sw_tope (v2 := nI 119) (by simp only [up4, mF_t]; exact (congrFun hx _).trans hL) ?_
      refine sw_goto X 64 dX4_readOrder_60 (by decide) ?_
      refine pf_X4_182 X dX4_readOrder_64 ?_
      refine sw_aload_0 X dX4_readOrder_67 ?_
      refine sw_dup X dX4_readOrder_68 rfl ?_
      refine gf_X4_167 X dX4_readOrder_69 ?_
      refine sw_tope (v2 := nI (p + 1)) (by rw [up4, mF_f, va_up_ne _ _ (by omega), up4, mF_f, va_up_self]) ?_
      refine sw_iconst X (nI 1) dX4_readOrder_72 (by decide) ?_
      refine sw_iadd X dX4_readOrder_73 ?_
      try refine sw_tope (nI_add _ _) ?_
      refine pf_X4_167 X dX4_readOrder_74 ?_
      refine sw_aload_0 X dX4_readOrder_77 ?_
      refine gf_X4_182 X dX4_readOrder_78 ?_
      refine sw_tope (v2 := nI 119) (by simp only [up4, mF_f]; rw [va_up_ne _ _ (by omega), va_up_self]) ?_
      refine sw_tabInV X 196 dX4_readOrder_81 (q := 21) rfl (by decide) (by decide) ?_
      refine sw_aload_0 X dX4_readOrder_196 ?_
      refine ca_X4_189 X (by decide) dX4_readOrder_197 (Nat.le_of_ble_eq_true rfl) (c_X4_readKey_y (TX_w T _ (by omega)) h3) ?_
      refine sw_ifB_eq X 212 dX4_readOrder_200 (by decide) (fun h200 => ?_) (fun h200 => ?_)
      ·
        exact absurd trivial h200
      ·
        simp only [hE]
        refine sw_aload_0 X dX4_readOrder_203 ?_
        refine sw_bipush X (nI 61) dX4_readOrder_204 (by decide) ?_
        refine ca_X4_192 X (by decide) dX4_readOrder_206 (Nat.le_of_ble_eq_true rfl) (c_X4_passes_y (TX_o (TX_8 (TX_w T _ (by omega)) (by omega)) (by omega) (by omega)) h4) ?_
        refine sw_ifB_ne X 214 dX4_readOrder_209 (by decide) (fun h209 => ?_) (fun h209 => ?_)
        ·
          refine sw_aload_0 X dX4_readOrder_214 ?_
          refine sw_aload_0 X dX4_readOrder_215 ?_
          refine sw_sipush X (nI 9999) dX4_readOrder_216 (by decide) ?_
          refine ca_X4_176 X (by decide) dX4_readOrder_219 (Nat.le_of_ble_eq_true rfl) (c_X4_readNumber_y (TX_8 (TX_o (TX_8 (TX_w T _ (by omega)) (by omega)) (by omega) (by omega)) (by omega)) h5 (by omega) (by omega)) ?_
          refine pf_X4_195 X dX4_readOrder_222 ?_
          refine sw_aload_0 X dX4_readOrder_225 ?_
          refine gf_X4_195 X dX4_readOrder_226 ?_
          refine sw_tope (v2 := nI (rnE x n 9999 (p3 + 1)).2) (by rw [up4, mF_f, va_up_self]) ?_
          refine sw_bipush X (-5) dX4_readOrder_229 (by decide) ?_
          refine sw_icmp_eq X 238 dX4_readOrder_231 (by decide) (fun h231 => ?_) (fun h231 => ?_)
          ·
            exact absurd h231 (fun z => nI_pos (n := (rnE x n 9999 (p3 + 1)).2) (by have := (rnE_le (most := 9999) h5 (by omega)).2.2; omega) (by rw [z]; decide))
          ·
            refine sw_iconst X (nI 1) dX4_readOrder_234 (by decide) ?_
            refine sw_goto X 239 dX4_readOrder_235 (by decide) ?_
            exact sw_zret X Y dX4_readOrder_239 (rfl) (rfl) (rfl)
        ·
          exact absurd h4 h209
  ·
    exact absurd h1 h8
set_option maxHeartbeats 4000000 in
set_option maxRecDepth 100000 in
theorem c_X4_readOrder_s {G : sv_G} {M : sv_Mem} {x : Nat → Int32} {n p : Nat} (T : TX M x n p) (h1 : ¬ nx x n p (nI 48) (nI 50)) : sv_Ct G M_X4_readOrder 4 [.ref (sv_ad G 4 9 0)] M (some (.int (bI False))) (M) := by
  obtain ⟨hx, hl, hn, hp, hpb⟩ := id T
  refine sv_Ct_of (lo := [some (.ref (sv_ad G 4 9 0))]) (pn_X4) rfl (Nat.le_of_ble_eq_true rfl) rfl (fun K X Y => ?_)
  replace X : sv_X G K cX4_readOrder RX4 1 4 := X
  replace Y : sv_Y G K (some .boolean) _ _ := Y
  show sw_W G K 1 0 _ _ _
  refine sw_aload_0 X dX4_readOrder_0 ?_
  refine sw_bipush X (nI 48) dX4_readOrder_1 (by decide) ?_
  refine sw_bipush X (nI 50) dX4_readOrder_3 (by decide) ?_
  refine ca_X4_170 X (by decide) dX4_readOrder_5 (Nat.le_of_ble_eq_true rfl) (c_X4_isNext T) ?_
  refine sw_ifB_ne X 13 dX4_readOrder_8 (by decide) (fun h8 => ?_) (fun h8 => ?_)
  ·
    exact absurd h8 h1
  ·
    refine sw_iconst X (nI 0) dX4_readOrder_11 (by decide) ?_
    exact sw_zret X Y dX4_readOrder_12 (rfl) (rfl) (rfl)
set_option maxHeartbeats 4000000 in
set_option maxRecDepth 100000 in
theorem c_X4_readOrder_l {G : sv_G} {M : sv_Mem} {x : Nat → Int32} {n p : Nat} (T : TX M x n p) (h1 : nx x n p (nI 48) (nI 50)) (h2 : ¬ p + 1 < n) : sv_Ct G M_X4_readOrder 4 [.ref (sv_ad G 4 9 0)] M (some (.int (bI False))) (mF (mF (mF (mF (mF M 9 (x p - nI 48)) 8 (nI (p + 1))) 10 (nI 0)) 8 (nI (p + 2))) 8 (nI (p + 1))) := by
  obtain ⟨hx, hl, hn, hp, hpb⟩ := id T
  refine sv_Ct_of (lo := [some (.ref (sv_ad G 4 9 0))]) (pn_X4) rfl (Nat.le_of_ble_eq_true rfl) rfl (fun K X Y => ?_)
  replace X : sv_X G K cX4_readOrder RX4 1 4 := X
  replace Y : sv_Y G K (some .boolean) _ _ := Y
  show sw_W G K 1 0 _ _ _
  refine sw_aload_0 X dX4_readOrder_0 ?_
  refine sw_bipush X (nI 48) dX4_readOrder_1 (by decide) ?_
  refine sw_bipush X (nI 50) dX4_readOrder_3 (by decide) ?_
  refine ca_X4_170 X (by decide) dX4_readOrder_5 (Nat.le_of_ble_eq_true rfl) (c_X4_isNext T) ?_
  refine sw_ifB_ne X 13 dX4_readOrder_8 (by decide) (fun h8 => ?_) (fun h8 => ?_)
  ·
    refine sw_aload_0 X dX4_readOrder_13 ?_
    refine sw_aload_0 X dX4_readOrder_14 ?_
    refine gf_X4_19 X dX4_readOrder_15 ?_
    refine sw_aload_0 X dX4_readOrder_18 ?_
    refine gf_X4_167 X dX4_readOrder_19 ?_
    refine sw_tope hp ?_
    refine ia_8 X rfl (by have := h1.1; omega) dX4_readOrder_22 ?_
    refine sw_tope (v2 := x p) (by rw [hx]) ?_
    refine sw_bipush X (nI 48) dX4_readOrder_23 (by decide) ?_
    refine sw_isub X dX4_readOrder_25 ?_
    refine pf_X4_179 X dX4_readOrder_26 ?_
    refine sw_aload_0 X dX4_readOrder_29 ?_
    refine sw_dup X dX4_readOrder_30 rfl ?_
    refine gf_X4_167 X dX4_readOrder_31 ?_
    refine sw_tope (v2 := nI p) (by rw [up4, mF_f, va_up_ne _ _ (by omega)]; exact hp) ?_
    refine sw_iconst X (nI 1) dX4_readOrder_34 (by decide) ?_
    refine sw_iadd X dX4_readOrder_35 ?_
    try refine sw_tope (nI_add _ _) ?_
    refine pf_X4_167 X dX4_readOrder_36 ?_
    refine sw_aload_0 X dX4_readOrder_39 ?_
    refine sw_aload_0 X dX4_readOrder_40 ?_
    refine gf_X4_167 X dX4_readOrder_41 ?_
    refine sw_tope (v2 := nI (p + 1)) (by rw [up4, mF_f, va_up_self]) ?_
    refine sw_aload_0 X dX4_readOrder_44 ?_
    refine gf_X4_164 X dX4_readOrder_45 ?_
    refine sw_tope (v2 := nI n) (by simp only [up4, mF_f]; rw [va_up_ne _ _ (by omega), va_up_ne _ _ (by omega)]; exact hl) ?_
    refine sw_icmp_ge X 63 dX4_readOrder_48 (by decide) (fun h48 => ?_) (fun h48 => ?_)
    ·
      refine sw_iconst X (nI 0) dX4_readOrder_63 (by decide) ?_
      refine pf_X4_182 X dX4_readOrder_64 ?_
      refine sw_aload_0 X dX4_readOrder_67 ?_
      refine sw_dup X dX4_readOrder_68 rfl ?_
      refine gf_X4_167 X dX4_readOrder_69 ?_
      refine sw_tope (v2 := nI (p + 1)) (by rw [up4, mF_f, va_up_ne _ _ (by omega), up4, mF_f, va_up_self]) ?_
      refine sw_iconst X (nI 1) dX4_readOrder_72 (by decide) ?_
      refine sw_iadd X dX4_readOrder_73 ?_
      try refine sw_tope (nI_add _ _) ?_
      refine pf_X4_167 X dX4_readOrder_74 ?_
      refine sw_aload_0 X dX4_readOrder_77 ?_
      refine gf_X4_182 X dX4_readOrder_78 ?_
      refine sw_tope (v2 := nI 0) (by simp only [up4, mF_f]; rw [va_up_ne _ _ (by omega), va_up_self]) ?_
      refine sw_tabOut X 240 dX4_readOrder_81 (by decide) (by decide) ?_
      refine sw_aload_0 X dX4_readOrder_240 ?_
      refine sw_dup X dX4_readOrder_241 rfl ?_
      refine gf_X4_167 X dX4_readOrder_242 ?_
      refine sw_tope (v2 := nI (p + 2)) (by simp only [up4, mF_f]; rw [va_up_self]) ?_
      refine sw_iconst X (nI 1) dX4_readOrder_245 (by decide) ?_
      refine sw_isub X dX4_readOrder_246 ?_
      refine sw_tope (v2 := nI (p + 1)) (by rw [show p + 2 = (p + 1) + 1 from rfl]; rw [pk_sub (by omega)]; rfl) ?_
      refine pf_X4_167 X dX4_readOrder_247 ?_
      refine sw_iconst X (nI 0) dX4_readOrder_250 (by decide) ?_
      exact sw_zret X Y dX4_readOrder_251 (rfl) (rfl) (rfl)
    ·
      exact absurd ((nI_leI (by omega) (by omega)).mpr (by omega)) h48
  ·
    exact absurd h1 h8
set_option maxHeartbeats 4000000 in
set_option maxRecDepth 100000 in
theorem c_X4_readOrder_b {G : sv_G} {M : sv_Mem} {x : Nat → Int32} {n p : Nat} (T : TX M x n p) (h1 : nx x n p (nI 48) (nI 50)) (h2 : p + 1 < n) (hB : x (p + 1) ≠ nI 98 ∧ x (p + 1) ≠ nI 99 ∧ x (p + 1) ≠ nI 114 ∧ x (p + 1) ≠ nI 115 ∧ x (p + 1) ≠ nI 117 ∧ x (p + 1) ≠ nI 100 ∧ x (p + 1) ≠ nI 101 ∧ x (p + 1) ≠ nI 103 ∧ x (p + 1) ≠ nI 119) : sv_Ct G M_X4_readOrder 4 [.ref (sv_ad G 4 9 0)] M (some (.int (bI False))) (mF (mF (mF (mF (mF M 9 (x p - nI 48)) 8 (nI (p + 1))) 10 (x (p + 1))) 8 (nI (p + 2))) 8 (nI (p + 1))) := by
  obtain ⟨hx, hl, hn, hp, hpb⟩ := id T
  have hL : x (p + 1) = x (p + 1) := rfl
  refine sv_Ct_of (lo := [some (.ref (sv_ad G 4 9 0))]) (pn_X4) rfl (Nat.le_of_ble_eq_true rfl) rfl (fun K X Y => ?_)
  replace X : sv_X G K cX4_readOrder RX4 1 4 := X
  replace Y : sv_Y G K (some .boolean) _ _ := Y
  show sw_W G K 1 0 _ _ _
  refine sw_aload_0 X dX4_readOrder_0 ?_
  refine sw_bipush X (nI 48) dX4_readOrder_1 (by decide) ?_
  refine sw_bipush X (nI 50) dX4_readOrder_3 (by decide) ?_
  refine ca_X4_170 X (by decide) dX4_readOrder_5 (Nat.le_of_ble_eq_true rfl) (c_X4_isNext T) ?_
  refine sw_ifB_ne X 13 dX4_readOrder_8 (by decide) (fun h8 => ?_) (fun h8 => ?_)
  ·
    refine sw_aload_0 X dX4_readOrder_13 ?_
    refine sw_aload_0 X dX4_readOrder_14 ?_
    refine gf_X4_19 X dX4_readOrder_15 ?_
    refine sw_aload_0 X dX4_readOrder_18 ?_
    refine gf_X4_167 X dX4_readOrder_19 ?_
    refine sw_tope hp ?_
    refine ia_8 X rfl (by have := h1.1; omega) dX4_readOrder_22 ?_
    refine sw_tope (v2 := x p) (by rw [hx]) ?_
    refine sw_bipush X (nI 48) dX4_readOrder_23 (by decide) ?_
    refine sw_isub X dX4_readOrder_25 ?_
    refine pf_X4_179 X dX4_readOrder_26 ?_
    refine sw_aload_0 X dX4_readOrder_29 ?_
    refine sw_dup X dX4_readOrder_30 rfl ?_
    refine gf_X4_167 X dX4_readOrder_31 ?_
    refine sw_tope (v2 := nI p) (by rw [up4, mF_f, va_up_ne _ _ (by omega)]; exact hp) ?_
    refine sw_iconst X (nI 1) dX4_readOrder_34 (by decide) ?_
    refine sw_iadd X dX4_readOrder_35 ?_
    try refine sw_tope (nI_add _ _) ?_
    refine pf_X4_167 X dX4_readOrder_36 ?_
    refine sw_aload_0 X dX4_readOrder_39 ?_
    refine sw_aload_0 X dX4_readOrder_40 ?_
    refine gf_X4_167 X dX4_readOrder_41 ?_
    refine sw_tope (v2 := nI (p + 1)) (by rw [up4, mF_f, va_up_self]) ?_
    refine sw_aload_0 X dX4_readOrder_44 ?_
    refine gf_X4_164 X dX4_readOrder_45 ?_
    refine sw_tope (v2 := nI n) (by simp only [up4, mF_f]; rw [va_up_ne _ _ (by omega), va_up_ne _ _ (by omega)]; exact hl) ?_
    refine sw_icmp_ge X 63 dX4_readOrder_48 (by decide) (fun h48 => ?_) (fun h48 => ?_)
    ·
      exact absurd ((nI_leI (by omega) (by omega)).mp h48) (by omega)
    ·
      refine sw_aload_0 X dX4_readOrder_51 ?_
      refine gf_X4_19 X dX4_readOrder_52 ?_
      refine sw_aload_0 X dX4_readOrder_55 ?_
      refine gf_X4_167 X dX4_readOrder_56 ?_
      refine sw_tope (v2 := nI (p + 1)) (by rw [up4, mF_f, va_up_self]) ?_
      refine ia_8 X rfl (by omega) dX4_readOrder_59 ?_
      refine sw_tope (v2 := x (p + 1)) (by simp only [up4, mF_t]; exact (congrFun hx _).trans hL) ?_
      refine sw_goto X 64 dX4_readOrder_60 (by decide) ?_
      refine pf_X4_182 X dX4_readOrder_64 ?_
      refine sw_aload_0 X dX4_readOrder_67 ?_
      refine sw_dup X dX4_readOrder_68 rfl ?_
      refine gf_X4_167 X dX4_readOrder_69 ?_
      refine sw_tope (v2 := nI (p + 1)) (by rw [up4, mF_f, va_up_ne _ _ (by omega), up4, mF_f, va_up_self]) ?_
      refine sw_iconst X (nI 1) dX4_readOrder_72 (by decide) ?_
      refine sw_iadd X dX4_readOrder_73 ?_
      try refine sw_tope (nI_add _ _) ?_
      refine pf_X4_167 X dX4_readOrder_74 ?_
      refine sw_aload_0 X dX4_readOrder_77 ?_
      refine gf_X4_182 X dX4_readOrder_78 ?_
      refine sw_tope (v2 := x (p + 1)) (by simp only [up4, mF_f]; rw [va_up_ne _ _ (by omega), va_up_self]) ?_
      refine sw_case (v := nI 98) (fun h81 => ?_) (fun h81_0 => ?_)
      ·
        refine sw_tabInV X 184 dX4_readOrder_81 (q := 0) h81 (by decide) (by decide) ?_
        exact absurd h81 hB.1
      refine sw_case (v := nI 99) (fun h81 => ?_) (fun h81_1 => ?_)
      ·
        refine sw_tabInV X 184 dX4_readOrder_81 (q := 1) h81 (by decide) (by decide) ?_
        exact absurd h81 hB.2.1
      refine sw_case (v := nI 100) (fun h81 => ?_) (fun h81_2 => ?_)
      ·
        refine sw_tabInV X 186 dX4_readOrder_81 (q := 2) h81 (by decide) (by decide) ?_
        exact absurd h81 hB.2.2.2.2.2.1
      refine sw_case (v := nI 101) (fun h81 => ?_) (fun h81_3 => ?_)
      ·
        refine sw_tabInV X 191 dX4_readOrder_81 (q := 3) h81 (by decide) (by decide) ?_
        exact absurd h81 hB.2.2.2.2.2.2.1
      refine sw_case (v := nI 102) (fun h81 => ?_) (fun h81_4 => ?_)
      ·
        refine sw_tabInV X 240 dX4_readOrder_81 (q := 4) h81 (by decide) (by decide) ?_
        refine sw_aload_0 X dX4_readOrder_240 ?_
        refine sw_dup X dX4_readOrder_241 rfl ?_
        refine gf_X4_167 X dX4_readOrder_242 ?_
        refine sw_tope (v2 := nI (p + 2)) (by simp only [up4, mF_f]; rw [va_up_self]) ?_
        refine sw_iconst X (nI 1) dX4_readOrder_245 (by decide) ?_
        refine sw_isub X dX4_readOrder_246 ?_
        refine sw_tope (v2 := nI (p + 1)) (by rw [show p + 2 = (p + 1) + 1 from rfl]; rw [pk_sub (by omega)]; rfl) ?_
        refine pf_X4_167 X dX4_readOrder_247 ?_
        refine sw_iconst X (nI 0) dX4_readOrder_250 (by decide) ?_
        exact sw_zret X Y dX4_readOrder_251 (rfl) (rfl) (rfl)
      refine sw_case (v := nI 103) (fun h81 => ?_) (fun h81_5 => ?_)
      ·
        refine sw_tabInV X 191 dX4_readOrder_81 (q := 5) h81 (by decide) (by decide) ?_
        exact absurd h81 hB.2.2.2.2.2.2.2.1
      refine sw_case (v := nI 104) (fun h81 => ?_) (fun h81_6 => ?_)
      ·
        refine sw_tabInV X 240 dX4_readOrder_81 (q := 6) h81 (by decide) (by decide) ?_
        refine sw_aload_0 X dX4_readOrder_240 ?_
        refine sw_dup X dX4_readOrder_241 rfl ?_
        refine gf_X4_167 X dX4_readOrder_242 ?_
        refine sw_tope (v2 := nI (p + 2)) (by simp only [up4, mF_f]; rw [va_up_self]) ?_
        refine sw_iconst X (nI 1) dX4_readOrder_245 (by decide) ?_
        refine sw_isub X dX4_readOrder_246 ?_
        refine sw_tope (v2 := nI (p + 1)) (by rw [show p + 2 = (p + 1) + 1 from rfl]; rw [pk_sub (by omega)]; rfl) ?_
        refine pf_X4_167 X dX4_readOrder_247 ?_
        refine sw_iconst X (nI 0) dX4_readOrder_250 (by decide) ?_
        exact sw_zret X Y dX4_readOrder_251 (rfl) (rfl) (rfl)
      refine sw_case (v := nI 105) (fun h81 => ?_) (fun h81_7 => ?_)
      ·
        refine sw_tabInV X 240 dX4_readOrder_81 (q := 7) h81 (by decide) (by decide) ?_
        refine sw_aload_0 X dX4_readOrder_240 ?_
        refine sw_dup X dX4_readOrder_241 rfl ?_
        refine gf_X4_167 X dX4_readOrder_242 ?_
        refine sw_tope (v2 := nI (p + 2)) (by simp only [up4, mF_f]; rw [va_up_self]) ?_
        refine sw_iconst X (nI 1) dX4_readOrder_245 (by decide) ?_
        refine sw_isub X dX4_readOrder_246 ?_
        refine sw_tope (v2 := nI (p + 1)) (by rw [show p + 2 = (p + 1) + 1 from rfl]; rw [pk_sub (by omega)]; rfl) ?_
        refine pf_X4_167 X dX4_readOrder_247 ?_
        refine sw_iconst X (nI 0) dX4_readOrder_250 (by decide) ?_
        exact sw_zret X Y dX4_readOrder_251 (rfl) (rfl) (rfl)
      refine sw_case (v := nI 106) (fun h81 => ?_) (fun h81_8 => ?_)
      ·
        refine sw_tabInV X 240 dX4_readOrder_81 (q := 8) h81 (by decide) (by decide) ?_
        refine sw_aload_0 X dX4_readOrder_240 ?_
        refine sw_dup X dX4_readOrder_241 rfl ?_
        refine gf_X4_167 X dX4_readOrder_242 ?_
        refine sw_tope (v2 := nI (p + 2)) (by simp only [up4, mF_f]; rw [va_up_self]) ?_
        refine sw_iconst X (nI 1) dX4_readOrder_245 (by decide) ?_
        refine sw_isub X dX4_readOrder_246 ?_
        refine sw_tope (v2 := nI (p + 1)) (by rw [show p + 2 = (p + 1) + 1 from rfl]; rw [pk_sub (by omega)]; rfl) ?_
        refine pf_X4_167 X dX4_readOrder_247 ?_
        refine sw_iconst X (nI 0) dX4_readOrder_250 (by decide) ?_
        exact sw_zret X Y dX4_readOrder_251 (rfl) (rfl) (rfl)
      refine sw_case (v := nI 107) (fun h81 => ?_) (fun h81_9 => ?_)
      ·
        refine sw_tabInV X 240 dX4_readOrder_81 (q := 9) h81 (by decide) (by decide) ?_
        refine sw_aload_0 X dX4_readOrder_240 ?_
        refine sw_dup X dX4_readOrder_241 rfl ?_
        refine gf_X4_167 X dX4_readOrder_242 ?_
        refine sw_tope (v2 := nI (p + 2)) (by simp only [up4, mF_f]; rw [va_up_self]) ?_
        refine sw_iconst X (nI 1) dX4_readOrder_245 (by decide) ?_
        refine sw_isub X dX4_readOrder_246 ?_
        refine sw_tope (v2 := nI (p + 1)) (by rw [show p + 2 = (p + 1) + 1 from rfl]; rw [pk_sub (by omega)]; rfl) ?_
        refine pf_X4_167 X dX4_readOrder_247 ?_
        refine sw_iconst X (nI 0) dX4_readOrder_250 (by decide) ?_
        exact sw_zret X Y dX4_readOrder_251 (rfl) (rfl) (rfl)
      refine sw_case (v := nI 108) (fun h81 => ?_) (fun h81_10 => ?_)
      ·
        refine sw_tabInV X 240 dX4_readOrder_81 (q := 10) h81 (by decide) (by decide) ?_
        refine sw_aload_0 X dX4_readOrder_240 ?_
        refine sw_dup X dX4_readOrder_241 rfl ?_
        refine gf_X4_167 X dX4_readOrder_242 ?_
        refine sw_tope (v2 := nI (p + 2)) (by simp only [up4, mF_f]; rw [va_up_self]) ?_
        refine sw_iconst X (nI 1) dX4_readOrder_245 (by decide) ?_
        refine sw_isub X dX4_readOrder_246 ?_
        refine sw_tope (v2 := nI (p + 1)) (by rw [show p + 2 = (p + 1) + 1 from rfl]; rw [pk_sub (by omega)]; rfl) ?_
        refine pf_X4_167 X dX4_readOrder_247 ?_
        refine sw_iconst X (nI 0) dX4_readOrder_250 (by decide) ?_
        exact sw_zret X Y dX4_readOrder_251 (rfl) (rfl) (rfl)
      refine sw_case (v := nI 109) (fun h81 => ?_) (fun h81_11 => ?_)
      ·
        refine sw_tabInV X 240 dX4_readOrder_81 (q := 11) h81 (by decide) (by decide) ?_
        refine sw_aload_0 X dX4_readOrder_240 ?_
        refine sw_dup X dX4_readOrder_241 rfl ?_
        refine gf_X4_167 X dX4_readOrder_242 ?_
        refine sw_tope (v2 := nI (p + 2)) (by simp only [up4, mF_f]; rw [va_up_self]) ?_
        refine sw_iconst X (nI 1) dX4_readOrder_245 (by decide) ?_
        refine sw_isub X dX4_readOrder_246 ?_
        refine sw_tope (v2 := nI (p + 1)) (by rw [show p + 2 = (p + 1) + 1 from rfl]; rw [pk_sub (by omega)]; rfl) ?_
        refine pf_X4_167 X dX4_readOrder_247 ?_
        refine sw_iconst X (nI 0) dX4_readOrder_250 (by decide) ?_
        exact sw_zret X Y dX4_readOrder_251 (rfl) (rfl) (rfl)
      refine sw_case (v := nI 110) (fun h81 => ?_) (fun h81_12 => ?_)
      ·
        refine sw_tabInV X 240 dX4_readOrder_81 (q := 12) h81 (by decide) (by decide) ?_
        refine sw_aload_0 X dX4_readOrder_240 ?_
        refine sw_dup X dX4_readOrder_241 rfl ?_
        refine gf_X4_167 X dX4_readOrder_242 ?_
        refine sw_tope (v2 := nI (p + 2)) (by simp only [up4, mF_f]; rw [va_up_self]) ?_
        refine sw_iconst X (nI 1) dX4_readOrder_245 (by decide) ?_
        refine sw_isub X dX4_readOrder_246 ?_
        refine sw_tope (v2 := nI (p + 1)) (by rw [show p + 2 = (p + 1) + 1 from rfl]; rw [pk_sub (by omega)]; rfl) ?_
        refine pf_X4_167 X dX4_readOrder_247 ?_
        refine sw_iconst X (nI 0) dX4_readOrder_250 (by decide) ?_
        exact sw_zret X Y dX4_readOrder_251 (rfl) (rfl) (rfl)
      refine sw_case (v := nI 111) (fun h81 => ?_) (fun h81_13 => ?_)
      ·
        refine sw_tabInV X 240 dX4_readOrder_81 (q := 13) h81 (by decide) (by decide) ?_
        refine sw_aload_0 X dX4_readOrder_240 ?_
        refine sw_dup X dX4_readOrder_241 rfl ?_
        refine gf_X4_167 X dX4_readOrder_242 ?_
        refine sw_tope (v2 := nI (p + 2)) (by simp only [up4, mF_f]; rw [va_up_self]) ?_
        refine sw_iconst X (nI 1) dX4_readOrder_245 (by decide) ?_
        refine sw_isub X dX4_readOrder_246 ?_
        refine sw_tope (v2 := nI (p + 1)) (by rw [show p + 2 = (p + 1) + 1 from rfl]; rw [pk_sub (by omega)]; rfl) ?_
        refine pf_X4_167 X dX4_readOrder_247 ?_
        refine sw_iconst X (nI 0) dX4_readOrder_250 (by decide) ?_
        exact sw_zret X Y dX4_readOrder_251 (rfl) (rfl) (rfl)
      refine sw_case (v := nI 112) (fun h81 => ?_) (fun h81_14 => ?_)
      ·
        refine sw_tabInV X 240 dX4_readOrder_81 (q := 14) h81 (by decide) (by decide) ?_
        refine sw_aload_0 X dX4_readOrder_240 ?_
        refine sw_dup X dX4_readOrder_241 rfl ?_
        refine gf_X4_167 X dX4_readOrder_242 ?_
        refine sw_tope (v2 := nI (p + 2)) (by simp only [up4, mF_f]; rw [va_up_self]) ?_
        refine sw_iconst X (nI 1) dX4_readOrder_245 (by decide) ?_
        refine sw_isub X dX4_readOrder_246 ?_
        refine sw_tope (v2 := nI (p + 1)) (by rw [show p + 2 = (p + 1) + 1 from rfl]; rw [pk_sub (by omega)]; rfl) ?_
        refine pf_X4_167 X dX4_readOrder_247 ?_
        refine sw_iconst X (nI 0) dX4_readOrder_250 (by decide) ?_
        exact sw_zret X Y dX4_readOrder_251 (rfl) (rfl) (rfl)
      refine sw_case (v := nI 113) (fun h81 => ?_) (fun h81_15 => ?_)
      ·
        refine sw_tabInV X 240 dX4_readOrder_81 (q := 15) h81 (by decide) (by decide) ?_
        refine sw_aload_0 X dX4_readOrder_240 ?_
        refine sw_dup X dX4_readOrder_241 rfl ?_
        refine gf_X4_167 X dX4_readOrder_242 ?_
        refine sw_tope (v2 := nI (p + 2)) (by simp only [up4, mF_f]; rw [va_up_self]) ?_
        refine sw_iconst X (nI 1) dX4_readOrder_245 (by decide) ?_
        refine sw_isub X dX4_readOrder_246 ?_
        refine sw_tope (v2 := nI (p + 1)) (by rw [show p + 2 = (p + 1) + 1 from rfl]; rw [pk_sub (by omega)]; rfl) ?_
        refine pf_X4_167 X dX4_readOrder_247 ?_
        refine sw_iconst X (nI 0) dX4_readOrder_250 (by decide) ?_
        exact sw_zret X Y dX4_readOrder_251 (rfl) (rfl) (rfl)
      refine sw_case (v := nI 114) (fun h81 => ?_) (fun h81_16 => ?_)
      ·
        refine sw_tabInV X 184 dX4_readOrder_81 (q := 16) h81 (by decide) (by decide) ?_
        exact absurd h81 hB.2.2.1
      refine sw_case (v := nI 115) (fun h81 => ?_) (fun h81_17 => ?_)
      ·
        refine sw_tabInV X 186 dX4_readOrder_81 (q := 17) h81 (by decide) (by decide) ?_
        exact absurd h81 hB.2.2.2.1
      refine sw_case (v := nI 116) (fun h81 => ?_) (fun h81_18 => ?_)
      ·
        refine sw_tabInV X 240 dX4_readOrder_81 (q := 18) h81 (by decide) (by decide) ?_
        refine sw_aload_0 X dX4_readOrder_240 ?_
        refine sw_dup X dX4_readOrder_241 rfl ?_
        refine gf_X4_167 X dX4_readOrder_242 ?_
        refine sw_tope (v2 := nI (p + 2)) (by simp only [up4, mF_f]; rw [va_up_self]) ?_
        refine sw_iconst X (nI 1) dX4_readOrder_245 (by decide) ?_
        refine sw_isub X dX4_readOrder_246 ?_
        refine sw_tope (v2 := nI (p + 1)) (by rw [show p + 2 = (p + 1) + 1 from rfl]; rw [pk_sub (by omega)]; rfl) ?_
        refine pf_X4_167 X dX4_readOrder_247 ?_
        refine sw_iconst X (nI 0) dX4_readOrder_250 (by decide) ?_
        exact sw_zret X Y dX4_readOrder_251 (rfl) (rfl) (rfl)
      refine sw_case (v := nI 117) (fun h81 => ?_) (fun h81_19 => ?_)
      ·
        refine sw_tabInV X 186 dX4_readOrder_81 (q := 19) h81 (by decide) (by decide) ?_
        exact absurd h81 hB.2.2.2.2.1
      refine sw_case (v := nI 118) (fun h81 => ?_) (fun h81_20 => ?_)
      ·
        refine sw_tabInV X 240 dX4_readOrder_81 (q := 20) h81 (by decide) (by decide) ?_
        refine sw_aload_0 X dX4_readOrder_240 ?_
        refine sw_dup X dX4_readOrder_241 rfl ?_
        refine gf_X4_167 X dX4_readOrder_242 ?_
        refine sw_tope (v2 := nI (p + 2)) (by simp only [up4, mF_f]; rw [va_up_self]) ?_
        refine sw_iconst X (nI 1) dX4_readOrder_245 (by decide) ?_
        refine sw_isub X dX4_readOrder_246 ?_
        refine sw_tope (v2 := nI (p + 1)) (by rw [show p + 2 = (p + 1) + 1 from rfl]; rw [pk_sub (by omega)]; rfl) ?_
        refine pf_X4_167 X dX4_readOrder_247 ?_
        refine sw_iconst X (nI 0) dX4_readOrder_250 (by decide) ?_
        exact sw_zret X Y dX4_readOrder_251 (rfl) (rfl) (rfl)
      refine sw_case (v := nI 119) (fun h81 => ?_) (fun h81_21 => ?_)
      ·
        refine sw_tabInV X 196 dX4_readOrder_81 (q := 21) h81 (by decide) (by decide) ?_
        exact absurd h81 hB.2.2.2.2.2.2.2.2
      refine sw_tabOut X 240 dX4_readOrder_81 (by have q0 := sv_ti h81_0 (by decide); have q1 := sv_ti h81_1 (by decide); have q2 := sv_ti h81_2 (by decide); have q3 := sv_ti h81_3 (by decide); have q4 := sv_ti h81_4 (by decide); have q5 := sv_ti h81_5 (by decide); have q6 := sv_ti h81_6 (by decide); have q7 := sv_ti h81_7 (by decide); have q8 := sv_ti h81_8 (by decide); have q9 := sv_ti h81_9 (by decide); have q10 := sv_ti h81_10 (by decide); have q11 := sv_ti h81_11 (by decide); have q12 := sv_ti h81_12 (by decide); have q13 := sv_ti h81_13 (by decide); have q14 := sv_ti h81_14 (by decide); have q15 := sv_ti h81_15 (by decide); have q16 := sv_ti h81_16 (by decide); have q17 := sv_ti h81_17 (by decide); have q18 := sv_ti h81_18 (by decide); have q19 := sv_ti h81_19 (by decide); have q20 := sv_ti h81_20 (by decide); have q21 := sv_ti h81_21 (by decide); omega) (by decide) ?_
      refine sw_aload_0 X dX4_readOrder_240 ?_
      refine sw_dup X dX4_readOrder_241 rfl ?_
      refine gf_X4_167 X dX4_readOrder_242 ?_
      refine sw_tope (v2 := nI (p + 2)) (by simp only [up4, mF_f]; rw [va_up_self]) ?_
      refine sw_iconst X (nI 1) dX4_readOrder_245 (by decide) ?_
      refine sw_isub X dX4_readOrder_246 ?_
      refine sw_tope (v2 := nI (p + 1)) (by rw [show p + 2 = (p + 1) + 1 from rfl]; rw [pk_sub (by omega)]; rfl) ?_
      refine pf_X4_167 X dX4_readOrder_247 ?_
      refine sw_iconst X (nI 0) dX4_readOrder_250 (by decide) ?_
      exact sw_zret X Y dX4_readOrder_251 (rfl) (rfl) (rfl)
  ·
    exact absurd h1 h8
