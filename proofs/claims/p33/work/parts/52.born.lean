theorem wk_X0_i : Cond.instantiable RX0 2 ∈ lw_g := lw_g_of (List.mem_append_right _ (List.mem_of_getElem? (i := 71) (by decide +kernel))) (by decide +kernel)
theorem wk_X0_c : Cond.classLink RX3 23 RX0 ∈ lw_g := lw_g_of (List.mem_append_right _ (List.mem_of_getElem? (i := 70) (by decide +kernel))) (by decide +kernel)
theorem wk_X1_i : Cond.instantiable RX1 4 ∈ lw_g := lw_g_of (List.mem_append_right _ (List.mem_of_getElem? (i := 17) (by decide +kernel))) (by decide +kernel)
theorem wk_X1_c : Cond.classLink RX3 9 RX1 ∈ lw_g := lw_g_of (List.mem_append_right _ (List.mem_of_getElem? (i := 16) (by decide +kernel))) (by decide +kernel)
theorem wk_X2_i : Cond.instantiable RX2 6 ∈ lw_g := lw_g_of (List.mem_append_right _ (List.mem_of_getElem? (i := 24) (by decide +kernel))) (by decide +kernel)
theorem wk_X2_c : Cond.classLink RX1 15 RX2 ∈ lw_g := lw_g_of (List.mem_append_right _ (List.mem_of_getElem? (i := 22) (by decide +kernel))) (by decide +kernel)
theorem wk_X0_o : Cond.methodLink RX0 3 Lib.objectInit ∈ lw_g := lw_g_of (List.mem_append_right _ (List.mem_of_getElem? (i := 75) (by decide +kernel))) (by decide +kernel)
theorem wk_X1_o : Cond.methodLink RX1 3 Lib.objectInit ∈ lw_g := lw_g_of (List.mem_append_right _ (List.mem_of_getElem? (i := 21) (by decide +kernel))) (by decide +kernel)
theorem wk_X2_o : Cond.methodLink RX2 3 Lib.objectInit ∈ lw_g := lw_g_of (List.mem_append_right _ (List.mem_of_getElem? (i := 28) (by decide +kernel))) (by decide +kernel)
theorem wk_X3_o : Cond.methodLink RX3 3 Lib.objectInit ∈ lw_g := lw_g_of (List.mem_append_right _ (List.mem_of_getElem? (i := 13) (by decide +kernel))) (by decide +kernel)
set_option maxHeartbeats 4000000 in
set_option maxRecDepth 100000 in
theorem c_X2_init {G : sv_G} {i j : Nat} (hi : i < 8) (hj : j < 3) : sb_Ct G M_X2_init 1 (sv_off 14 i j) (.inr (2, [.int 0, .int 0, .null, .null, .null, .null])) 5 264 sv_M0 := by
  refine sb_Ct_of (lo := [some (.ref (G.2.1 + sv_off 14 i j))]) pn_X2 rfl rfl (Nat.le_of_ble_eq_true rfl) (by decide) rfl (fun K X Y hI hk hn hz => ?_)
  replace X : sb_X G K cX2_init RX2 1 1 := X
  show sb_W G K 1 0 _ _ _ _ _ _
  obtain ⟨A, hA⟩ : ∃ A : Nat, A = G.2.1 + sv_off 14 i j := ⟨_, rfl⟩
  rw [← hA] at hz ⊢
  refine sb_aload_0 X dX2_init_0 ?_
  refine sb_objInit X wk_X2_o dX2_init_1 ?_
  refine sb_aload_0 X dX2_init_4 ?_
  refine sb_bipush X (nI 14) dX2_init_5 (by decide) ?_
  refine sb_newI X (by omega) (by omega) (by omega) dX2_init_7 ?_
  refine sb_num (h2 := A + 2) (k2 := 1) (n2 := 14) (by omega) ?_
  refine sb_ws (ws2 := [(A, .inr (2, [.int 0, .int 0, .null, .null, .null, .null])), (A + 1, .inl (sv_cI G, 14, .inl (fun _ => 0)))]) rfl ?_
  refine sb_putF X hI inX2 tyX2 tyX2_ok nmX2 0 rfl rfl 2 (by decide) wl_X2_9 rfl (by decide +kernel) rfl (tyX2_ok 2 (by decide)) rfl rfl (by simp) dX2_init_9 ?_
  refine sb_ws (ws2 := [(A, .inr (2, [.int 0, .int 0, .ref (A + 1), .null, .null, .null])), (A + 1, .inl (sv_cI G, 14, .inl (fun _ => 0)))]) rfl ?_
  refine sb_aload_0 X dX2_init_12 ?_
  refine sb_bipush X (nI 12) dX2_init_13 (by decide) ?_
  refine sb_newI X (by omega) (by omega) (by omega) dX2_init_15 ?_
  refine sb_num (h2 := A + 3) (k2 := 2) (n2 := 26) (by omega) ?_
  refine sb_ws (ws2 := [(A, .inr (2, [.int 0, .int 0, .ref (A + 1), .null, .null, .null])), (A + 1, .inl (sv_cI G, 14, .inl (fun _ => 0))), (A + 2, .inl (sv_cI G, 12, .inl (fun _ => 0)))]) rfl ?_
  refine sb_putF X hI inX2 tyX2 tyX2_ok nmX2 0 rfl rfl 3 (by decide) wl_X2_15 rfl (by decide +kernel) rfl (tyX2_ok 3 (by decide)) rfl rfl (by simp) dX2_init_17 ?_
  refine sb_ws (ws2 := [(A, .inr (2, [.int 0, .int 0, .ref (A + 1), .ref (A + 2), .null, .null])), (A + 1, .inl (sv_cI G, 14, .inl (fun _ => 0))), (A + 2, .inl (sv_cI G, 12, .inl (fun _ => 0)))]) rfl ?_
  refine sb_aload_0 X dX2_init_20 ?_
  refine sb_bipush X (nI 14) dX2_init_21 (by decide) ?_
  refine sb_newI X (by omega) (by omega) (by omega) dX2_init_23 ?_
  refine sb_num (h2 := A + 4) (k2 := 3) (n2 := 40) (by omega) ?_
  refine sb_ws (ws2 := [(A, .inr (2, [.int 0, .int 0, .ref (A + 1), .ref (A + 2), .null, .null])), (A + 1, .inl (sv_cI G, 14, .inl (fun _ => 0))), (A + 2, .inl (sv_cI G, 12, .inl (fun _ => 0))), (A + 3, .inl (sv_cI G, 14, .inl (fun _ => 0)))]) rfl ?_
  refine sb_putF X hI inX2 tyX2 tyX2_ok nmX2 0 rfl rfl 4 (by decide) wl_X2_18 rfl (by decide +kernel) rfl (tyX2_ok 4 (by decide)) rfl rfl (by simp) dX2_init_25 ?_
  refine sb_ws (ws2 := [(A, .inr (2, [.int 0, .int 0, .ref (A + 1), .ref (A + 2), .ref (A + 3), .null])), (A + 1, .inl (sv_cI G, 14, .inl (fun _ => 0))), (A + 2, .inl (sv_cI G, 12, .inl (fun _ => 0))), (A + 3, .inl (sv_cI G, 14, .inl (fun _ => 0)))]) rfl ?_
  refine sb_aload_0 X dX2_init_28 ?_
  refine sb_sipush X (nI 224) dX2_init_29 (by decide) ?_
  refine sb_newI X (by omega) (by omega) (by omega) dX2_init_32 ?_
  refine sb_num (h2 := A + 5) (k2 := 4) (n2 := 264) (by omega) ?_
  refine sb_ws (ws2 := [(A, .inr (2, [.int 0, .int 0, .ref (A + 1), .ref (A + 2), .ref (A + 3), .null])), (A + 1, .inl (sv_cI G, 14, .inl (fun _ => 0))), (A + 2, .inl (sv_cI G, 12, .inl (fun _ => 0))), (A + 3, .inl (sv_cI G, 14, .inl (fun _ => 0))), (A + 4, .inl (sv_cI G, 224, .inl (fun _ => 0)))]) rfl ?_
  refine sb_putF X hI inX2 tyX2 tyX2_ok nmX2 0 rfl rfl 5 (by decide) wl_X2_21 rfl (by decide +kernel) rfl (tyX2_ok 5 (by decide)) rfl rfl (by simp) dX2_init_34 ?_
  refine sb_ws (ws2 := [(A, .inr (2, [.int 0, .int 0, .ref (A + 1), .ref (A + 2), .ref (A + 3), .ref (A + 4)])), (A + 1, .inl (sv_cI G, 14, .inl (fun _ => 0))), (A + 2, .inl (sv_cI G, 12, .inl (fun _ => 0))), (A + 3, .inl (sv_cI G, 14, .inl (fun _ => 0))), (A + 4, .inl (sv_cI G, 224, .inl (fun _ => 0)))]) rfl ?_
  refine sb_vret X Y dX2_init_37 (by omega) (by omega) (fun H hP => sv_seg_P (fun r hr => ?_))
  have a1 : sv_ad G 15 i j = A + 1 := by rw [hA]; show G.2.1 + (sv_sb i + 5 + 5 * j) = G.2.1 + (sv_sb i + 4 + 5 * j) + 1; omega
  have a2 : sv_ad G 16 i j = A + 2 := by rw [hA]; show G.2.1 + (sv_sb i + 6 + 5 * j) = G.2.1 + (sv_sb i + 4 + 5 * j) + 2; omega
  have a3 : sv_ad G 17 i j = A + 3 := by rw [hA]; show G.2.1 + (sv_sb i + 7 + 5 * j) = G.2.1 + (sv_sb i + 4 + 5 * j) + 3; omega
  have a4 : sv_ad G 18 i j = A + 4 := by rw [hA]; show G.2.1 + (sv_sb i + 8 + 5 * j) = G.2.1 + (sv_sb i + 4 + 5 * j) + 4; omega
  rw [show G.2.1 + (sv_off 14 i j + r) = A + r by omega]
  match r, hr with
  | 0, _ =>
    rw [sv_dec_at (o := sv_off 14 i j + 0) (k := 14) (i := i) (j := j) (by omega) rfl]
    have e : sv_ent G sv_M0 14 i j = .inr (2, [.int 0, .int 0, .ref (A + 1), .ref (A + 2), .ref (A + 3), .ref (A + 4)]) := by simp only [sv_ent, a1, a2, a3, a4, sv_M0_0 (show (14 : Nat) ≠ 11 by decide) (show (14 : Nat) ≠ 5 by decide)]
    rw [e]
    exact hP 0 _ rfl
  | 1, _ =>
    rw [sv_dec_at (o := sv_off 14 i j + 1) (k := 15) (i := i) (j := j) (by omega) (show sv_sb i + 4 + 5 * j + 1 = sv_sb i + 5 + 5 * j by omega)]
    have e : sv_ent G sv_M0 15 i j = .inl (sv_cI G, 14, .inl (fun _ => 0)) := by simp only [sv_ent, sv_M0_0 (show (15 : Nat) ≠ 11 by decide) (show (15 : Nat) ≠ 5 by decide)]
    rw [e]
    exact hP 1 _ rfl
  | 2, _ =>
    rw [sv_dec_at (o := sv_off 14 i j + 2) (k := 16) (i := i) (j := j) (by omega) (show sv_sb i + 4 + 5 * j + 2 = sv_sb i + 6 + 5 * j by omega)]
    have e : sv_ent G sv_M0 16 i j = .inl (sv_cI G, 12, .inl (fun _ => 0)) := by simp only [sv_ent, sv_M0_0 (show (16 : Nat) ≠ 11 by decide) (show (16 : Nat) ≠ 5 by decide)]
    rw [e]
    exact hP 2 _ rfl
  | 3, _ =>
    rw [sv_dec_at (o := sv_off 14 i j + 3) (k := 17) (i := i) (j := j) (by omega) (show sv_sb i + 4 + 5 * j + 3 = sv_sb i + 7 + 5 * j by omega)]
    have e : sv_ent G sv_M0 17 i j = .inl (sv_cI G, 14, .inl (fun _ => 0)) := by simp only [sv_ent, sv_M0_0 (show (17 : Nat) ≠ 11 by decide) (show (17 : Nat) ≠ 5 by decide)]
    rw [e]
    exact hP 3 _ rfl
  | 4, _ =>
    rw [sv_dec_at (o := sv_off 14 i j + 4) (k := 18) (i := i) (j := j) (by omega) (show sv_sb i + 4 + 5 * j + 4 = sv_sb i + 8 + 5 * j by omega)]
    have e : sv_ent G sv_M0 18 i j = .inl (sv_cI G, 224, .inl (fun _ => 0)) := by simp only [sv_ent, sv_M0_0 (show (18 : Nat) ≠ 11 by decide) (show (18 : Nat) ≠ 5 by decide)]
    rw [e]
    exact hP 4 _ rfl
set_option maxHeartbeats 4000000 in
set_option maxRecDepth 100000 in
theorem c_X0_init {G : sv_G}  : sb_Ct G M_X0_init 1 (154) (.inr (0, [.null, .int 0])) 2 80 sv_M0 := by
  refine sb_Ct_of (lo := [some (.ref (G.2.1 + 154))]) pn_X0 rfl rfl (Nat.le_of_ble_eq_true rfl) (by decide) rfl (fun K X Y hI hk hn hz => ?_)
  replace X : sb_X G K cX0_init RX0 1 1 := X
  show sb_W G K 1 0 _ _ _ _ _ _
  obtain ⟨A, hA⟩ : ∃ A : Nat, A = G.2.1 + 154 := ⟨_, rfl⟩
  rw [← hA] at hz ⊢
  refine sb_aload_0 X dX0_init_0 ?_
  refine sb_objInit X wk_X0_o dX0_init_1 ?_
  refine sb_aload_0 X dX0_init_4 ?_
  refine sb_bipush X (nI 80) dX0_init_5 (by decide) ?_
  refine sb_newC X (by omega) (by omega) (by omega) dX0_init_7 ?_
  refine sb_num (h2 := A + 2) (k2 := 1) (n2 := 80) (by omega) ?_
  refine sb_ws (ws2 := [(A, .inr (0, [.null, .int 0])), (A + 1, .inl (sv_cC G, 80, .inl (fun _ => 0)))]) rfl ?_
  refine sb_putF X hI inX0 tyX0 tyX0_ok nmX0 0 rfl rfl 0 (by decide) wl_X0_9 rfl (by decide +kernel) rfl (tyX0_ok 0 (by decide)) rfl rfl (by simp) dX0_init_9 ?_
  refine sb_vret X Y dX0_init_12 (by omega) (by omega) (fun H hP => sv_seg_P (fun r hr => ?_))
  rw [show G.2.1 + (154 + r) = A + r by omega]
  match r, hr with
  | 0, _ =>
    rw [sv_dec_at (o := 154 + 0) (k := 2) (i := 8) (j := 0) (by omega) rfl]
    have e : sv_ent G sv_M0 2 8 0 = .inr (0, [.ref (A + 1), .int 0]) := by simp only [sv_ent, show sv_ad G 3 8 0 = A + 1 by rw [hA]; rfl, sv_M0_0 (show (2 : Nat) ≠ 11 by decide) (show (2 : Nat) ≠ 5 by decide)]
    rw [e]
    exact hP 0 _ rfl
  | 1, _ =>
    rw [sv_dec_at (o := 154 + 1) (k := 3) (i := 8) (j := 0) (by omega) rfl]
    have e : sv_ent G sv_M0 3 8 0 = .inl (sv_cC G, 80, .inl (fun _ => 0)) := by simp only [sv_ent, sv_M0_0 (show (3 : Nat) ≠ 11 by decide) (show (3 : Nat) ≠ 5 by decide)]
    rw [e]
    exact hP 1 _ rfl
theorem sv_seg_len (G : sv_G) (M : sv_Mem) (lo n : Nat) : (sv_seg G M lo n).length = n := by simp [sv_seg]
theorem sb_arrQ {D : va_G} {cl : List vw_C} {a N : Nat} {cA : ClassId} {f g : Nat → Option Nat} {H : Heap} (h : va_at D cl (a, .inl (cA, N, .inr (.inr (.inr (.inr f))))) H) (e : ∀ q, q < N → f q = g q) : va_at D cl (a, .inl (cA, N, .inr (.inr (.inr (.inr g))))) H := by
  have h : H[a]? = some (vp_cell cA (N, .inr (.inr (.inr (.inr f))))) := h
  show H[a]? = some (vp_cell cA (N, .inr (.inr (.inr (.inr g)))))
  rw [h, vp_cell_q, vp_cell_q]
  unfold arrV
  congr 3
  funext j
  show va_rf (f j.val) = va_rf (g j.val)
  rw [e j.val j.isLt]
theorem sb_upQ (r : Nat) (f : Nat → Nat) : va_up (fun q => if q < r then some (f q) else none) r (some (f r)) = fun q => if q < r + 1 then some (f q) else none := by
  funext q
  by_cases h : q = r
  · subst h
    rw [va_up_self, if_pos (by omega)]
  · rw [va_up_ne _ _ h]
    by_cases h2 : q < r
    · rw [if_pos h2, if_pos (by omega)]
    · rw [if_neg h2, if_neg (by omega)]
theorem sb_upI (r : Nat) (v : Int32) : va_up (fun q => if q < r then v else (0 : Int32)) r v = fun q => if q < r + 1 then v else 0 := by
  funext q
  by_cases h : q = r
  · subst h
    rw [va_up_self, if_pos (by omega)]
  · rw [va_up_ne _ _ h]
    by_cases h2 : q < r
    · rw [if_pos h2, if_pos (by omega)]
    · rw [if_neg h2, if_neg (by omega)]
theorem sb_perm {G : sv_G} {K : sv_K} {nL pc : Nat} {lo : List (Option Value)} {rest : List Value} {ws ws2 : va_W} {h k n : Nat} (hp : ws.Perm ws2) (kk : sb_W G K nL pc lo rest ws2 h k n) : sb_W G K nL pc lo rest ws h k n := fun H locs ls hP hD hz hS hL => kk H locs ls (sb_P_perm hP hp) (sb_D_perm hD hp) hz hS hL
abbrev s1W (G : sv_G) (A : Nat) (f : Nat → Int32) (g : Nat → Option Nat) (T : va_W) : va_W := (A, .inr (1, [.int 0, .ref (A + 1), .ref (A + 2), .ref (A + 3)])) :: (A + 1, .inl (sv_cI G, 16, .inl f)) :: (A + 2, .inl (sv_cT G, 3, .inr (.inr (.inr (.inr g))))) :: (A + 3, .inl (sv_cI G, 7, .inl (fun _ => 0))) :: T
set_option maxHeartbeats 4000000 in
set_option maxRecDepth 100000 in
theorem c_X1_init {G : sv_G} {i : Nat} (hi : i < 8) : sb_Ct G M_X1_init 2 (sv_off 10 i 0) (.inr (1, [.int 0, .null, .null, .null])) 19 836 sv_M0 := by
  refine sb_Ct_of (lo := [some (.ref (G.2.1 + sv_off 10 i 0)), none]) pn_X1 rfl rfl (Nat.le_of_ble_eq_true rfl) (by decide) rfl (fun K X Y hI hk hn hz => ?_)
  replace X : sb_X G K cX1_init RX1 2 2 := X
  show sb_W G K 2 0 _ _ _ _ _ _
  obtain ⟨A, hA⟩ : ∃ A : Nat, A = G.2.1 + sv_off 10 i 0 := ⟨_, rfl⟩
  rw [← hA] at hz ⊢
  refine sb_aload_0 X dX1_init_0 ?_
  refine sb_objInit X wk_X1_o dX1_init_1 ?_
  have hb0 : A = G.2.1 + sv_sb i := hA
  have F2 : ∀ m r : Nat, r + m = 3 → sb_W G K 2 52 [some (.ref A), some (.int (nI r))] [] (s1W G A (fun q => if q < 16 then -5 else 0) (fun q => if q < r then some (A + 4 + 5 * q) else none) (sv_seg G sv_M0 (sv_sb i + 4) (5 * r))) (A + 4 + 5 * r) (3 + 5 * r) (26 + 270 * r) := by
    intro m
    induction m with
    | zero =>
      intro r hr
      obtain rfl : r = 3 := by omega
      refine sb_iload_1 X dX1_init_52 ?_
      refine sb_iconst X (nI 3) dX1_init_53 (by decide) ?_
      refine sb_icmp_ge X 76 dX1_init_54 (by decide) (fun _ => ?_) (fun q => absurd (nI_le (Nat.le_refl 3) (by omega)) q)
      refine sb_vret X Y dX1_init_76 (by omega) (by omega) (fun H hP => sv_seg_P (fun r hr => ?_))
      have hT : va_P G.2.2.1 vwCl (sv_seg G sv_M0 (sv_sb i + 4) (5 * 3)) H := fun k q hk => hP (k + 4) q hk
      have a1 : sv_ad G 11 i 0 = A + 1 := by rw [hb0]; rfl
      have a2 : sv_ad G 12 i 0 = A + 2 := by rw [hb0]; rfl
      have a3 : sv_ad G 13 i 0 = A + 3 := by rw [hb0]; rfl
      rw [show G.2.1 + (sv_off 10 i 0 + r) = A + r by omega]
      match r, hr with
      | 0, _ =>
        rw [sv_dec_at (o := sv_off 10 i 0 + 0) (k := 10) (i := i) (j := 0) (by omega) rfl]
        have e : sv_ent G sv_M0 10 i 0 = .inr (1, [.int 0, .ref (A + 1), .ref (A + 2), .ref (A + 3)]) := by simp only [sv_ent, a1, a2, a3, sv_M0_0 (show (10 : Nat) ≠ 11 by decide) (show (10 : Nat) ≠ 5 by decide)]
        rw [e]
        exact hP 0 _ rfl
      | 1, _ =>
        rw [sv_dec_at (o := sv_off 10 i 0 + 1) (k := 11) (i := i) (j := 0) (by omega) rfl]
        have e : sv_ent G sv_M0 11 i 0 = .inl (sv_cI G, 16, .inl (fun q => if q < 16 then -5 else 0)) := by simp only [sv_ent, sv_M0_11]
        rw [e]
        exact hP 1 _ rfl
      | 2, _ =>
        rw [sv_dec_at (o := sv_off 10 i 0 + 2) (k := 12) (i := i) (j := 0) (by omega) rfl]
        refine sb_arrQ (hP 2 _ rfl) (fun q hq => ?_)
        rw [if_pos hq]
        show some _ = some (G.2.1 + (sv_sb i + 4 + 5 * q))
        rw [show A + 4 + 5 * q = G.2.1 + (sv_sb i + 4 + 5 * q) by omega]
      | 3, _ =>
        rw [sv_dec_at (o := sv_off 10 i 0 + 3) (k := 13) (i := i) (j := 0) (by omega) rfl]
        have e : sv_ent G sv_M0 13 i 0 = .inl (sv_cI G, 7, .inl (fun _ => 0)) := by simp only [sv_ent, sv_M0_0 (show (13 : Nat) ≠ 11 by decide) (show (13 : Nat) ≠ 5 by decide)]
        rw [e]
        exact hP 3 _ rfl
      | r + 4, hr =>
        have := sv_P_seg hT (r := r) (by omega)
        rw [show G.2.1 + (sv_sb i + 4 + r) = A + (r + 4) by omega, show sv_sb i + 4 + r = sv_off 10 i 0 + (r + 4) from by show sv_sb i + 4 + r = sv_sb i + (r + 4); omega] at this
        exact this
    | succ m ih =>
      intro r hr
      refine sb_iload_1 X dX1_init_52 ?_
      refine sb_iconst X (nI 3) dX1_init_53 (by decide) ?_
      refine sb_icmp_ge X 76 dX1_init_54 (by decide) (fun q => absurd ((nI_leI (by omega) (by omega)).mp q) (by omega)) (fun _ => ?_)
      refine sb_aload_0 X dX1_init_57 ?_
      refine sb_get X inX1 0 rfl rfl 2 (by decide) wl_X1_17 rfl rfl dX1_init_58 ?_
      refine sb_iload_1 X dX1_init_61 ?_
      refine sb_new (ci := 2) (fs := [.int 0, .int 0, .null, .null, .null, .null]) X inX2 tyX2 tyX2_ok wk_X2_c wk_X2_i wn_X2 rfl (fun j hj => by match j, hj with | 0, _ => rfl | 1, _ => rfl | 2, _ => rfl | 3, _ => rfl | 4, _ => rfl | 5, _ => rfl) (by omega) (by omega) dX1_init_62 ?_
      refine sb_dup X dX1_init_65 rfl ?_
      refine sb_callN X mw_X2_init rfl rfl (by decide +kernel) wl_X1_24 wi_X2_init (by decide) dX1_init_66 (Nat.le_of_ble_eq_true rfl) (c_X2_init (i := i) (j := r) hi (by omega)) (show A + 4 + 5 * r = G.2.1 + (sv_sb i + 4 + 5 * r) by omega) (by omega) (by decide) (by omega) (by omega) ?_
      refine sb_ws (ws2 := s1W G A (fun q => if q < 16 then -5 else 0) (fun q => if q < r then some (A + 4 + 5 * q) else none) (sv_seg G sv_M0 (sv_sb i + 4) (5 * r + 5))) (by rw [← sv_seg_app]; rfl) ?_
      have hv : (s1W G A (fun q => if q < 16 then -5 else 0) (fun q => if q < r then some (A + 4 + 5 * q) else none) (sv_seg G sv_M0 (sv_sb i + 4) (5 * r + 5)))[5 * r + 4]? = some (A + 4 + 5 * r, sv_ent G sv_M0 14 i r) := by
        show (sv_seg G sv_M0 (sv_sb i + 4) (5 * r + 5))[5 * r]? = _
        rw [sv_seg_at (by omega), sv_dec_at (o := sv_sb i + 4 + 5 * r) (k := 14) (i := i) (j := r) (by omega) rfl, show G.2.1 + (sv_sb i + 4 + 5 * r) = A + 4 + 5 * r by omega]
      refine sb_aast X 2 2 (5 * r + 4) 2 rfl rfl hv rfl rfl (by omega) (by omega) dX1_init_69 ?_
      refine sb_ws (ws2 := s1W G A (fun q => if q < 16 then -5 else 0) (fun q => if q < r + 1 then some (A + 4 + 5 * q) else none) (sv_seg G sv_M0 (sv_sb i + 4) (5 * (r + 1)))) (by rw [← sb_upQ r (fun q => A + 4 + 5 * q)]; rfl) ?_
      refine sb_inc1_1 X dX1_init_70 trivial ?_
      refine sb_goto X 52 dX1_init_73 (by decide) ?_
      exact sb_num (by omega) (ih (r + 1) (by omega))
  have F1 : ∀ m r : Nat, r + m = 16 → sb_W G K 2 30 [some (.ref A), some (.int (nI r))] [] (s1W G A (fun q => if q < r then -5 else 0) (fun _ => none) []) (A + 4) 3 26 := by
    intro m
    induction m with
    | zero =>
      intro r hr
      obtain rfl : r = 16 := by omega
      refine sb_iload_1 X dX1_init_30 ?_
      refine sb_bipush X (nI 16) dX1_init_31 (by decide) ?_
      refine sb_icmp_ge X 50 dX1_init_33 (by decide) (fun _ => ?_) (fun q => absurd (nI_le (Nat.le_refl 16) (by omega)) q)
      refine sb_iconst X (nI 0) dX1_init_50 (by decide) ?_
      refine sb_istore_1 X dX1_init_51 trivial ?_
      exact F2 3 0 rfl
    | succ m ih =>
      intro r hr
      refine sb_iload_1 X dX1_init_30 ?_
      refine sb_bipush X (nI 16) dX1_init_31 (by decide) ?_
      refine sb_icmp_ge X 50 dX1_init_33 (by decide) (fun q => absurd ((nI_leI (by omega) (by omega)).mp q) (by omega)) (fun _ => ?_)
      refine sb_aload_0 X dX1_init_36 ?_
      refine sb_get X inX1 0 rfl rfl 1 (by decide) wl_X1_9 rfl rfl dX1_init_37 ?_
      refine sb_iload_1 X dX1_init_40 ?_
      refine sb_bipush X (-5) dX1_init_41 (by decide) ?_
      refine sb_iast X 1 rfl rfl (i := r) (by omega) (by omega) dX1_init_43 ?_
      refine sb_ws (ws2 := s1W G A (fun q => if q < r + 1 then -5 else 0) (fun _ => none) []) (by rw [← sb_upI r (-5)]; rfl) ?_
      refine sb_inc1_1 X dX1_init_44 trivial ?_
      refine sb_goto X 30 dX1_init_47 (by decide) ?_
      exact ih (r + 1) (by omega)
  refine sb_aload_0 X dX1_init_4 ?_
  refine sb_bipush X (nI 16) dX1_init_5 (by decide) ?_
  refine sb_newI X (by omega) (by omega) (by omega) dX1_init_7 ?_
  refine sb_num (h2 := A + 2) (k2 := 1) (n2 := 16) (by omega) ?_
  refine sb_ws (ws2 := [(A, .inr (1, [.int 0, .null, .null, .null])), (A + 1, .inl (sv_cI G, 16, .inl (fun _ => 0)))]) rfl ?_
  refine sb_putF X hI inX1 tyX1 tyX1_ok nmX1 0 rfl rfl 1 (by decide) wl_X1_9 rfl (by decide +kernel) rfl (tyX1_ok 1 (by decide)) rfl rfl (by simp) dX1_init_9 ?_
  refine sb_aload_0 X dX1_init_12 ?_
  refine sb_iconst X (nI 3) dX1_init_13 (by decide) ?_
  refine sb_newQ (t0 := 2) (C := sb_TT) X rfl (sb_aoT X) wk_X2_c (by omega) (by omega) (by omega) dX1_init_14 ?_
  refine sb_num (h2 := A + 3) (k2 := 2) (n2 := 19) (by omega) ?_
  refine sb_ws (ws2 := [(A, .inr (1, [.int 0, .ref (A + 1), .null, .null])), (A + 1, .inl (sv_cI G, 16, .inl (fun _ => 0))), (A + 2, .inl (sv_cT G, 3, .inr (.inr (.inr (.inr (fun _ => none))))))]) rfl ?_
  refine sb_putF X hI inX1 tyX1 tyX1_ok nmX1 0 rfl rfl 2 (by decide) wl_X1_17 rfl (by decide +kernel) rfl (tyX1_ok 2 (by decide)) rfl rfl (by simp) dX1_init_17 ?_
  refine sb_aload_0 X dX1_init_20 ?_
  refine sb_bipush X (nI 7) dX1_init_21 (by decide) ?_
  refine sb_newI X (by omega) (by omega) (by omega) dX1_init_23 ?_
  refine sb_num (h2 := A + 4) (k2 := 3) (n2 := 26) (by omega) ?_
  refine sb_ws (ws2 := [(A, .inr (1, [.int 0, .ref (A + 1), .ref (A + 2), .null])), (A + 1, .inl (sv_cI G, 16, .inl (fun _ => 0))), (A + 2, .inl (sv_cT G, 3, .inr (.inr (.inr (.inr (fun _ => none)))))), (A + 3, .inl (sv_cI G, 7, .inl (fun _ => 0)))]) rfl ?_
  refine sb_putF X hI inX1 tyX1 tyX1_ok nmX1 0 rfl rfl 3 (by decide) wl_X1_21 rfl (by decide +kernel) rfl (tyX1_ok 3 (by decide)) rfl rfl (by simp) dX1_init_25 ?_
  refine sb_iconst X (nI 0) dX1_init_28 (by decide) ?_
  refine sb_istore_1 X dX1_init_29 trivial ?_
  exact F1 16 0 rfl
abbrev s3E (a b c d : Value) : va_E := .inr (3, [a, b, .int 0, c, .int 0, .int 0, d])
abbrev s3W (G : sv_G) (A : Nat) (d : Value) (g : Nat → Option Nat) (T : va_W) : va_W := (A, s3E (.ref (A + 1)) (.ref (A + 20)) (.ref (A + 39)) d) :: (A + 39, .inl (sv_cS G, 6, .inr (.inr (.inr (.inr g))))) :: T
set_option maxHeartbeats 4000000 in
set_option maxRecDepth 100000 in
theorem c_X3_init {G : sv_G}  : sb_Ct G M_X3_init 3 (0) (s3E .null .null .null .null) 156 6808 sv_M0 := by
  refine sb_Ct_of (lo := [some (.ref (G.2.1 + 0)), none]) pn_X3 rfl rfl (Nat.le_of_ble_eq_true rfl) (by decide) rfl (fun K X Y hI hk hn hz => ?_)
  replace X : sb_X G K cX3_init RX3 2 3 := X
  show sb_W G K 2 0 _ _ _ _ _ _
  obtain ⟨A, hA⟩ : ∃ A : Nat, A = G.2.1 + 0 := ⟨_, rfl⟩
  rw [← hA] at hz ⊢
  refine sb_aload_0 X dX3_init_0 ?_
  refine sb_objInit X wk_X3_o dX3_init_1 ?_
  have hb0 : A = G.2.1 := hA
  have FE : ∀ d, sv_ad G 2 8 0 = A + 154 → d = Value.ref (A + 154) → sb_W G K 2 73 [some (.ref A), some (.int (nI 6))] [] (s3W G A d (fun q => if q < 6 then some (A + 40 + 19 * q) else none) (sv_seg G sv_M0 1 38 ++ sv_seg G sv_M0 40 114 ++ sv_seg G sv_M0 154 2)) (A + 156) 155 6808 := by
    intro d b2 hd
    subst hd
    refine sb_vret X Y dX3_init_73 (by omega) (by omega) (fun H hP => sv_seg_P (fun r hr => ?_))
    have hT : va_P G.2.2.1 vwCl (sv_seg G sv_M0 1 38 ++ sv_seg G sv_M0 40 114 ++ sv_seg G sv_M0 154 2) H := fun k q hk => hP (k + 2) q hk
    have hT1 : va_P G.2.2.1 vwCl (sv_seg G sv_M0 1 38) H := fun k q hk => by
      have hl := (List.getElem?_eq_some_iff.mp hk).1
      exact hT k q (by rw [List.append_assoc, List.getElem?_append_left hl]; exact hk)
    have hT2 : va_P G.2.2.1 vwCl (sv_seg G sv_M0 40 114) H := fun k q hk => by
      have hl := (List.getElem?_eq_some_iff.mp hk).1
      exact hT (38 + k) q (by rw [List.append_assoc, List.getElem?_append_right (by rw [sv_seg_len]; omega), sv_seg_len, show 38 + k - 38 = k by omega, List.getElem?_append_left hl]; exact hk)
    have hT3 : va_P G.2.2.1 vwCl (sv_seg G sv_M0 154 2) H := fun k q hk => hT (152 + k) q (by rw [List.getElem?_append_right (by rw [List.length_append, sv_seg_len, sv_seg_len]; omega), List.length_append, sv_seg_len, sv_seg_len, show 152 + k - (38 + 114) = k by omega]; exact hk)
    have a1 : sv_ad G 10 0 0 = A + 1 := by rw [hb0]; rfl
    have a2 : sv_ad G 10 1 0 = A + 20 := by rw [hb0]; rfl
    have a3 : sv_ad G 1 8 0 = A + 39 := by rw [hb0]; rfl
    rw [show G.2.1 + (0 + r) = A + r by omega, Nat.zero_add]
    by_cases c0 : r = 0
    · subst c0
      rw [sv_dec_at (o := 0) (k := 0) (i := 8) (j := 0) (by omega) rfl]
      have e : sv_ent G sv_M0 0 8 0 = s3E (.ref (A + 1)) (.ref (A + 20)) (.ref (A + 39)) (.ref (A + 154)) := by simp only [sv_ent, a1, a2, a3, b2, sv_M0_0 (show (0 : Nat) ≠ 11 by decide) (show (0 : Nat) ≠ 5 by decide)]
      rw [e]
      exact hP 0 _ rfl
    · by_cases c1 : r < 39
      · have := sv_P_seg hT1 (r := r - 1) (by omega)
        rw [show G.2.1 + (1 + (r - 1)) = A + r by omega, show 1 + (r - 1) = r by omega] at this
        exact this
      · by_cases c2 : r = 39
        · subst c2
          rw [sv_dec_at (o := 39) (k := 1) (i := 8) (j := 0) (by omega) rfl]
          refine sb_arrQ (hP 1 _ rfl) (fun q hq => ?_)
          rw [if_pos hq]
          show some _ = some (G.2.1 + sv_sb (q + 2))
          unfold sv_sb
          rw [if_neg (by omega), show A + 40 + 19 * q = G.2.1 + (2 + 19 * (q + 2)) by omega]
        · by_cases c3 : r < 154
          · have := sv_P_seg hT2 (r := r - 40) (by omega)
            rw [show G.2.1 + (40 + (r - 40)) = A + r by omega, show 40 + (r - 40) = r by omega] at this
            exact this
          · have := sv_P_seg hT3 (r := r - 154) (by omega)
            rw [show G.2.1 + (154 + (r - 154)) = A + r by omega, show 154 + (r - 154) = r by omega] at this
            exact this
  have F1 : ∀ m r : Nat, r + m = 6 → sb_W G K 2 37 [some (.ref A), some (.int (nI r))] [] (s3W G A .null (fun q => if q < r then some (A + 40 + 19 * q) else none) (sv_seg G sv_M0 1 38 ++ sv_seg G sv_M0 40 (19 * r))) (A + 40 + 19 * r) (39 + 19 * r) (1686 + 840 * r) := by
    intro m
    induction m with
    | zero =>
      intro r hr
      obtain rfl : r = 6 := by omega
      refine sb_iload_1 X dX3_init_37 ?_
      refine sb_bipush X (nI 6) dX3_init_38 (by decide) ?_
      refine sb_icmp_ge X 62 dX3_init_40 (by decide) (fun _ => ?_) (fun q => absurd (nI_le (Nat.le_refl 6) (by omega)) q)
      refine sb_aload_0 X dX3_init_62 ?_
      refine sb_new (ci := 0) (fs := [.null, .int 0]) X inX0 tyX0 tyX0_ok wk_X0_c wk_X0_i wn_X0 rfl (fun j hj => by match j, hj with | 0, _ => rfl | 1, _ => rfl) (by omega) (by omega) dX3_init_63 ?_
      refine sb_dup X dX3_init_66 rfl ?_
      refine sb_callN X mw_X0_init rfl rfl (by decide +kernel) wl_X3_25 wi_X0_init (by decide) dX3_init_67 (Nat.le_of_ble_eq_true rfl) c_X0_init (show A + 40 + 19 * 6 = G.2.1 + 154 by omega) (by omega) (by decide) (by omega) (by omega) ?_
      refine sb_ws (ws2 := s3W G A .null (fun q => if q < 6 then some (A + 40 + 19 * q) else none) (sv_seg G sv_M0 1 38 ++ sv_seg G sv_M0 40 114 ++ sv_seg G sv_M0 154 2)) rfl ?_
      refine sb_putF X hI inX3 tyX3 tyX3_ok nmX3 0 rfl rfl 6 (by decide) wl_X3_26 rfl (by decide +kernel) rfl (tyX3_ok 6 (by decide)) rfl rfl (by simp) dX3_init_70 ?_
      refine sb_ws (ws2 := s3W G A (.ref (A + 40 + 19 * 6)) (fun q => if q < 6 then some (A + 40 + 19 * q) else none) (sv_seg G sv_M0 1 38 ++ sv_seg G sv_M0 40 114 ++ sv_seg G sv_M0 154 2)) rfl ?_
      exact sb_num (by omega) (FE _ (by rw [hb0]; rfl) (by rw [show A + 40 + 19 * 6 = A + 154 by omega]))
    | succ m ih =>
      intro r hr
      have hsb : sv_off 10 (r + 2) 0 = 40 + 19 * r := by
        show sv_sb (r + 2) = _
        unfold sv_sb
        rw [if_neg (by omega)]
        omega
      refine sb_iload_1 X dX3_init_37 ?_
      refine sb_bipush X (nI 6) dX3_init_38 (by decide) ?_
      refine sb_icmp_ge X 62 dX3_init_40 (by decide) (fun q => absurd ((nI_leI (by omega) (by omega)).mp q) (by omega)) (fun _ => ?_)
      refine sb_aload_0 X dX3_init_43 ?_
      refine sb_get X inX3 0 rfl rfl 3 (by decide) wl_X3_19 rfl rfl dX3_init_44 ?_
      refine sb_iload_1 X dX3_init_47 ?_
      refine sb_new (ci := 1) (fs := [.int 0, .null, .null, .null]) X inX1 tyX1 tyX1_ok wk_X1_c wk_X1_i wn_X1 rfl (fun j hj => by match j, hj with | 0, _ => rfl | 1, _ => rfl | 2, _ => rfl | 3, _ => rfl) (by omega) (by omega) dX3_init_48 ?_
      refine sb_dup X dX3_init_51 rfl ?_
      refine sb_callN X mw_X1_init rfl rfl (by decide +kernel) wl_X3_11 wi_X1_init (by decide) dX3_init_52 (Nat.le_of_ble_eq_true rfl) (c_X1_init (i := r + 2) (by omega)) (show A + 40 + 19 * r = G.2.1 + sv_off 10 (r + 2) 0 by omega) (by omega) (by decide) (by omega) (by omega) ?_
      refine sb_ws (ws2 := s3W G A .null (fun q => if q < r then some (A + 40 + 19 * q) else none) (sv_seg G sv_M0 1 38 ++ sv_seg G sv_M0 40 (19 * r + 19))) (by rw [← sv_seg_app, ← List.append_assoc, hsb]; rfl) ?_
      have hv : (s3W G A .null (fun q => if q < r then some (A + 40 + 19 * q) else none) (sv_seg G sv_M0 1 38 ++ sv_seg G sv_M0 40 (19 * r + 19)))[38 + 19 * r + 2]? = some (A + 40 + 19 * r, sv_ent G sv_M0 10 (r + 2) 0) := by
        show (sv_seg G sv_M0 1 38 ++ sv_seg G sv_M0 40 (19 * r + 19))[38 + 19 * r]? = _
        rw [List.getElem?_append_right (by rw [sv_seg_len]; omega), sv_seg_len, show 38 + 19 * r - 38 = 19 * r by omega, sv_seg_at (by omega), sv_dec_at (o := 40 + 19 * r) (k := 10) (i := r + 2) (j := 0) (by omega) hsb.symm, show G.2.1 + (40 + 19 * r) = A + 40 + 19 * r by omega]
      refine sb_aast X 1 3 (38 + 19 * r + 2) 1 rfl rfl hv rfl rfl (by omega) (by omega) dX3_init_55 ?_
      refine sb_ws (ws2 := s3W G A .null (fun q => if q < r + 1 then some (A + 40 + 19 * q) else none) (sv_seg G sv_M0 1 38 ++ sv_seg G sv_M0 40 (19 * (r + 1)))) (by rw [← sb_upQ r (fun q => A + 40 + 19 * q)]; rfl) ?_
      refine sb_inc1_1 X dX3_init_56 trivial ?_
      refine sb_goto X 37 dX3_init_59 (by decide) ?_
      exact sb_num (by omega) (ih (r + 1) (by omega))
  refine sb_aload_0 X dX3_init_4 ?_
  refine sb_new (ci := 1) (fs := [.int 0, .null, .null, .null]) X inX1 tyX1 tyX1_ok wk_X1_c wk_X1_i wn_X1 rfl (fun j hj => by match j, hj with | 0, _ => rfl | 1, _ => rfl | 2, _ => rfl | 3, _ => rfl) (by omega) (by omega) dX3_init_5 ?_
  refine sb_dup X dX3_init_8 rfl ?_
  refine sb_callN X mw_X1_init rfl rfl (by decide +kernel) wl_X3_11 wi_X1_init (by decide) dX3_init_9 (Nat.le_of_ble_eq_true rfl) (c_X1_init (i := 0) (by decide)) (show A + 1 = G.2.1 + 1 by omega) (by omega) (by decide) (by omega) (by omega) ?_
  refine sb_ws (ws2 := (A, s3E .null .null .null .null) :: sv_seg G sv_M0 1 19) rfl ?_
  refine sb_putF X hI inX3 tyX3 tyX3_ok nmX3 0 rfl rfl 0 (by decide) wl_X3_12 rfl (by decide +kernel) rfl (tyX3_ok 0 (by decide)) rfl rfl (by simp) dX3_init_12 ?_
  refine sb_ws (ws2 := (A, s3E (.ref (A + 1)) .null .null .null) :: sv_seg G sv_M0 1 19) rfl ?_
  refine sb_num (h2 := A + 20) (k2 := 19) (n2 := 840) (by omega) ?_
  refine sb_aload_0 X dX3_init_15 ?_
  refine sb_new (ci := 1) (fs := [.int 0, .null, .null, .null]) X inX1 tyX1 tyX1_ok wk_X1_c wk_X1_i wn_X1 rfl (fun j hj => by match j, hj with | 0, _ => rfl | 1, _ => rfl | 2, _ => rfl | 3, _ => rfl) (by omega) (by omega) dX3_init_16 ?_
  refine sb_dup X dX3_init_19 rfl ?_
  refine sb_callN X mw_X1_init rfl rfl (by decide +kernel) wl_X3_11 wi_X1_init (by decide) dX3_init_20 (Nat.le_of_ble_eq_true rfl) (c_X1_init (i := 1) (by decide)) (show A + 20 = G.2.1 + 20 by omega) (by omega) (by decide) (by omega) (by omega) ?_
  refine sb_ws (ws2 := (A, s3E (.ref (A + 1)) .null .null .null) :: sv_seg G sv_M0 1 38) (by rw [show (38 : Nat) = 19 + 19 from rfl, ← sv_seg_app]; rfl) ?_
  refine sb_putF X hI inX3 tyX3 tyX3_ok nmX3 0 rfl rfl 1 (by decide) wl_X3_16 rfl (by decide +kernel) rfl (tyX3_ok 1 (by decide)) rfl rfl (by simp) dX3_init_23 ?_
  refine sb_ws (ws2 := (A, s3E (.ref (A + 1)) (.ref (A + 20)) .null .null) :: sv_seg G sv_M0 1 38) rfl ?_
  refine sb_num (h2 := A + 39) (k2 := 38) (n2 := 1680) (by omega) ?_
  refine sb_aload_0 X dX3_init_26 ?_
  refine sb_bipush X (nI 6) dX3_init_27 (by decide) ?_
  refine sb_newQ (t0 := 3) (C := sb_SS) X rfl (sb_aoS X) wk_X1_c (by omega) (by omega) (by omega) dX3_init_29 ?_
  refine sb_num (h2 := A + 40) (k2 := 39) (n2 := 1686) (by omega) ?_
  refine sb_perm (ws2 := (A, s3E (.ref (A + 1)) (.ref (A + 20)) .null .null) :: (A + 39, .inl (sv_cS G, 6, .inr (.inr (.inr (.inr (fun _ => none)))))) :: sv_seg G sv_M0 1 38) (List.Perm.cons _ List.perm_append_comm) ?_
  refine sb_putF X hI inX3 tyX3 tyX3_ok nmX3 0 rfl rfl 3 (by decide) wl_X3_19 rfl (by decide +kernel) rfl (tyX3_ok 3 (by decide)) rfl rfl (by simp) dX3_init_32 ?_
  refine sb_ws (ws2 := s3W G A .null (fun _ => none) (sv_seg G sv_M0 1 38 ++ sv_seg G sv_M0 40 0)) (by rw [sv_seg_nil, List.append_nil]; rfl) ?_
  refine sb_iconst X (nI 0) dX3_init_35 (by decide) ?_
  refine sb_istore_1 X dX3_init_36 trivial ?_
  exact F1 6 0 rfl
