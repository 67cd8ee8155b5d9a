/-! the law's own rows: new cells behind the system's -/
def sv_Kn (K : sv_K) (c s : Nat) : sv_K := (kp K, ke K, kR K, ks K, km K, kargs K, kbelow K, kmeth K, kc K, kH K, kA K, c, s, kQ K)
def g1 (G : sv_G) (x : Nat) : sv_G := (G.1, G.2.1, G.2.2.1, G.2.2.2.1, G.2.2.2.2.1, G.2.2.2.2.2.1, G.2.2.2.2.2.2.1, 2, x, gy G, gz G)
def g2 (G : sv_G) (x : Nat) : sv_G := (G.1, G.2.1, G.2.2.1, G.2.2.2.1, G.2.2.2.2.1, G.2.2.2.2.2.1, G.2.2.2.2.2.2.1, 3, gx G, x, gz G)
def g3 (G : sv_G) (x : Nat) : sv_G := (G.1, G.2.1, G.2.2.1, G.2.2.2.1, G.2.2.2.2.1, G.2.2.2.2.2.1, G.2.2.2.2.2.2.1, 4, gx G, gy G, x)
theorem xo_lo {G : sv_G} {k : Nat} (h : k < 5 ∨ 8 ≤ k) : sv_xo G k = 0 := by
  unfold sv_xo
  split <;> first | omega | rfl

theorem ent_g1 (G : sv_G) (x : Nat) (M : sv_Mem) (k i j : Nat) (hk : k < 19) : sv_ent (g1 G x) M k i j = sv_ent G M k i j := by
  match k, hk with
  | 0, _ => rfl
  | 1, _ => rfl
  | 2, _ => rfl
  | 3, _ => rfl
  | 4, _ => rfl
  | 5, _ => rfl
  | 6, _ => rfl
  | 7, _ => rfl
  | 8, _ => rfl
  | 9, _ => rfl
  | 10, _ => rfl
  | 11, _ => rfl
  | 12, _ => rfl
  | 13, _ => rfl
  | 14, _ => rfl
  | 15, _ => rfl
  | 16, _ => rfl
  | 17, _ => rfl
  | 18, _ => rfl
  | k + 19, hk => exact absurd hk (by omega)
theorem ad_g1 (G : sv_G) (x : Nat) (k i j : Nat) (hk : k < 5 ∨ 8 ≤ k) : sv_ad (g1 G x) k i j = sv_ad G k i j := by
  have e : sv_xo (g1 G x) k = sv_xo G k := by
    by_cases h : k < 5 ∨ 8 ≤ k
    · rw [xo_lo h, xo_lo h]
    · have hh : False := by omega
      exact hh.elim
  unfold sv_ad
  rw [e]
  rfl
theorem cell_g1 (G : sv_G) (x : Nat) {M M' : sv_Mem} (hM : ∀ k i j, ¬ (k = 5 ∧ i = 9 ∧ j = 0) → M' i k j = M i k j) {o : Nat} (ho : o < 157) : sv_cell (g1 G x) M' o = sv_cell G M o := by
  obtain ⟨h1, h2, h3, h4⟩ := sv_dec_fin o (by omega)
  have hk : (sv_dec o).1 < 5 ∨ 8 ≤ (sv_dec o).1 := by
    by_cases h : o < 156
    · have := h3 h; omega
    · have := h4 (by omega); omega
  have hk2 : (sv_dec o).1 < 19 ∧ (sv_dec o).1 ≠ 5 := by omega
  unfold sv_cell
  rw [ad_g1 G x _ _ _ hk, sv_ent_congr (M := M') (M' := M) (hM _ _ _ (fun z => hk2.2 z.1)) hk2.1, ent_g1 G x M _ _ _ hk2.1]
theorem gr_P1 {G : sv_G} {x : Nat} {M : sv_Mem} {H H1 : Heap} (hg : gn G = 1) (hP : va_P G.2.2.1 vwCl (sv_cells G M) H) (hx : H.size = sv_ad (g1 G x) 5 9 0) (e1 : va_at G.2.2.1 vwCl (sv_ad (g1 G x) 5 9 0, .inl (sv_cI G, 32, .inl (fun _ => 0))) H1) (o1 : ∀ q, q < H.size → H1[q]? = H[q]?) : va_P (g1 G x).2.2.1 vwCl (sv_cells (g1 G x) (sv_upA M 9 5 0 (fun _ => 0))) H1 := by
  intro o q hq
  have hn : sv_n (g1 G x) = 158 := rfl
  have hn0 : sv_n G = 157 := by unfold sv_n; omega
  have ho : o < sv_n (g1 G x) := by
    have := (List.getElem?_eq_some_iff.mp hq).1
    rw [sv_cells_len] at this
    exact this
  rw [sv_cells_get _ _ ho] at hq
  cases hq
  by_cases h : o < 157
  · rw [cell_g1 G x (M := M) (sv_upA_ne M 9 5 0 _) h]
    have hc := hP o _ (sv_cells_get G M (by omega))
    exact hc.kept (o1 _ hc.lt)
  · obtain rfl : o = 157 := by omega
    have e : sv_cell (g1 G x) (sv_upA M 9 5 0 (fun _ => 0)) 157 = (sv_ad (g1 G x) 5 9 0, .inl (sv_cI G, 32, .inl (fun _ => 0))) := by
      show (sv_ad (g1 G x) 5 9 0, (.inl (sv_cI G, 32, .inl (sv_upA M 9 5 0 (fun _ => 0) 9 5 0)) : va_E)) = _
      rw [sv_upA_at]
    rw [e]
    exact e1
theorem gr_back1 {G : sv_G} {x : Nat} {M : sv_Mem} {H : Heap} (hg : gn G = 1) (hP : va_P (g1 G x).2.2.1 vwCl (sv_cells (g1 G x) M) H) : va_P G.2.2.1 vwCl (sv_cells G M) H := by
  intro o q hq
  have hn : sv_n (g1 G x) = 158 := rfl
  have hn0 : sv_n G = 157 := by unfold sv_n; omega
  have ho : o < sv_n G := by
    have := (List.getElem?_eq_some_iff.mp hq).1
    rw [sv_cells_len] at this
    exact this
  rw [sv_cells_get _ _ ho] at hq
  cases hq
  rw [← cell_g1 G x (M := M) (M' := M) (fun _ _ _ _ => rfl) (by omega)]
  exact hP o _ (sv_cells_get _ _ (by omega))
theorem ent_g2 (G : sv_G) (x : Nat) (M : sv_Mem) (k i j : Nat) (hk : k < 19) : sv_ent (g2 G x) M k i j = sv_ent G M k i j := by
  match k, hk with
  | 0, _ => rfl
  | 1, _ => rfl
  | 2, _ => rfl
  | 3, _ => rfl
  | 4, _ => rfl
  | 5, _ => rfl
  | 6, _ => rfl
  | 7, _ => rfl
  | 8, _ => rfl
  | 9, _ => rfl
  | 10, _ => rfl
  | 11, _ => rfl
  | 12, _ => rfl
  | 13, _ => rfl
  | 14, _ => rfl
  | 15, _ => rfl
  | 16, _ => rfl
  | 17, _ => rfl
  | 18, _ => rfl
  | k + 19, hk => exact absurd hk (by omega)
theorem ad_g2 (G : sv_G) (x : Nat) (k i j : Nat) (hk : k < 6 ∨ 8 ≤ k) : sv_ad (g2 G x) k i j = sv_ad G k i j := by
  have e : sv_xo (g2 G x) k = sv_xo G k := by
    by_cases h : k < 5 ∨ 8 ≤ k
    · rw [xo_lo h, xo_lo h]
    · have hh : k = 5 := by omega
      subst hh
      rfl
  unfold sv_ad
  rw [e]
  rfl
theorem cell_g2 (G : sv_G) (x : Nat) {M M' : sv_Mem} (hM : ∀ k i j, ¬ (k = 6 ∧ i = 9 ∧ j = 0) → M' i k j = M i k j) {o : Nat} (ho : o < 158) : sv_cell (g2 G x) M' o = sv_cell G M o := by
  obtain ⟨h1, h2, h3, h4⟩ := sv_dec_fin o (by omega)
  have hk : (sv_dec o).1 < 6 ∨ 8 ≤ (sv_dec o).1 := by
    by_cases h : o < 156
    · have := h3 h; omega
    · have := h4 (by omega); omega
  have hk2 : (sv_dec o).1 < 19 ∧ (sv_dec o).1 ≠ 6 := by omega
  unfold sv_cell
  rw [ad_g2 G x _ _ _ hk, sv_ent_congr (M := M') (M' := M) (hM _ _ _ (fun z => hk2.2 z.1)) hk2.1, ent_g2 G x M _ _ _ hk2.1]
theorem gr_P2 {G : sv_G} {x : Nat} {M : sv_Mem} {H H1 : Heap} (hg : gn G = 2) (hP : va_P G.2.2.1 vwCl (sv_cells G M) H) (hx : H.size = sv_ad (g2 G x) 6 9 0) (e1 : va_at G.2.2.1 vwCl (sv_ad (g2 G x) 6 9 0, .inl (sv_cI G, 48, .inl (fun _ => 0))) H1) (o1 : ∀ q, q < H.size → H1[q]? = H[q]?) : va_P (g2 G x).2.2.1 vwCl (sv_cells (g2 G x) (sv_upA M 9 6 0 (fun _ => 0))) H1 := by
  intro o q hq
  have hn : sv_n (g2 G x) = 159 := rfl
  have hn0 : sv_n G = 158 := by unfold sv_n; omega
  have ho : o < sv_n (g2 G x) := by
    have := (List.getElem?_eq_some_iff.mp hq).1
    rw [sv_cells_len] at this
    exact this
  rw [sv_cells_get _ _ ho] at hq
  cases hq
  by_cases h : o < 158
  · rw [cell_g2 G x (M := M) (sv_upA_ne M 9 6 0 _) h]
    have hc := hP o _ (sv_cells_get G M (by omega))
    exact hc.kept (o1 _ hc.lt)
  · obtain rfl : o = 158 := by omega
    have e : sv_cell (g2 G x) (sv_upA M 9 6 0 (fun _ => 0)) 158 = (sv_ad (g2 G x) 6 9 0, .inl (sv_cI G, 48, .inl (fun _ => 0))) := by
      show (sv_ad (g2 G x) 6 9 0, (.inl (sv_cI G, 48, .inl (sv_upA M 9 6 0 (fun _ => 0) 9 6 0)) : va_E)) = _
      rw [sv_upA_at]
    rw [e]
    exact e1
theorem gr_back2 {G : sv_G} {x : Nat} {M : sv_Mem} {H : Heap} (hg : gn G = 2) (hP : va_P (g2 G x).2.2.1 vwCl (sv_cells (g2 G x) M) H) : va_P G.2.2.1 vwCl (sv_cells G M) H := by
  intro o q hq
  have hn : sv_n (g2 G x) = 159 := rfl
  have hn0 : sv_n G = 158 := by unfold sv_n; omega
  have ho : o < sv_n G := by
    have := (List.getElem?_eq_some_iff.mp hq).1
    rw [sv_cells_len] at this
    exact this
  rw [sv_cells_get _ _ ho] at hq
  cases hq
  rw [← cell_g2 G x (M := M) (M' := M) (fun _ _ _ _ => rfl) (by omega)]
  exact hP o _ (sv_cells_get _ _ (by omega))
theorem ent_g3 (G : sv_G) (x : Nat) (M : sv_Mem) (k i j : Nat) (hk : k < 19) : sv_ent (g3 G x) M k i j = sv_ent G M k i j := by
  match k, hk with
  | 0, _ => rfl
  | 1, _ => rfl
  | 2, _ => rfl
  | 3, _ => rfl
  | 4, _ => rfl
  | 5, _ => rfl
  | 6, _ => rfl
  | 7, _ => rfl
  | 8, _ => rfl
  | 9, _ => rfl
  | 10, _ => rfl
  | 11, _ => rfl
  | 12, _ => rfl
  | 13, _ => rfl
  | 14, _ => rfl
  | 15, _ => rfl
  | 16, _ => rfl
  | 17, _ => rfl
  | 18, _ => rfl
  | k + 19, hk => exact absurd hk (by omega)
theorem ad_g3 (G : sv_G) (x : Nat) (k i j : Nat) (hk : k < 7 ∨ 8 ≤ k) : sv_ad (g3 G x) k i j = sv_ad G k i j := by
  have e : sv_xo (g3 G x) k = sv_xo G k := by
    by_cases h : k < 5 ∨ 8 ≤ k
    · rw [xo_lo h, xo_lo h]
    · have hh : k = 5 ∨ k = 6 := by omega
      rcases hh with rfl | rfl
      · rfl
      · rfl
  unfold sv_ad
  rw [e]
  rfl
theorem cell_g3 (G : sv_G) (x : Nat) {M M' : sv_Mem} (hM : ∀ k i j, ¬ (k = 7 ∧ i = 9 ∧ j = 0) → M' i k j = M i k j) {o : Nat} (ho : o < 159) : sv_cell (g3 G x) M' o = sv_cell G M o := by
  obtain ⟨h1, h2, h3, h4⟩ := sv_dec_fin o (by omega)
  have hk : (sv_dec o).1 < 7 ∨ 8 ≤ (sv_dec o).1 := by
    by_cases h : o < 156
    · have := h3 h; omega
    · have := h4 (by omega); omega
  have hk2 : (sv_dec o).1 < 19 ∧ (sv_dec o).1 ≠ 7 := by omega
  unfold sv_cell
  rw [ad_g3 G x _ _ _ hk, sv_ent_congr (M := M') (M' := M) (hM _ _ _ (fun z => hk2.2 z.1)) hk2.1, ent_g3 G x M _ _ _ hk2.1]
theorem gr_P3 {G : sv_G} {x : Nat} {M : sv_Mem} {H H1 : Heap} (hg : gn G = 3) (hP : va_P G.2.2.1 vwCl (sv_cells G M) H) (hx : H.size = sv_ad (g3 G x) 7 9 0) (e1 : va_at G.2.2.1 vwCl (sv_ad (g3 G x) 7 9 0, .inl (sv_cI G, 16, .inl (fun _ => 0))) H1) (o1 : ∀ q, q < H.size → H1[q]? = H[q]?) : va_P (g3 G x).2.2.1 vwCl (sv_cells (g3 G x) (sv_upA M 9 7 0 (fun _ => 0))) H1 := by
  intro o q hq
  have hn : sv_n (g3 G x) = 160 := rfl
  have hn0 : sv_n G = 159 := by unfold sv_n; omega
  have ho : o < sv_n (g3 G x) := by
    have := (List.getElem?_eq_some_iff.mp hq).1
    rw [sv_cells_len] at this
    exact this
  rw [sv_cells_get _ _ ho] at hq
  cases hq
  by_cases h : o < 159
  · rw [cell_g3 G x (M := M) (sv_upA_ne M 9 7 0 _) h]
    have hc := hP o _ (sv_cells_get G M (by omega))
    exact hc.kept (o1 _ hc.lt)
  · obtain rfl : o = 159 := by omega
    have e : sv_cell (g3 G x) (sv_upA M 9 7 0 (fun _ => 0)) 159 = (sv_ad (g3 G x) 7 9 0, .inl (sv_cI G, 16, .inl (fun _ => 0))) := by
      show (sv_ad (g3 G x) 7 9 0, (.inl (sv_cI G, 16, .inl (sv_upA M 9 7 0 (fun _ => 0) 9 7 0)) : va_E)) = _
      rw [sv_upA_at]
    rw [e]
    exact e1
theorem gr_back3 {G : sv_G} {x : Nat} {M : sv_Mem} {H : Heap} (hg : gn G = 3) (hP : va_P (g3 G x).2.2.1 vwCl (sv_cells (g3 G x) M) H) : va_P G.2.2.1 vwCl (sv_cells G M) H := by
  intro o q hq
  have hn : sv_n (g3 G x) = 160 := rfl
  have hn0 : sv_n G = 159 := by unfold sv_n; omega
  have ho : o < sv_n G := by
    have := (List.getElem?_eq_some_iff.mp hq).1
    rw [sv_cells_len] at this
    exact this
  rw [sv_cells_get _ _ ho] at hq
  cases hq
  rw [← cell_g3 G x (M := M) (M' := M) (fun _ _ _ _ => rfl) (by omega)]
  exact hP o _ (sv_cells_get _ _ (by omega))
section SWN
variable {G : sv_G} {K : sv_K} {cc : ByteArray} {own : String} {nL d : Nat} {M M1 : sv_Mem} {pc : Nat} {lo : List (Option Value)} {rest : List Value} {c s : Nat}
theorem X_n (X : sv_X G K cc own nL d) (hc : c ≤ kcells K) (hs : s ≤ kslots K) : sv_X G (sv_Kn K c s) cc own nL d := by
  obtain ⟨x1, x2, x3, x4, x5, x6, x7, x8, x9, x10, x11, x12⟩ := X
  exact ⟨x1, x2, x3, x4, x5, x6, x7, x8, x9, Nat.le_trans hc x10, Nat.le_trans hs x11, x12⟩
theorem sw_widen (hc : c ≤ kcells K) (hs : s ≤ kslots K) (k : sw_W G K nL pc lo rest M) : sw_W G (sv_Kn K c s) nL pc lo rest M := fun H locs ls hP hS hL => W.widen hc hs (k H locs ls hP hS hL)
theorem X_g1 {x : Nat} (X : sv_X G K cc own nL d) : sv_X (g1 G x) K cc own nL d := X
theorem sw_back1 {x : Nat} (hg : gn G = 1) (k : sw_W G K nL pc lo rest M) : sw_W (g1 G x) K nL pc lo rest M := fun H locs ls hP hS hL => k H locs ls (gr_back1 hg hP) hS hL
theorem sw_new1 (X : sv_X G K cc own nL d) (hg : gn G = 1) (hc : c + 1 ≤ kcells K) (hs : s + 32 ≤ kslots K) (hd : decode cc pc = .ok (.newarray .int, 2)) (kk : ∀ x, sw_W (g1 G x) (sv_Kn K (c + 1) (s + 32)) nL (pc + 2) lo (.ref (sv_ad (g1 G x) 5 9 0) :: rest) (sv_upA M 9 5 0 (fun _ => 0))) : sw_W G (sv_Kn K c s) nL pc lo (.int (nI 32) :: rest) M := by
  intro H locs ls hP hS hL
  obtain ⟨r1, r2, r3, r4⟩ := sv_X_R X
  have hlt : sv_ad G 4 9 0 < H.size := (hP (sv_off 4 9 0) _ (sv_cells_at (by omega))).lt
  obtain ⟨x, hx⟩ : ∃ x, H.size = sv_ad (g1 G x) 5 9 0 := ⟨H.size - (G.2.1 + 157), by
    show H.size = G.2.1 + 157 + (H.size - (G.2.1 + 157))
    have : G.2.1 + 156 + 0 < H.size := hlt
    omega⟩
  refine va_newaK (atype := .int) X.1 X.2.1 (sv_X_word X wj_int) rfl hd rfl (nI_nonneg (by omega)) (nI_clamp (by omega)) (by show 32 * 4 ≤ _; omega) (Nat.le_trans hc r3) (Nat.le_trans hs r4) hx (fun H1 cA e1 z1 o1 hAr hNm => ?_)
  have hcA : cA = sv_cI G := Option.some.inj (hNm.symm.trans ((sv_X_K X).2 0 _ rfl).2)
  subst hcA
  rw [← hx] at o1 z1
  exact kk x H1 locs ls (gr_P1 hg hP hx e1 o1) ⟨Nat.le_trans hS.1 (by omega), fun q h1 h2 => (o1 q (Nat.lt_of_lt_of_le h1 hS.1)).trans (hS.2.1 q h1 h2), hS.2.2⟩ hL
theorem X_g2 {x : Nat} (X : sv_X G K cc own nL d) : sv_X (g2 G x) K cc own nL d := X
theorem sw_back2 {x : Nat} (hg : gn G = 2) (k : sw_W G K nL pc lo rest M) : sw_W (g2 G x) K nL pc lo rest M := fun H locs ls hP hS hL => k H locs ls (gr_back2 hg hP) hS hL
theorem sw_new2 (X : sv_X G K cc own nL d) (hg : gn G = 2) (hc : c + 1 ≤ kcells K) (hs : s + 48 ≤ kslots K) (hd : decode cc pc = .ok (.newarray .int, 2)) (kk : ∀ x, sw_W (g2 G x) (sv_Kn K (c + 1) (s + 48)) nL (pc + 2) lo (.ref (sv_ad (g2 G x) 6 9 0) :: rest) (sv_upA M 9 6 0 (fun _ => 0))) : sw_W G (sv_Kn K c s) nL pc lo (.int (nI 48) :: rest) M := by
  intro H locs ls hP hS hL
  obtain ⟨r1, r2, r3, r4⟩ := sv_X_R X
  have hlt : sv_ad G 5 9 0 < H.size := (hP (sv_off 5 9 0) _ (sv_cells_at (by omega))).lt
  obtain ⟨x, hx⟩ : ∃ x, H.size = sv_ad (g2 G x) 6 9 0 := ⟨H.size - (G.2.1 + 158 + gx G), by
    show H.size = G.2.1 + 158 + (gx G + (H.size - (G.2.1 + 158 + gx G)))
    have : G.2.1 + 157 + gx G < H.size := hlt
    omega⟩
  refine va_newaK (atype := .int) X.1 X.2.1 (sv_X_word X wj_int) rfl hd rfl (nI_nonneg (by omega)) (nI_clamp (by omega)) (by show 48 * 4 ≤ _; omega) (Nat.le_trans hc r3) (Nat.le_trans hs r4) hx (fun H1 cA e1 z1 o1 hAr hNm => ?_)
  have hcA : cA = sv_cI G := Option.some.inj (hNm.symm.trans ((sv_X_K X).2 0 _ rfl).2)
  subst hcA
  rw [← hx] at o1 z1
  exact kk x H1 locs ls (gr_P2 hg hP hx e1 o1) ⟨Nat.le_trans hS.1 (by omega), fun q h1 h2 => (o1 q (Nat.lt_of_lt_of_le h1 hS.1)).trans (hS.2.1 q h1 h2), hS.2.2⟩ hL
theorem X_g3 {x : Nat} (X : sv_X G K cc own nL d) : sv_X (g3 G x) K cc own nL d := X
theorem sw_back3 {x : Nat} (hg : gn G = 3) (k : sw_W G K nL pc lo rest M) : sw_W (g3 G x) K nL pc lo rest M := fun H locs ls hP hS hL => k H locs ls (gr_back3 hg hP) hS hL
theorem sw_new3 (X : sv_X G K cc own nL d) (hg : gn G = 3) (hc : c + 1 ≤ kcells K) (hs : s + 16 ≤ kslots K) (hd : decode cc pc = .ok (.newarray .int, 2)) (kk : ∀ x, sw_W (g3 G x) (sv_Kn K (c + 1) (s + 16)) nL (pc + 2) lo (.ref (sv_ad (g3 G x) 7 9 0) :: rest) (sv_upA M 9 7 0 (fun _ => 0))) : sw_W G (sv_Kn K c s) nL pc lo (.int (nI 16) :: rest) M := by
  intro H locs ls hP hS hL
  obtain ⟨r1, r2, r3, r4⟩ := sv_X_R X
  have hlt : sv_ad G 6 9 0 < H.size := (hP (sv_off 6 9 0) _ (sv_cells_at (by omega))).lt
  obtain ⟨x, hx⟩ : ∃ x, H.size = sv_ad (g3 G x) 7 9 0 := ⟨H.size - (G.2.1 + 159 + gx G + gy G), by
    show H.size = G.2.1 + 159 + (gx G + gy G + (H.size - (G.2.1 + 159 + gx G + gy G)))
    have : G.2.1 + 158 + (gx G + gy G) < H.size := hlt
    omega⟩
  refine va_newaK (atype := .int) X.1 X.2.1 (sv_X_word X wj_int) rfl hd rfl (nI_nonneg (by omega)) (nI_clamp (by omega)) (by show 16 * 4 ≤ _; omega) (Nat.le_trans hc r3) (Nat.le_trans hs r4) hx (fun H1 cA e1 z1 o1 hAr hNm => ?_)
  have hcA : cA = sv_cI G := Option.some.inj (hNm.symm.trans ((sv_X_K X).2 0 _ rfl).2)
  subst hcA
  rw [← hx] at o1 z1
  exact kk x H1 locs ls (gr_P3 hg hP hx e1 o1) ⟨Nat.le_trans hS.1 (by omega), fun q h1 h2 => (o1 q (Nat.lt_of_lt_of_le h1 hS.1)).trans (hS.2.1 q h1 h2), hS.2.2⟩ hL
end SWN
def sv_roomA (d mc ms : Nat) : Room := { frames := d, cells := mc, slots := ms, locals := 36 * d }
/-- a contract that makes cells -/
def sv_CtA (G : sv_G) (m : sv_M) (d : Nat) (args : List Value) (M : sv_Mem) (ret : Option Value) (M' : sv_Mem) (mc ms : Nat) : Prop :=
  Met G.1 m.1 (sv_ws m) (sv_roomA d mc ms) (sv_Pc G args M) (sv_Qc G ret M') mc ms (fun q => G.2.1 ≤ q)
section SWA
variable {G : sv_G} {K : sv_K} {cc : ByteArray} {own : String} {nL d : Nat} {M M1 : sv_Mem} {pc : Nat} {lo : List (Option Value)} {rest : List Value} {c s mc ms : Nat} {ret : Option Value}
theorem sv_CtA_of {m : sv_M} {d : Nat} {vs : List Value} {lo : List (Option Value)} (hp : plainName m.1.cls = true) (h1 : sv_cat1 vs = true) (hn : vs.length ≤ m.2.2.1) (hlo : vs.map some ++ List.replicate (m.2.2.1 - vs.length) none = lo)
    (body : ∀ K : sv_K, sv_X G K m.2.1 m.1.cls m.2.2.1 d → sv_Y G K m.2.2.2 ret M1 → kcells K = mc → kslots K = ms → sw_W G (sv_Kn K 0 0) m.2.2.1 0 lo [] M) : sv_CtA G m d vs M ret M1 mc ms := by
  refine Met.ofW (cc := m.2.1) (maxL := m.2.2.1) (ret := m.2.2.2) (ws' := lw_g) hp rfl ?_
  intro p e s mm args below meth c s₁ B hml hv
  obtain ⟨rfl, hP, hK, hN⟩ := hv
  have hts := atoms_spec (ws := sv_ws m) B.pre
  have hown : s.vm.findClass m.1.cls = some mm.cls := findClass_of_methodNamed B.named
  have hb := body (p, e, (headSpec (sv_ws m) (sv_roomA d mc ms)).room, s, mm, vs.toArray, below, meth, c, s.heap, (fun q => G.2.1 ≤ q), mc, ms, MQ below (sv_Qc G ret M1) vs.toArray s mc ms (fun q => G.2.1 ≤ q))
    ⟨B.exec, B.bytes, hml, hown, fun w hw => hts w (List.mem_cons_of_mem _ hw), hK, fun q h => h, Nat.le_refl _, Nat.le_refl _, Nat.le_refl _, Nat.le_refl _, hN⟩ ⟨rfl, B.returns, B.notSynchronized, rfl, rfl⟩ rfl rfl
  rw [lg_entry_eq]
  exact hb s.heap [] _ hP va_S.rf (sv_entry h1 hn hlo)
theorem sw_runA (X : sv_X G K cc own nL d) {st : List Value} {a : Array Value} (hr : ∀ H locs ls, va_P G.2.2.1 vwCl (sv_cells G M) H → sv_L ls nL lo → va_Run (kp K) G.1 (ke K) (kR K) (ks K) (km K) (kargs K) (kbelow K) (kmeth K) (kc K) H locs c s mc ms (F0 (km K) pc ls st) rest (sv_Qc G ret M1 a) (fun q => G.2.1 ≤ q))
    (kk : sw_W G (sv_Kn K (c + mc) (s + ms)) nL (pc + 3) lo (ret.toList ++ rest) M1) : sw_W G (sv_Kn K c s) nL pc lo st M := by
  intro H locs ls hP hS hL T hT XX
  obtain ⟨v, st₀, t, T', L, h0, X', hLf, e1, e2, ⟨hv, hp, hz, hk⟩, stp⟩ := hr H locs ls hP hL T hT XX
  cases hv
  rw [h0] at hz hk
  obtain ⟨t2, a1, b1⟩ := kk T'.heap (locs ++ L) ls (by rw [e1]; exact hp) ⟨Nat.le_trans hS.1 (by rw [e1]; exact hz), fun q h1 h2 => by rw [e1, hk q (Nat.lt_of_lt_of_le h1 hS.1) (fun z => h2 (sv_X_A X q z))]; exact hS.2.1 q h1 h2, fun q hq => by
      rcases List.mem_append.mp hq with h | h
      · exact hS.2.2 q h
      · exact sv_X_A X _ (hLf q h)⟩ hL T' rfl X'
  exact ⟨t2, stp t2 a1, b1⟩
variable {m : sv_M} {d2 n index : Nat} {As : List Value}
theorem sv_fitA (X : sv_X G K cc own nL d) (h : sv_MW m) (hdd : d2 + 1 ≤ d) : (sv_roomA d2 mc ms).frames + 1 ≤ (kR K).frames ∧ 8 + (m.2.2.1 + 11) + (sv_roomA d2 mc ms).locals ≤ (kR K).locals := by
  obtain ⟨r1, r2, r3, r4⟩ := sv_X_R X
  obtain ⟨-, -, h3, -⟩ := h
  unfold sv_roomA
  constructor
  · show d2 + 1 ≤ _
    omega
  · show 8 + (m.2.2.1 + 11) + 36 * d2 ≤ _
    omega
theorem sv_BA (X : sv_X G K cc own nL d) (hm : sv_MW m) (hn : (parseMethodDescriptor m.1.desc).map (fun q => q.parameters.length) = some n) (hl : Cond.methodLink own index m.1 ∈ lw_g) (hdd : d2 + 1 ≤ d) : CallB (kR K) (ks K) (kargs K) own index m.1 m.2.1 m.2.2.1 m.2.2.2 (sv_ws m) (sv_roomA d2 mc ms) mc ms n :=
  callB_of (ws' := lw_g) n X.2.2.2.2.1 (sv_good hm) rfl rfl rfl (sv_X_word X hm.2.1) (sv_X_word X hl) ⟨hm.2.2.2.1, hm.2.2.2.2, hn⟩ (sv_fitA X hm hdd)
theorem sw_callSA (X : sv_X G K cc own nL d) (hm : sv_MW m) (hn : (parseMethodDescriptor m.1.desc).map (fun q => q.parameters.length) = some n) (hAs : As.length = n) (hl : Cond.methodLink own index m.1 ∈ lw_g) (hs : Cond.static m.1 ∈ lw_g) (hdd : d2 + 1 ≤ d)
    (hd : decode cc pc = .ok (.invokestatic index, 3)) (hw : (rest.map fun v => v.category).sum ≤ 8) {st : List Value} (hst : st = As.reverse ++ rest) (hM : sv_CtA G m d2 As M ret M1 mc ms) (hcm : c + mc ≤ kcells K) (hsm : s + ms ≤ kslots K) (kk : sw_W G (sv_Kn K (c + mc) (s + ms)) nL (pc + 3) lo (ret.toList ++ rest) M1) : sw_W G (sv_Kn K c s) nL pc lo st M :=
  sw_runA X (fun H locs ls hP hL => va_runS (As := As) (rest := rest) ⟨X.1, X.2.1, X.2.2.1, sv_X_own X, X.2.2.2.2.1⟩ hM ⟨sv_BA X hm hn hl hdd, sv_X_word X hs⟩ ⟨sv_blind, sv_pre X hP⟩ rfl hAs hL.1 hst (lv_room hw) hd ⟨Nat.le_trans hcm (sv_X_R X).2.2.1, Nat.le_trans hsm (sv_X_R X).2.2.2⟩) kk
end SWA
