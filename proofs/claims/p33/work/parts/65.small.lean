section SWL
variable {G : sv_G} {K : sv_K} {cc : ByteArray} {own : String} {nL d : Nat} {M : sv_Mem} {pc : Nat} {lo : List (Option Value)} {rest : List Value}
theorem sw_iload_13 (X : sv_X G K cc own nL d) {v0 v1 v2 v3 v4 v5 v6 v7 v8 v9 v10 v11 v12 : Option Value} {t : List (Option Value)} {x : Int32} (hd : decode cc pc = .ok (.iload 13, 2)) (k : sw_W G K nL (pc + 2) (v0 :: v1 :: v2 :: v3 :: v4 :: v5 :: v6 :: v7 :: v8 :: v9 :: v10 :: v11 :: v12 :: some (.int x) :: t) (.int x :: rest) M) : sw_W G K nL pc (v0 :: v1 :: v2 :: v3 :: v4 :: v5 :: v6 :: v7 :: v8 :: v9 :: v10 :: v11 :: v12 :: some (.int x) :: t) rest M := fun H locs ls hP hS hL => lv_iload X.1 X.2.1 hd (hL.2.2.2 13 _ rfl) (k H locs ls hP hS hL)
theorem sw_aload_13 (X : sv_X G K cc own nL d) {v0 v1 v2 v3 v4 v5 v6 v7 v8 v9 v10 v11 v12 : Option Value} {t : List (Option Value)} {x : Nat} (hd : decode cc pc = .ok (.aload 13, 2)) (k : sw_W G K nL (pc + 2) (v0 :: v1 :: v2 :: v3 :: v4 :: v5 :: v6 :: v7 :: v8 :: v9 :: v10 :: v11 :: v12 :: some (.ref x) :: t) (.ref x :: rest) M) : sw_W G K nL pc (v0 :: v1 :: v2 :: v3 :: v4 :: v5 :: v6 :: v7 :: v8 :: v9 :: v10 :: v11 :: v12 :: some (.ref x) :: t) rest M := fun H locs ls hP hS hL => lv_aload X.1 X.2.1 hd (hL.2.2.2 13 _ rfl) (k H locs ls hP hS hL)
theorem sw_istore_13 (X : sv_X G K cc own nL d) {v0 v1 v2 v3 v4 v5 v6 v7 v8 v9 v10 v11 v12 : Option Value} {w : Option Value} {t : List (Option Value)} {x : Int32} (hd : decode cc pc = .ok (.istore 13, 2)) (h1 : sv_c1 v12) (k : sw_W G K nL (pc + 2) (v0 :: v1 :: v2 :: v3 :: v4 :: v5 :: v6 :: v7 :: v8 :: v9 :: v10 :: v11 :: v12 :: some (.int x) :: t) rest M) : sw_W G K nL pc (v0 :: v1 :: v2 :: v3 :: v4 :: v5 :: v6 :: v7 :: v8 :: v9 :: v10 :: v11 :: v12 :: w :: t) (.int x :: rest) M := fun H locs ls hP hS hL => lv_istore X.1 X.2.1 hd (sv_L_has hL) (sv_L_lt hL (i := 13) (by simp)) rfl (fun ls2 h2 => k H locs ls2 hP hS (sv_L_set (w := .int x) hL h2 (i := 13) (by simp) rfl (sv_c1_no (k0 := 12) rfl h1)))
theorem sw_astore_13 (X : sv_X G K cc own nL d) {v0 v1 v2 v3 v4 v5 v6 v7 v8 v9 v10 v11 v12 : Option Value} {w : Option Value} {t : List (Option Value)} {x : Nat} (hd : decode cc pc = .ok (.astore 13, 2)) (h1 : sv_c1 v12) (k : sw_W G K nL (pc + 2) (v0 :: v1 :: v2 :: v3 :: v4 :: v5 :: v6 :: v7 :: v8 :: v9 :: v10 :: v11 :: v12 :: some (.ref x) :: t) rest M) : sw_W G K nL pc (v0 :: v1 :: v2 :: v3 :: v4 :: v5 :: v6 :: v7 :: v8 :: v9 :: v10 :: v11 :: v12 :: w :: t) (.ref x :: rest) M := fun H locs ls hP hS hL => lv_astore X.1 X.2.1 hd (sv_L_has hL) (sv_L_lt hL (i := 13) (by simp)) rfl (fun ls2 h2 => k H locs ls2 hP hS (sv_L_set (w := .ref x) hL h2 (i := 13) (by simp) rfl (sv_c1_no (k0 := 12) rfl h1)))
theorem sw_iinc_13 (X : sv_X G K cc own nL d) {v0 v1 v2 v3 v4 v5 v6 v7 v8 v9 v10 v11 v12 : Option Value} {t : List (Option Value)} {n : Int} {x : Int32} (v : Int32) (hd : decode cc pc = .ok (.iinc 13 n, 3)) (hv : x + Int32.ofInt n = v) (h1 : sv_c1 v12) (k : sw_W G K nL (pc + 3) (v0 :: v1 :: v2 :: v3 :: v4 :: v5 :: v6 :: v7 :: v8 :: v9 :: v10 :: v11 :: v12 :: some (.int v) :: t) rest M) : sw_W G K nL pc (v0 :: v1 :: v2 :: v3 :: v4 :: v5 :: v6 :: v7 :: v8 :: v9 :: v10 :: v11 :: v12 :: some (.int x) :: t) rest M := fun H locs ls hP hS hL => by
  obtain ⟨q, hq⟩ := sv_L_place hL (i := 13) (v := .int x) rfl
  exact lv_iinc X.1 X.2.1 hd (sv_L_has hL) hq hv (sv_L_lt hL (i := 13) (by simp)) rfl (fun ls2 h2 => k H locs ls2 hP hS (sv_L_set (w := .int v) hL h2 (i := 13) (by simp) rfl (sv_c1_no (k0 := 12) rfl h1)))
theorem sw_drop_13 {v0 v1 v2 v3 v4 v5 v6 v7 v8 v9 v10 v11 v12 : Option Value} {w : Option Value} {t : List (Option Value)} (k : sw_W G K nL pc (v0 :: v1 :: v2 :: v3 :: v4 :: v5 :: v6 :: v7 :: v8 :: v9 :: v10 :: v11 :: v12 :: none :: t) rest M) : sw_W G K nL pc (v0 :: v1 :: v2 :: v3 :: v4 :: v5 :: v6 :: v7 :: v8 :: v9 :: v10 :: v11 :: v12 :: w :: t) rest M := fun H locs ls hP hS hL => k H locs ls hP hS (sv_L_drop hL 13 rfl)
theorem sw_iload_14 (X : sv_X G K cc own nL d) {v0 v1 v2 v3 v4 v5 v6 v7 v8 v9 v10 v11 v12 v13 : Option Value} {t : List (Option Value)} {x : Int32} (hd : decode cc pc = .ok (.iload 14, 2)) (k : sw_W G K nL (pc + 2) (v0 :: v1 :: v2 :: v3 :: v4 :: v5 :: v6 :: v7 :: v8 :: v9 :: v10 :: v11 :: v12 :: v13 :: some (.int x) :: t) (.int x :: rest) M) : sw_W G K nL pc (v0 :: v1 :: v2 :: v3 :: v4 :: v5 :: v6 :: v7 :: v8 :: v9 :: v10 :: v11 :: v12 :: v13 :: some (.int x) :: t) rest M := fun H locs ls hP hS hL => lv_iload X.1 X.2.1 hd (hL.2.2.2 14 _ rfl) (k H locs ls hP hS hL)
theorem sw_aload_14 (X : sv_X G K cc own nL d) {v0 v1 v2 v3 v4 v5 v6 v7 v8 v9 v10 v11 v12 v13 : Option Value} {t : List (Option Value)} {x : Nat} (hd : decode cc pc = .ok (.aload 14, 2)) (k : sw_W G K nL (pc + 2) (v0 :: v1 :: v2 :: v3 :: v4 :: v5 :: v6 :: v7 :: v8 :: v9 :: v10 :: v11 :: v12 :: v13 :: some (.ref x) :: t) (.ref x :: rest) M) : sw_W G K nL pc (v0 :: v1 :: v2 :: v3 :: v4 :: v5 :: v6 :: v7 :: v8 :: v9 :: v10 :: v11 :: v12 :: v13 :: some (.ref x) :: t) rest M := fun H locs ls hP hS hL => lv_aload X.1 X.2.1 hd (hL.2.2.2 14 _ rfl) (k H locs ls hP hS hL)
theorem sw_istore_14 (X : sv_X G K cc own nL d) {v0 v1 v2 v3 v4 v5 v6 v7 v8 v9 v10 v11 v12 v13 : Option Value} {w : Option Value} {t : List (Option Value)} {x : Int32} (hd : decode cc pc = .ok (.istore 14, 2)) (h1 : sv_c1 v13) (k : sw_W G K nL (pc + 2) (v0 :: v1 :: v2 :: v3 :: v4 :: v5 :: v6 :: v7 :: v8 :: v9 :: v10 :: v11 :: v12 :: v13 :: some (.int x) :: t) rest M) : sw_W G K nL pc (v0 :: v1 :: v2 :: v3 :: v4 :: v5 :: v6 :: v7 :: v8 :: v9 :: v10 :: v11 :: v12 :: v13 :: w :: t) (.int x :: rest) M := fun H locs ls hP hS hL => lv_istore X.1 X.2.1 hd (sv_L_has hL) (sv_L_lt hL (i := 14) (by simp)) rfl (fun ls2 h2 => k H locs ls2 hP hS (sv_L_set (w := .int x) hL h2 (i := 14) (by simp) rfl (sv_c1_no (k0 := 13) rfl h1)))
theorem sw_astore_14 (X : sv_X G K cc own nL d) {v0 v1 v2 v3 v4 v5 v6 v7 v8 v9 v10 v11 v12 v13 : Option Value} {w : Option Value} {t : List (Option Value)} {x : Nat} (hd : decode cc pc = .ok (.astore 14, 2)) (h1 : sv_c1 v13) (k : sw_W G K nL (pc + 2) (v0 :: v1 :: v2 :: v3 :: v4 :: v5 :: v6 :: v7 :: v8 :: v9 :: v10 :: v11 :: v12 :: v13 :: some (.ref x) :: t) rest M) : sw_W G K nL pc (v0 :: v1 :: v2 :: v3 :: v4 :: v5 :: v6 :: v7 :: v8 :: v9 :: v10 :: v11 :: v12 :: v13 :: w :: t) (.ref x :: rest) M := fun H locs ls hP hS hL => lv_astore X.1 X.2.1 hd (sv_L_has hL) (sv_L_lt hL (i := 14) (by simp)) rfl (fun ls2 h2 => k H locs ls2 hP hS (sv_L_set (w := .ref x) hL h2 (i := 14) (by simp) rfl (sv_c1_no (k0 := 13) rfl h1)))
theorem sw_iinc_14 (X : sv_X G K cc own nL d) {v0 v1 v2 v3 v4 v5 v6 v7 v8 v9 v10 v11 v12 v13 : Option Value} {t : List (Option Value)} {n : Int} {x : Int32} (v : Int32) (hd : decode cc pc = .ok (.iinc 14 n, 3)) (hv : x + Int32.ofInt n = v) (h1 : sv_c1 v13) (k : sw_W G K nL (pc + 3) (v0 :: v1 :: v2 :: v3 :: v4 :: v5 :: v6 :: v7 :: v8 :: v9 :: v10 :: v11 :: v12 :: v13 :: some (.int v) :: t) rest M) : sw_W G K nL pc (v0 :: v1 :: v2 :: v3 :: v4 :: v5 :: v6 :: v7 :: v8 :: v9 :: v10 :: v11 :: v12 :: v13 :: some (.int x) :: t) rest M := fun H locs ls hP hS hL => by
  obtain ⟨q, hq⟩ := sv_L_place hL (i := 14) (v := .int x) rfl
  exact lv_iinc X.1 X.2.1 hd (sv_L_has hL) hq hv (sv_L_lt hL (i := 14) (by simp)) rfl (fun ls2 h2 => k H locs ls2 hP hS (sv_L_set (w := .int v) hL h2 (i := 14) (by simp) rfl (sv_c1_no (k0 := 13) rfl h1)))
theorem sw_drop_14 {v0 v1 v2 v3 v4 v5 v6 v7 v8 v9 v10 v11 v12 v13 : Option Value} {w : Option Value} {t : List (Option Value)} (k : sw_W G K nL pc (v0 :: v1 :: v2 :: v3 :: v4 :: v5 :: v6 :: v7 :: v8 :: v9 :: v10 :: v11 :: v12 :: v13 :: none :: t) rest M) : sw_W G K nL pc (v0 :: v1 :: v2 :: v3 :: v4 :: v5 :: v6 :: v7 :: v8 :: v9 :: v10 :: v11 :: v12 :: v13 :: w :: t) rest M := fun H locs ls hP hS hL => k H locs ls hP hS (sv_L_drop hL 14 rfl)
theorem sw_idiv (X : sv_X G K cc own nL d) {x y : Int32} (hne : ¬ y = 0) (hd : decode cc pc = .ok (.idiv, 1)) (k : sw_W G K nL (pc + 1) lo (.int (x / y) :: rest) M) : sw_W G K nL pc lo (.int y :: .int x :: rest) M := fun H locs ls hP hS hL => lv_idiv X.1 X.2.1 hd hne (k H locs ls hP hS hL)
theorem sw_lo {lo2 : List (Option Value)} (h : lo = lo2) (k : sw_W G K nL pc lo2 rest M) : sw_W G K nL pc lo rest M := h ▸ k
end SWL
theorem wk_L_7 : Cond.constant RL 7 935717297 ∈ lw_g := lw_g_of (List.mem_append_right _ (List.mem_of_getElem? (i := 107) (by decide +kernel))) (by decide +kernel)
theorem wk_L_8 : Cond.constant RL 8 713888759 ∈ lw_g := lw_g_of (List.mem_append_right _ (List.mem_of_getElem? (i := 108) (by decide +kernel))) (by decide +kernel)
theorem wk_L_9 : Cond.constant RL 9 2147483647 ∈ lw_g := lw_g_of (List.mem_append_right _ (List.mem_of_getElem? (i := 226) (by decide +kernel))) (by decide +kernel)
theorem pn_L : plainName RL = true := by decide +kernel
theorem ne16 : ¬ nI 16 = 0 := by decide
theorem q_self {x : UInt64} (h : vf_n64 x) : FP.dcmp x x = some .eq := by
  have hn : Jvm.FP.Core.decode Jvm.FP.Core.b64 x.toNat ≠ .nan := by
    refine qDec_nan x.toNat_lt ?_
    unfold vf_n64 at h
    rw [UInt64.le_iff_toNat_le, UInt64.toNat_and, show UInt64.toNat 0x7fffffffffffffff = 2 ^ 63 - 1 from rfl, Nat.and_two_pow_sub_one_eq_mod] at h
    exact h
  have hc : ∀ a : Int, compare a a = Ordering.eq := fun a => by
    show compareOfLessAndEq a a = _
    unfold compareOfLessAndEq
    rw [if_neg (Int.lt_irrefl a), if_pos rfl]
  show Jvm.FP.Core.order (Jvm.FP.Core.decode Jvm.FP.Core.b64 x.toNat) (Jvm.FP.Core.decode Jvm.FP.Core.b64 x.toNat) = some .eq
  generalize Jvm.FP.Core.decode Jvm.FP.Core.b64 x.toNat = d at hn
  cases d with
  | nan => exact absurd rfl hn
  | inf s => exact congrArg some (hc _)
  | fin s c q => exact congrArg some (hc _)
theorem q_0 : FP.dcmp FP.dconst0 FP.dconst0 = some .eq := q_self (by unfold vf_n64; decide +kernel)
/-- the law's pictures: b has the values and the committed ones, m the modes -/
def BM (M : sv_Mem) (T : sv_T) (cs : Nat → Nat) : Prop := (∀ k, k < 16 → M 9 5 0 k = T 11 0 k) ∧ (∀ k, k < 16 → M 9 5 0 (16 + k) = cvR T cs k 3) ∧ (∀ r, r < 48 → M 9 6 0 r = md (T 14 (r / 16) 1) (r % 16))
def fB (T : sv_T) (cs : Nat → Nat) (g : Nat → Int32) (r r2 : Nat) : Nat → Int32 := fun n => if n < r then T 11 0 n else if 16 ≤ n ∧ n < 16 + r2 then cvR T cs (n - 16) 3 else g n
def fM (T : sv_T) (g : Nat → Int32) (r a : Nat) : Nat → Int32 := fun n => if n < 48 ∧ (n % 16 < r ∨ (n % 16 = r ∧ n / 16 < a)) then md (T 14 (n / 16) 1) (n % 16) else g n
theorem fB_1 {T : sv_T} {cs : Nat → Nat} {g : Nat → Int32} {r : Nat} (h : r < 16) : va_up (fB T cs g r r) r (T 11 0 r) = fB T cs g (r + 1) r := by
  funext n
  unfold fB
  by_cases e : n = r
  · subst e; rw [va_up_self, if_pos (by omega)]
  · rw [va_up_ne _ _ e]
    by_cases h1 : n < r
    · rw [if_pos h1, if_pos (by omega)]
    · rw [if_neg h1, if_neg (show ¬ n < r + 1 by omega)]
theorem fB_2 {T : sv_T} {cs : Nat → Nat} {g : Nat → Int32} {r : Nat} (h : r < 16) : va_up (fB T cs g (r + 1) r) (16 + r) (cvR T cs r 3) = fB T cs g (r + 1) (r + 1) := by
  funext n
  unfold fB
  by_cases e : n = 16 + r
  · subst e; rw [va_up_self, if_neg (by omega), if_pos (by omega), show 16 + r - 16 = r by omega]
  · rw [va_up_ne _ _ e]
    by_cases h1 : n < r + 1
    · rw [if_pos h1, if_pos h1]
    · rw [if_neg h1, if_neg h1]
      by_cases h2 : 16 ≤ n ∧ n < 16 + r
      · rw [if_pos h2, if_pos (by omega)]
      · rw [if_neg h2, if_neg (by omega)]
theorem fM_1 {T : sv_T} {g : Nat → Int32} {r a : Nat} (h : r < 16) (ha : a < 3) : va_up (fM T g r a) (16 * a + r) (md (T 14 a 1) r) = fM T g r (a + 1) := by
  funext n
  unfold fM
  by_cases e : n = 16 * a + r
  · subst e; rw [va_up_self, if_pos (by omega), show (16 * a + r) / 16 = a by omega, show (16 * a + r) % 16 = r by omega]
  · rw [va_up_ne _ _ e]
    by_cases h1 : n < 48 ∧ (n % 16 < r ∨ (n % 16 = r ∧ n / 16 < a))
    · rw [if_pos h1, if_pos (by omega)]
    · rw [if_neg h1, if_neg (by omega)]
theorem fM_2 {T : sv_T} {g : Nat → Int32} {r : Nat} : fM T g r 3 = fM T g (r + 1) 0 := by
  funext n
  unfold fM
  by_cases h1 : n < 48 ∧ (n % 16 < r ∨ (n % 16 = r ∧ n / 16 < 3))
  · rw [if_pos h1, if_pos (by omega)]
  · rw [if_neg h1, if_neg (by omega)]
def lkM (M : sv_Mem) (cs : Nat → Nat) (r r1 r2 a : Nat) : sv_Mem := sv_upA (sv_upA M 9 5 0 (fB (M 0) cs (M 9 5 0) r1 r)) 9 6 0 (fM (M 0) (M 9 6 0) r2 a)
theorem lkM_0 (M : sv_Mem) (cs : Nat → Nat) (r r1 r2 a : Nat) : lkM M cs r r1 r2 a 0 = M 0 := rfl
theorem lkM_5 (M : sv_Mem) (cs : Nat → Nat) (r r1 r2 a : Nat) : lkM M cs r r1 r2 a 9 5 0 = fB (M 0) cs (M 9 5 0) r1 r := by
  unfold lkM
  rw [sv_upA_get _ _ (by omega), sv_upA_at]
theorem lkM_6 (M : sv_Mem) (cs : Nat → Nat) (r r1 r2 a : Nat) : lkM M cs r r1 r2 a 9 6 0 = fM (M 0) (M 9 6 0) r2 a := by
  unfold lkM
  rw [sv_upA_at]
theorem lkM_i (M : sv_Mem) (cs : Nat → Nat) (r r1 r2 a : Nat) {i k j : Nat} (h : ¬ ((k = 5 ∨ k = 6) ∧ i = 9 ∧ j = 0)) : lkM M cs r r1 r2 a i k j = M i k j := by
  unfold lkM
  rw [sv_upA_get _ _ (by omega), sv_upA_get _ _ (by omega)]
theorem mem_ext {M M2 : sv_Mem} (h : ∀ i k j, M i k j = M2 i k j) : M = M2 := funext (fun i => funext (fun k => funext (fun j => h i k j)))
theorem lkM_up5 (M : sv_Mem) (cs : Nat → Nat) {r r1 r2 a n s s1 : Nat} {v : Int32} (h : va_up (fB (M 0) cs (M 9 5 0) r1 r) n v = fB (M 0) cs (M 9 5 0) s1 s) : sv_up (lkM M cs r r1 r2 a) 9 5 0 n v = lkM M cs s s1 r2 a := by
  refine mem_ext (fun i k j => ?_)
  by_cases e : k = 5 ∧ i = 9 ∧ j = 0
  · obtain ⟨rfl, rfl, rfl⟩ := e
    rw [sv_up_at, lkM_5, lkM_5, h]
  · rw [sv_up_ne _ _ _ _ _ _ _ _ _ e]
    unfold lkM
    by_cases e2 : k = 6 ∧ i = 9 ∧ j = 0
    · obtain ⟨rfl, rfl, rfl⟩ := e2
      rw [sv_upA_at, sv_upA_at]
    · rw [sv_upA_get _ _ e2, sv_upA_get _ _ e, sv_upA_get _ _ e2, sv_upA_get _ _ e]
theorem lkM_up6 (M : sv_Mem) (cs : Nat → Nat) {r r1 r2 a n s2 b : Nat} {v : Int32} (h : va_up (fM (M 0) (M 9 6 0) r2 a) n v = fM (M 0) (M 9 6 0) s2 b) : sv_up (lkM M cs r r1 r2 a) 9 6 0 n v = lkM M cs r r1 s2 b := by
  refine mem_ext (fun i k j => ?_)
  by_cases e : k = 6 ∧ i = 9 ∧ j = 0
  · obtain ⟨rfl, rfl, rfl⟩ := e
    rw [sv_up_at, lkM_6, lkM_6, h]
  · rw [sv_up_ne _ _ _ _ _ _ _ _ _ e]
    unfold lkM
    rw [sv_upA_get _ _ e, sv_upA_get _ _ e]
theorem lkM_00 (M : sv_Mem) (cs : Nat → Nat) : lkM M cs 0 0 0 0 = M := by
  refine mem_ext (fun i k j => ?_)
  by_cases e : k = 6 ∧ i = 9 ∧ j = 0
  · obtain ⟨rfl, rfl, rfl⟩ := e
    rw [lkM_6]
    funext n
    unfold fM
    rw [if_neg (by omega)]
  · by_cases e2 : k = 5 ∧ i = 9 ∧ j = 0
    · obtain ⟨rfl, rfl, rfl⟩ := e2
      rw [lkM_5]
      funext n
      unfold fB
      rw [if_neg (by omega), if_neg (by omega)]
    · exact lkM_i M cs 0 0 0 0 (by omega)
theorem lkM_BM (M : sv_Mem) (cs : Nat → Nat) : BM (lkM M cs 16 16 16 0) (M 0) cs := by
  refine ⟨fun k hk => ?_, fun k hk => ?_, fun r hr => ?_⟩
  · rw [lkM_5]
    exact if_pos hk
  · rw [lkM_5]
    unfold fB
    rw [if_neg (by omega), if_pos (by omega), show 16 + k - 16 = k by omega]
  · rw [lkM_6]
    exact if_pos (by omega)

set_option maxHeartbeats 4000000 in
set_option maxRecDepth 100000 in
theorem c_L_low {G : sv_G} {M : sv_Mem} {v : Int32} {n : Nat} (h : 0 < n) (hn : n ≤ 31) : sv_Ct G M_L_low 0 [.int v, .int (nI n)] M (some (.int (nI (lowN v n)))) (M) := by
  refine sv_Ct_of (lo := [some (.int v), some (.int (nI n))]) (pn_L) rfl (Nat.le_of_ble_eq_true rfl) rfl (fun K X Y => ?_)
  replace X : sv_X G K cL_low RL 2 0 := X
  replace Y : sv_Y G K (some .int) _ _ := Y
  show sw_W G K 2 0 _ _ _
  refine sw_iload_0 X dL_low_0 ?_
  refine sw_ldc X wk_L_9 dL_low_1 ?_
  refine sw_iand X dL_low_3 ?_
  refine sw_iload_1 X dL_low_4 ?_
  refine sw_irem X (fun z => by have := nJ (b := 0) (by omega) (by omega) z; omega) dL_low_5 ?_
  exact sw_iret X Y dL_low_6 (by rw [low_rem v h (by omega)]) (rfl)
set_option maxHeartbeats 4000000 in
set_option maxRecDepth 100000 in
theorem c_L_areValues {G : sv_G} {M : sv_Mem} (hg : 1 < gn G) (h : ∀ k, k < 16 → M 0 11 0 k = M 9 5 0 k) : sv_Ct G M_L_areValues 2 [.ref (sv_ad G 0 8 0), .ref (sv_ad G 5 9 0)] M (some (.int (nI 1))) (M) := by
  refine sv_Ct_of (lo := [some (.ref (sv_ad G 0 8 0)), some (.ref (sv_ad G 5 9 0)), none, none]) (pn_L) rfl (Nat.le_of_ble_eq_true rfl) rfl (fun K X Y => ?_)
  replace X : sv_X G K cL_areValues RL 4 2 := X
  replace Y : sv_Y G K (some .boolean) _ _ := Y
  show sw_W G K 4 0 _ _ _
  have L : ∀ r, r ≤ 16 → (fun r => sw_W G K 4 4 [some (.ref (sv_ad G 0 8 0)), some (.ref (sv_ad G 5 9 0)), some (.int (nI 1)), some (.int (nI r))] [] M) r := by
    refine up_ind (N := 16) (P := fun r => sw_W G K 4 4 [some (.ref (sv_ad G 0 8 0)), some (.ref (sv_ad G 5 9 0)), some (.int (nI 1)), some (.int (nI r))] [] M) ?_
    intro r hr3x ih
    show sw_W _ _ _ _ _ _ _
    refine sw_iload_3 X dL_areValues_4 ?_
    refine sw_bipush X (nI 16) dL_areValues_5 (by decide) ?_
    refine sw_icmp_ge X 37 dL_areValues_7 (by decide) (fun h7 => ?_) (fun h7 => ?_)
    ·
      have e : r = 16 := by have := (nI_leI (by omega) (by omega)).mp h7; omega
      subst e
      refine sw_iload_2 X dL_areValues_37 ?_
      exact sw_zret X Y dL_areValues_38 (by first | rfl | exact sv_nzB) (rfl) (rfl)
    ·
      have hr : r < 16 := by have := mt (nI_leI (by omega) (by omega)).mpr h7; omega
      refine sw_iload_2 X dL_areValues_10 ?_
      refine sw_if_eq X 29 dL_areValues_11 (by decide) (fun h11 => ?_) (fun h11 => ?_)
      ·
        exact absurd h11 (by decide)
      ·
        refine sw_aload_0 X dL_areValues_14 ?_
        refine sw_iload_3 X dL_areValues_15 ?_
        refine ca_L_10 X (by decide) dL_areValues_16 (Nat.le_of_ble_eq_true rfl) (c_X3_value_y hr) ?_
        refine sw_aload_1 X dL_areValues_19 ?_
        refine sw_iload_3 X dL_areValues_20 ?_
        refine ia_5 X (by omega) rfl (by omega) dL_areValues_21 ?_
        refine sw_icmp_ne X 29 dL_areValues_22 (by decide) (fun h22 => ?_) (fun h22 => ?_)
        ·
          exact absurd (h r hr) h22
        ·
          refine sw_iconst X (nI 1) dL_areValues_25 (by decide) ?_
          refine sw_goto X 30 dL_areValues_26 (by decide) ?_
          refine sw_istore_2 X dL_areValues_30 trivial ?_
          first | refine sw_inc1_3 X dL_areValues_31 trivial ?_ | refine sw_iinc_3 X _ dL_areValues_31 rfl trivial ?_
          refine sw_goto X 4 dL_areValues_34 (by decide) ?_
          exact ih (r + 1) (by omega) (by omega)
  refine sw_iconst X (nI 1) dL_areValues_0 (by decide) ?_
  refine sw_istore_2 X dL_areValues_1 trivial ?_
  refine sw_iconst X (nI 0) dL_areValues_2 (by decide) ?_
  refine sw_istore_3 X dL_areValues_3 trivial ?_
  exact L 0 (by omega)
set_option maxHeartbeats 4000000 in
set_option maxRecDepth 100000 in
theorem c_L_otherModes {G : sv_G} {M : sv_Mem} (hg : 2 < gn G) {bn : Nat} (h : ∀ r, r < 48 → r / 16 ≠ bn → md (M 0 14 (r / 16) 1) (r % 16) = M 9 6 0 r) : sv_Ct G M_L_otherModes 2 [.ref (sv_ad G 0 8 0), .ref (sv_ad G 6 9 0), .int (nI bn)] M (some (.int (nI 0))) (M) := by
  refine sv_Ct_of (lo := [some (.ref (sv_ad G 0 8 0)), some (.ref (sv_ad G 6 9 0)), some (.int (nI bn)), none, none]) (pn_L) rfl (Nat.le_of_ble_eq_true rfl) rfl (fun K X Y => ?_)
  replace X : sv_X G K cL_otherModes RL 5 2 := X
  replace Y : sv_Y G K (some .int) _ _ := Y
  show sw_W G K 5 0 _ _ _
  have L : ∀ r, r ≤ 48 → (fun r => sw_W G K 5 5 [some (.ref (sv_ad G 0 8 0)), some (.ref (sv_ad G 6 9 0)), some (.int (nI bn)), some (.int (nI 0)), some (.int (nI r))] [] M) r := by
    refine up_ind (N := 48) (P := fun r => sw_W G K 5 5 [some (.ref (sv_ad G 0 8 0)), some (.ref (sv_ad G 6 9 0)), some (.int (nI bn)), some (.int (nI 0)), some (.int (nI r))] [] M) ?_
    intro r hr3x ih
    show sw_W _ _ _ _ _ _ _
    refine sw_iload_4 X dL_otherModes_5 ?_
    refine sw_bipush X (nI 48) dL_otherModes_7 (by decide) ?_
    refine sw_icmp_ge X 56 dL_otherModes_9 (by decide) (fun h9 => ?_) (fun h9 => ?_)
    ·
      have e : r = 48 := by have := (nI_leI (by omega) (by omega)).mp h9; omega
      subst e
      refine sw_iload_3 X dL_otherModes_56 ?_
      exact sw_iret X Y dL_otherModes_57 (rfl) (rfl)
    ·
      have hr : r < 48 := by have := mt (nI_leI (by omega) (by omega)).mpr h9; omega
      refine sw_iload_3 X dL_otherModes_12 ?_
      refine sw_iload_4 X dL_otherModes_13 ?_
      refine sw_bipush X (nI 16) dL_otherModes_15 (by decide) ?_
      refine sw_idiv X ne16 dL_otherModes_17 ?_
      refine sw_tope (v2 := nI (r / 16)) (pk_div (by omega) (by omega) (by omega)) ?_
      refine sw_iload_2 X dL_otherModes_18 ?_
      refine sw_icmp_eq X 47 dL_otherModes_19 (by decide) (fun h19 => ?_) (fun h19 => ?_)
      ·
        refine sw_iconst X (nI 0) dL_otherModes_47 (by decide) ?_
        refine sw_iadd X dL_otherModes_48 ?_
        try refine sw_tope (nI_add _ _) ?_
        refine sw_istore_3 X dL_otherModes_49 trivial ?_
        first | refine sw_inc1_4 X dL_otherModes_50 trivial ?_ | refine sw_iinc_4 X _ dL_otherModes_50 rfl trivial ?_
        refine sw_goto X 5 dL_otherModes_53 (by decide) ?_
        exact ih (r + 1) (by omega) (by omega)
      ·
        refine sw_aload_0 X dL_otherModes_22 ?_
        refine sw_iload_4 X dL_otherModes_23 ?_
        refine sw_bipush X (nI 16) dL_otherModes_25 (by decide) ?_
        refine sw_idiv X ne16 dL_otherModes_27 ?_
        refine sw_tope (v2 := nI (r / 16)) (pk_div (by omega) (by omega) (by omega)) ?_
        refine sw_iload_4 X dL_otherModes_28 ?_
        refine sw_bipush X (nI 16) dL_otherModes_30 (by decide) ?_
        refine sw_irem X ne16 dL_otherModes_32 ?_
        refine sw_tope (v2 := nI (r % 16)) (pk_rem (by omega) (by omega) (by omega)) ?_
        refine ca_L_19 X (by decide) dL_otherModes_33 (Nat.le_of_ble_eq_true rfl) (c_X3_mode_y (q := r / 16) (k := r % 16) (by omega) (by omega)) ?_
        refine sw_aload_1 X dL_otherModes_36 ?_
        refine sw_iload_4 X dL_otherModes_37 ?_
        refine ia_6 X (by omega) rfl (by omega) dL_otherModes_39 ?_
        refine sw_icmp_eq X 47 dL_otherModes_40 (by decide) (fun h40 => ?_) (fun h40 => ?_)
        ·
          refine sw_iconst X (nI 0) dL_otherModes_47 (by decide) ?_
          refine sw_iadd X dL_otherModes_48 ?_
          try refine sw_tope (nI_add _ _) ?_
          refine sw_istore_3 X dL_otherModes_49 trivial ?_
          first | refine sw_inc1_4 X dL_otherModes_50 trivial ?_ | refine sw_iinc_4 X _ dL_otherModes_50 rfl trivial ?_
          refine sw_goto X 5 dL_otherModes_53 (by decide) ?_
          exact ih (r + 1) (by omega) (by omega)
        ·
          exact absurd (h r hr (fun z => h19 (by rw [z]))) h40
  refine sw_iconst X (nI 0) dL_otherModes_0 (by decide) ?_
  refine sw_istore_3 X dL_otherModes_1 trivial ?_
  refine sw_iconst X (nI 0) dL_otherModes_2 (by decide) ?_
  refine sw_istore_4 X dL_otherModes_3 trivial ?_
  exact L 0 (by omega)
set_option maxHeartbeats 4000000 in
set_option maxRecDepth 100000 in
theorem c_L_look {G : sv_G} {M : sv_Mem} (hg : 2 < gn G) {cs : Nat → Nat} (hcs : csOk (M 0) cs 13) : sv_Ct G M_L_look 4 [.ref (sv_ad G 0 8 0), .ref (sv_ad G 5 9 0), .ref (sv_ad G 6 9 0)] M (none) (lkM M cs 16 16 16 0) := by
  refine sv_Ct_of (lo := [some (.ref (sv_ad G 0 8 0)), some (.ref (sv_ad G 5 9 0)), some (.ref (sv_ad G 6 9 0)), none, none]) (pn_L) rfl (Nat.le_of_ble_eq_true rfl) rfl (fun K X Y => ?_)
  replace X : sv_X G K cL_look RL 5 4 := X
  replace Y : sv_Y G K none _ _ := Y
  show sw_W G K 5 0 _ _ _
  have L : ∀ r, r ≤ 16 → (fun r => sw_W G K 5 2 [some (.ref (sv_ad G 0 8 0)), some (.ref (sv_ad G 5 9 0)), some (.ref (sv_ad G 6 9 0)), some (.int (nI r)), none] [] (lkM M cs r r r 0)) r := by
    refine up_ind (N := 16) (P := fun r => sw_W G K 5 2 [some (.ref (sv_ad G 0 8 0)), some (.ref (sv_ad G 5 9 0)), some (.ref (sv_ad G 6 9 0)), some (.int (nI r)), none] [] (lkM M cs r r r 0)) ?_
    intro r hr3x ih
    show sw_W _ _ _ _ _ _ _
    refine sw_iload_3 X dL_look_2 ?_
    refine sw_bipush X (nI 16) dL_look_3 (by decide) ?_
    refine sw_icmp_ge X 64 dL_look_5 (by decide) (fun h5 => ?_) (fun h5 => ?_)
    ·
      have e : r = 16 := by have := (nI_leI (by omega) (by omega)).mp h5; omega
      subst e
      exact sw_vret X Y dL_look_64 rfl (rfl)
    ·
      have hr : r < 16 := by have := mt (nI_leI (by omega) (by omega)).mpr h5; omega
      refine sw_aload_1 X dL_look_8 ?_
      refine sw_iload_3 X dL_look_9 ?_
      refine sw_aload_0 X dL_look_10 ?_
      refine sw_iload_3 X dL_look_11 ?_
      refine ca_L_10 X (by decide) dL_look_12 (Nat.le_of_ble_eq_true rfl) (c_X3_value_y hr) ?_
      refine is_5 X (by omega) rfl (by omega) dL_look_15 ?_
      refine sw_mem (M2 := lkM M cs r (r + 1) r 0) (lkM_up5 M cs (fB_1 hr)) ?_
      refine sw_aload_1 X dL_look_16 ?_
      refine sw_bipush X (nI 16) dL_look_17 (by decide) ?_
      refine sw_iload_3 X dL_look_19 ?_
      refine sw_iadd X dL_look_20 ?_
      try refine sw_tope (nI_add _ _) ?_
      refine sw_aload_0 X dL_look_21 ?_
      refine sw_iload_3 X dL_look_22 ?_
      refine ca_L_16 X (by decide) dL_look_23 (Nat.le_of_ble_eq_true rfl) (c_X3_committed_y (M := lkM M cs r (r + 1) r 0) (cs := cs) hcs hr) ?_
      refine is_5 X (by omega) rfl (by omega) dL_look_26 ?_
      refine sw_mem (M2 := lkM M cs (r + 1) (r + 1) r 0) (lkM_up5 M cs (fB_2 hr)) ?_
      refine sw_iconst X (nI 0) dL_look_27 (by decide) ?_
      refine sw_istore_4 X dL_look_28 trivial ?_
      have L2 : ∀ a, a ≤ 3 → (fun a => sw_W G K 5 30 [some (.ref (sv_ad G 0 8 0)), some (.ref (sv_ad G 5 9 0)), some (.ref (sv_ad G 6 9 0)), some (.int (nI r)), some (.int (nI a))] [] (lkM M cs (r + 1) (r + 1) r a)) a := by
        refine up_ind (N := 3) (P := fun a => sw_W G K 5 30 [some (.ref (sv_ad G 0 8 0)), some (.ref (sv_ad G 5 9 0)), some (.ref (sv_ad G 6 9 0)), some (.int (nI r)), some (.int (nI a))] [] (lkM M cs (r + 1) (r + 1) r a)) ?_
        intro a ha3x ih2
        show sw_W _ _ _ _ _ _ _
        refine sw_iload_4 X dL_look_30 ?_
        refine sw_iconst X (nI 3) dL_look_32 (by decide) ?_
        refine sw_icmp_ge X 58 dL_look_33 (by decide) (fun h33 => ?_) (fun h33 => ?_)
        ·
          have e : a = 3 := by have := (nI_leI (by omega) (by omega)).mp h33; omega
          subst e
          refine sw_mem (M2 := lkM M cs (r + 1) (r + 1) (r + 1) 0) (by unfold lkM; rw [fM_2]) ?_
          first | refine sw_inc1_3 X dL_look_58 trivial ?_ | refine sw_iinc_3 X _ dL_look_58 rfl trivial ?_
          refine sw_goto X 2 dL_look_61 (by decide) ?_
          refine sw_drop_4 ?_
          exact ih (r + 1) (by omega) (by omega)
        ·
          have ha : a < 3 := by have := mt (nI_leI (by omega) (by omega)).mpr h33; omega
          refine sw_aload_2 X dL_look_36 ?_
          refine sw_bipush X (nI 16) dL_look_37 (by decide) ?_
          refine sw_iload_4 X dL_look_39 ?_
          refine sw_imul X dL_look_41 ?_
          try refine sw_tope (pk_mul _ _) ?_
          refine sw_iload_3 X dL_look_42 ?_
          refine sw_iadd X dL_look_43 ?_
          try refine sw_tope (nI_add _ _) ?_
          refine sw_aload_0 X dL_look_44 ?_
          refine sw_iload_4 X dL_look_45 ?_
          refine sw_iload_3 X dL_look_47 ?_
          refine ca_L_19 X (by decide) dL_look_48 (Nat.le_of_ble_eq_true rfl) (c_X3_mode_y ha hr) ?_
          refine is_6 X (by omega) rfl (by omega) dL_look_51 ?_
          refine sw_mem (M2 := lkM M cs (r + 1) (r + 1) r (a + 1)) (lkM_up6 M cs (fM_1 hr ha)) ?_
          first | refine sw_inc1_4 X dL_look_52 trivial ?_ | refine sw_iinc_4 X _ dL_look_52 rfl trivial ?_
          refine sw_goto X 30 dL_look_55 (by decide) ?_
          exact ih2 (a + 1) (by omega) (by omega)
      exact L2 0 (by omega)
  refine sw_iconst X (nI 0) dL_look_0 (by decide) ?_
  refine sw_istore_3 X dL_look_1 trivial ?_
  refine sw_mem (lkM_00 M cs).symm ?_
  exact L 0 (by omega)
