/-! of the class's own ints: rows that served the whole claim -/
def hi0 (x : Int32) : Prop := ∀ i, 16 ≤ i → i < 32 → bt x i = false
/-- the locks at moment r; now, behind the last one -/
def LA (T : sv_T) (q c r : Nat) : Int32 := if r < c then T 15 q r else T 14 q 1
theorem LA_lt {T : sv_T} {q c r : Nat} (h : r < c) : LA T q c r = T 15 q r := if_pos h
theorem LA_ge {T : sv_T} {q c r : Nat} (h : c ≤ r) : LA T q c r = T 14 q 1 := if_neg (by omega)
theorem sn_hi {f : Nat → Int32} : ∀ (c m : Nat) (acc : Int32), hi0 acc → (∀ r, m ≤ r → r < m + c → hi0 (f r)) → hi0 (sncR f c m acc)
  | 0, _, _, h, _ => h
  | c + 1, m, acc, h, hf => sn_hi c (m + 1) _ (fun i h1 h2 => by rw [bt_or, h i h1 h2, hf m (by omega) (by omega) i h1 h2]; rfl) (fun r h1 h2 => hf r (by omega) (by omega))
theorem hi0_0 : hi0 (nI 0) := fun i _ _ => bt_0 i
theorem hi0_or {a b : Int32} (ha : hi0 a) (hb : hi0 b) : hi0 (a ||| b) := fun i h1 h2 => by rw [bt_or, ha i h1 h2, hb i h1 h2]; rfl
theorem hi0_sb {a : Int32} {k : Nat} (ha : hi0 a) (hk : k < 16) : hi0 (sb a k) := fun i h1 h2 => by rw [bt_sb a (by omega) h2, ha i h1 h2]; simp; omega
/-- a set of 16 keys is a number below 65536 -/
theorem hi0_nI {x : Int32} (h : hi0 x) : ∃ n, n < 65536 ∧ x = nI n := by
  have hb : ∀ i, bt x i = x.toBitVec.toNat.testBit i := fun i => rfl
  refine ⟨x.toBitVec.toNat, ?_, ?_⟩
  · refine Nat.lt_pow_two_of_testBit (n := 16) _ (fun i hi => ?_)
    by_cases h2 : i < 32
    · rw [← hb]; exact h i hi h2
    · exact Nat.testBit_lt_two_pow (Nat.lt_of_lt_of_le x.toBitVec.isLt (Nat.pow_le_pow_right (by omega) (by omega)))
  · apply Int32.toBitVec_inj.mp
    apply BitVec.eq_of_toNat_eq
    rw [sv_tn x.toBitVec.isLt]
theorem bt_true {x : Int32} {k : Nat} : ¬ bt x k = true ↔ bt x k = false := by cases bt x k <;> simp
theorem ncT_17m (T : sv_T) (j m k : Nat) (v : Int32) {i : Nat} (hk : k < 16) (hi : i < 32) : bt (ncT T j m k v 17 j m) i = (bt (T 17 j m) i || decide (i = k)) := by
  unfold ncT
  split <;> rename_i h
  · by_cases e : i = k
    · rw [e, h]; rfl
    · simp [e]
  · rw [tu_ne _ _ _ (by omega), tu_self, bt_sb _ (by omega) hi]
theorem drK_17m (T : sv_T) (j m r : Nat) (hm : m ≠ r) : ∀ (k : Nat), k ≤ 16 → ∀ i, i < 32 → bt (drK T j m r k 17 j m) i = (bt (T 17 j m) i || (decide (i < k) && bt (T 17 j r) i))
  | 0, _, i, _ => by
    show bt (T 17 j m) i = _
    simp
  | k + 1, hk, i, hi => by
    have ih := drK_17m T j m r hm k (by omega) i hi
    by_cases hb : bt (T 17 j r) k = true
    · rw [drK_t hb, ncT_17m _ _ _ _ _ (by omega) hi, ih]
      by_cases e : i = k
      · rw [e, hb]; simp
      · simp [e, show (i < k + 1) = (i < k) by simp; omega]
    · rw [drK_f hb, ih]
      by_cases e : i = k
      · rw [e, bt_true.mp hb]; simp
      · simp [show (i < k + 1) = (i < k) by simp; omega]
theorem drK_18m (T : sv_T) (j m r : Nat) (hm : m ≠ r) : ∀ (k : Nat), k ≤ 16 → ∀ i, i < 16 → drK T j m r k 18 j (m * 16 + i) = if i < k ∧ bt (T 17 j r) i = true ∧ ¬ bt (T 17 j m) i = true then T 18 j (r * 16 + i) else T 18 j (m * 16 + i)
  | 0, _, i, _ => by
    rw [if_neg (by omega)]
    rfl
  | k + 1, hk, i, hi => by
    have ih := drK_18m T j m r hm k (by omega) i hi
    by_cases hb : bt (T 17 j r) k = true
    · rw [drK_t hb]
      unfold ncT
      have hk17 : bt (drK T j m r k 17 j m) k = bt (T 17 j m) k := by
        rw [drK_17m T j m r hm k (by omega) k (by omega)]
        simp
      by_cases hM : bt (T 17 j m) k = true
      · rw [if_pos (by rw [hk17]; exact hM), ih]
        by_cases e : i = k
        · rw [if_neg (by omega), if_neg (fun z => z.2.2 (by rw [e]; exact hM))]
        · by_cases hik : i < k ∧ bt (T 17 j r) i = true ∧ ¬ bt (T 17 j m) i = true
          · rw [if_pos hik, if_pos ⟨by omega, hik.2⟩]
          · rw [if_neg hik, if_neg (fun z => hik ⟨by omega, z.2⟩)]
      · rw [if_neg (by rw [hk17]; exact hM)]
        by_cases e : i = k
        · rw [e, tu_self, if_pos ⟨by omega, hb, hM⟩]
        · rw [tu_n _ _ (by omega), tu_ne _ _ _ (by omega), ih]
          by_cases hik : i < k ∧ bt (T 17 j r) i = true ∧ ¬ bt (T 17 j m) i = true
          · rw [if_pos hik, if_pos ⟨by omega, hik.2⟩]
          · rw [if_neg hik, if_neg (fun z => hik ⟨by omega, z.2⟩)]
    · rw [drK_f hb, ih]
      by_cases hik : i < k ∧ bt (T 17 j r) i = true ∧ ¬ bt (T 17 j m) i = true
      · rw [if_pos hik, if_pos ⟨by omega, hik.2⟩]
      · rw [if_neg hik, if_neg (fun z => hik ⟨by
          have : i ≠ k := fun e => hb (e ▸ z.2.1)
          omega, z.2⟩)]
theorem drR_17 {j m r2 : Nat} (h : r2 ≠ m) : ∀ (c r : Nat) (T : sv_T), drR j m c r T 17 j r2 = T 17 j r2
  | 0, _, _ => rfl
  | c + 1, r, T => by
    unfold drR
    rw [drR_17 h c, drK_17 h 16]
theorem drR_18 {j m n : Nat} (h : n < m * 16 ∨ m * 16 + 16 ≤ n) : ∀ (c r : Nat) (T : sv_T), drR j m c r T 18 j n = T 18 j n
  | 0, _, _ => rfl
  | c + 1, r, T => by
    unfold drR
    rw [drR_18 h c, drK_18 16 h]
theorem drK_z {T : sv_T} {j m r : Nat} (h : T 17 j r = nI 0) : ∀ k, drK T j m r k = T
  | 0 => rfl
  | k + 1 => by rw [drK_f (by rw [h, bt_0]; decide), drK_z h k]
theorem drR_z {j m : Nat} : ∀ (c r : Nat) (T : sv_T), (∀ r2, r ≤ r2 → r2 < r + c → T 17 j r2 = nI 0) → drR j m c r T = T
  | 0, _, _, _ => rfl
  | c + 1, r, T, h => by
    unfold drR
    rw [drK_z (h r (by omega) (by omega)), drR_z c (r + 1) T (fun r2 h1 h2 => h r2 (by omega) (by omega))]
theorem fcT_17 {j r2 : Nat} : ∀ (c r : Nat) (T : sv_T), fcT j c r T 17 j r2 = if r ≤ r2 ∧ r2 < r + c then nI 0 else T 17 j r2
  | 0, r, T => by rw [if_neg (by omega)]; rfl
  | c + 1, r, T => by
    unfold fcT
    rw [fcT_17 c (r + 1)]
    by_cases e : r2 = r
    · subst e
      rw [if_neg (by omega), tu_self, if_pos (by omega)]
    · rw [tu_n _ _ e]
      by_cases h : r + 1 ≤ r2 ∧ r2 < r + 1 + c
      · rw [if_pos h, if_pos (by omega)]
      · rw [if_neg h, if_neg (by omega)]
theorem bsT_ne {T : sv_T} {q mq k2 j2 n : Nat} (h1 : ¬ ((k2 = 15 ∨ k2 = 17) ∧ j2 = q)) (h2 : ¬ (k2 = 14 ∧ j2 = q ∧ n = 0)) : bsT T q mq k2 j2 n = T k2 j2 n := aM_ne h1 h2
theorem bs_11 {T : sv_T} {q mq k : Nat} : bsT T q mq 11 0 k = T 11 0 k := bsT_ne (by omega) (by omega)
theorem enT_w {U : sv_T} {q mq : Nat} {a : Int32} (h6 : a ≠ -6) (h7 : a ≠ -7) : enT U q mq a = ewT U q mq := by
  unfold enT
  rw [if_neg h6, if_neg h7]
theorem enT_6 {U : sv_T} {q mq : Nat} : enT U q mq (-6) = ebT U q mq 3 := if_pos rfl
theorem enT_7 {U : sv_T} {q mq : Nat} : enT U q mq (-7) = ebT U q mq 4 := by
  unfold enT
  rw [if_neg (by decide), if_pos rfl]
theorem er_67 : ¬ isEr (-6) ∧ ¬ isEr (-7) := by decide
theorem pcn_le (x : Int32) : pcn x ≤ 32 := cnt_le _ _
theorem nI_n67 (n : Nat) (h : n < 2 ^ 31) : nI n ≠ -6 ∧ nI n ≠ -7 := ⟨fun z => nI_pos h (by rw [z]; decide), fun z => nI_pos h (by rw [z]; decide)⟩
theorem inR_ex {v : Int32} {m : Nat} (hm : m < 2 ^ 31) (h : inR v (nI 0) (nI m)) : ∃ q, q ≤ m ∧ v = nI q := nI_of2 (M := nI m) (nI_toInt hm) h.1 (Int32.not_lt.mp h.2)
/-- the answers of whyImpossible -/
theorem why_x {G : sv_G} {M : sv_Mem} {v a b : Int32} (hv : ¬ inR v (nI 0) (nI 2)) : sv_Ct G M_X1_whyImpossible 1 [.ref (sv_ad G 10 0 0), .int v, .int a, .int b] M (some (.int (-1))) M := c_X1_whyImpossible_x hv
theorem why_ab {G : sv_G} {M : sv_Mem} {q c : Nat} {a b : Prop} [Decidable a] [Decidable b] {e : Int32} (hq : q < 3) (hc : M 0 14 q 0 = nI c) (hc2 : c ≤ 13) (he : (if a then (if b then (if c ≠ 0 then nI 0 else -4) else -2) else -1) = e) : sv_Ct G M_X1_whyImpossible 1 [.ref (sv_ad G 10 0 0), .int (nI q), .int (bI a), .int (bI b)] M (some (.int e)) M := he ▸ c_X1_whyImpossible (i := 0) (by decide) hq hc (by omega)
theorem why_tb {G : sv_G} {M : sv_Mem} {q c : Nat} {b : Prop} [Decidable b] {e : Int32} (hq : q < 3) (hc : M 0 14 q 0 = nI c) (hc2 : c ≤ 13) (he : (if b then (if c ≠ 0 then nI 0 else -4) else -2) = e) : sv_Ct G M_X1_whyImpossible 1 [.ref (sv_ad G 10 0 0), .int (nI q), .int (nI 1), .int (bI b)] M (some (.int e)) M := by
  have := why_ab (G := G) (M := M) (a := True) (b := b) (e := e) hq hc hc2 (by rw [if_pos trivial]; exact he)
  rw [bI_t trivial] at this
  exact this
theorem why_at {G : sv_G} {M : sv_Mem} {q c : Nat} {a : Prop} [Decidable a] {e : Int32} (hq : q < 3) (hc : M 0 14 q 0 = nI c) (hc2 : c ≤ 13) (he : (if a then (if c ≠ 0 then nI 0 else -4) else -1) = e) : sv_Ct G M_X1_whyImpossible 1 [.ref (sv_ad G 10 0 0), .int (nI q), .int (bI a), .int (nI 1)] M (some (.int e)) M := by
  have := why_ab (G := G) (M := M) (a := a) (b := True) (e := e) hq hc hc2 (by rw [if_pos trivial]; exact he)
  rw [bI_t (b := True) trivial] at this
  exact this
theorem why_tt {G : sv_G} {M : sv_Mem} {q c : Nat} {e : Int32} (hq : q < 3) (hc : M 0 14 q 0 = nI c) (hc2 : c ≤ 13) (he : (if c ≠ 0 then nI 0 else -4) = e) : sv_Ct G M_X1_whyImpossible 1 [.ref (sv_ad G 10 0 0), .int (nI q), .int (nI 1), .int (nI 1)] M (some (.int e)) M := by
  have := why_tb (G := G) (M := M) (b := True) (e := e) hq hc hc2 (by rw [if_pos trivial]; exact he)
  rw [bI_t (b := True) trivial] at this
  exact this
theorem nrR_congr {f g : Nat → Int32} {nm : Int32} : ∀ {c : Nat}, (∀ p, p < c → f p = g p) → nrR f nm c = nrR g nm c
  | 0, _ => rfl
  | c + 1, h => by
    unfold nrR
    rw [h c (by omega), nrR_congr (fun p hp => h p (by omega))]
theorem nrR_or (f : Nat → Int32) (nm : Int32) : ∀ (c : Nat), nrR f nm c = -5 ∨ ∃ p, p < c ∧ nrR f nm c = nI p
  | 0 => Or.inl rfl
  | c + 1 => by
    unfold nrR
    by_cases h : f c = nm
    · rw [if_pos h]
      exact Or.inr ⟨c, by omega, rfl⟩
    · rw [if_neg h]
      rcases nrR_or f nm c with z | ⟨p, z1, z2⟩
      · exact Or.inl z
      · exact Or.inr ⟨p, by omega, z2⟩
theorem er_c : isEr (-1) ∧ isEr (-2) ∧ isEr (-3) ∧ isEr (-4) := by decide
theorem ne_c : (-1 : Int32) ≠ 0 ∧ (-2 : Int32) ≠ 0 ∧ (-3 : Int32) ≠ 0 ∧ (-4 : Int32) ≠ 0 := by decide
/-- a method of the class's State, from any memory whose present State is T -/
def OpS (G : sv_G) (op : sv_M) (d : Nat) (args : List Value) (T T2 : sv_T) (r : Int32) : Prop := ∀ N : sv_Mem, N 0 = T → sv_Ct G op d (.ref (sv_ad G 10 0 0) :: args) N (some (.int r)) (sT N 0 T2)
theorem opS_e {G : sv_G} {op : sv_M} {d : Nat} {args : List Value} {T : sv_T} {r : Int32} (h : ∀ N : sv_Mem, N 0 = T → sv_Ct G op d (.ref (sv_ad G 10 0 0) :: args) N (some (.int r)) N) : OpS G op d args T T r := fun N h0 => by
  have := h N h0
  subst h0
  rw [sT_id]
  exact this
theorem OpS.err {G : sv_G} {op : sv_M} {d : Nat} {args : List Value} {N : sv_Mem} {r : Int32} {T : sv_T} (h : OpS G op d args T T r) (h0 : N 0 = T) : sv_Ct G op d (.ref (sv_ad G 10 0 0) :: args) N (some (.int r)) N := by
  have := h N h0
  subst h0
  rw [sT_id] at this
  exact this
theorem opS_open_x {G : sv_G} {T : sv_T} {v : Int32} (hv : ¬ inR v (nI 0) (nI 2)) : OpS G M_X1_openTransaction 1 [.int v] T (T) (-1) := opS_e (fun N h0 => c_X1_openTransaction_x (i := 0) hv)
theorem opS_open_n {G : sv_G} {T : sv_T} {q c : Nat} (hq : q < 3) (hc : T 14 q 0 = nI c) (hc2 : c ≤ 13) (h0 : c ≠ 0) : OpS G M_X1_openTransaction 1 [.int (nI q)] T (T) (-4) := opS_e (fun N hN => c_X1_openTransaction_n (i := 0) (by decide) hq (by rw [hN]; exact hc) (by omega) (by assumption))
theorem opS_open_y {G : sv_G} {T : sv_T} {q : Nat} {cs : Nat → Nat} (hq : q < 3) (hcs : csOk T cs 13) (hz : T 14 q 0 = nI 0) : OpS G M_X1_openTransaction 1 [.int (nI q)] T (aM T q 0) (nI (cnt (fun j => va_up cs q 1 j ≠ 0) 3)) := fun N h0 => by
  subst h0
  exact c_X1_openTransaction_y (i := 0) (by decide) hq hcs hz
theorem opS_commit_x {G : sv_G} {T : sv_T} {v : Int32} (hv : ¬ inR v (nI 0) (nI 2)) : OpS G M_X1_commitTransaction 2 [.int v] T (T) (-1) := opS_e (fun N h0 => c_X1_commitTransaction_e (i := 0) (by decide) ne_c.1 (why_x hv))
theorem opS_commit_n {G : sv_G} {T : sv_T} {q c : Nat} (hq : q < 3) (hc : T 14 q 0 = nI c) (hc2 : c ≤ 13) (hz : c = 0) : OpS G M_X1_commitTransaction 2 [.int (nI q)] T (T) (-4) := opS_e (fun N h0 => c_X1_commitTransaction_e (i := 0) (by decide) ne_c.2.2.2 (why_tt hq (by rw [h0]; exact hc) hc2 (if_neg (fun z => z hz))))
theorem opS_roll_x {G : sv_G} {T : sv_T} {v : Int32} (hv : ¬ inR v (nI 0) (nI 2)) : OpS G M_X1_rollTransactionBack 3 [.int v] T (T) (-1) := opS_e (fun N h0 => c_X1_rollTransactionBack_e (i := 0) (by decide) ne_c.1 (why_x hv))
theorem opS_roll_n {G : sv_G} {T : sv_T} {q c : Nat} (hq : q < 3) (hc : T 14 q 0 = nI c) (hc2 : c ≤ 13) (hz : c = 0) : OpS G M_X1_rollTransactionBack 3 [.int (nI q)] T (T) (-4) := opS_e (fun N h0 => c_X1_rollTransactionBack_e (i := 0) (by decide) ne_c.2.2.2 (why_tt hq (by rw [h0]; exact hc) hc2 (if_neg (fun z => z hz))))
theorem opS_commit_y {G : sv_G} {T : sv_T} {q c : Nat} (hq : q < 3) (hc : T 14 q 0 = nI c) (hc2 : c ≤ 13) (hz : c ≠ 0) : OpS G M_X1_commitTransaction 2 [.int (nI q)] T (inc (clT T q) 0) (nI (cnt (difP T q 0 c) 16)) := fun N h0 => by
  subst h0
  exact c_X1_commitTransaction_y (i := 0) (by decide) hq hc (by omega) (why_tt hq hc hc2 (if_pos hz))
theorem opS_roll_y {G : sv_G} {T : sv_T} {q c : Nat} (hq : q < 3) (hc : T 14 q 0 = nI c) (hc2 : c ≤ 13) (hz : c ≠ 0) : OpS G M_X1_rollTransactionBack 3 [.int (nI q)] T (inc (clT (unT T q 0 c) q) 1) (nI (cnt (difP T q 0 c) 16)) := fun N h0 => by
  subst h0
  exact c_X1_rollTransactionBack_y (i := 0) (by decide) hq hc (by omega) hz (why_tt hq hc hc2 (if_pos hz))
theorem opS_save_x {G : sv_G} {T : sv_T} {v nm : Int32} (hv : ¬ inR v (nI 0) (nI 2)) : OpS G M_X1_setSavepoint 2 [.int v, .int nm] T (T) (-1) := opS_e (fun N h0 => c_X1_setSavepoint_e (i := 0) (by decide) ne_c.1 (why_x hv))
theorem opS_save_b {G : sv_G} {T : sv_T} {nm : Int32} {q c : Nat} (hq : q < 3) (hc : T 14 q 0 = nI c) (hc2 : c ≤ 13) (hn : ¬ inR nm (nI 0) (nI 7)) : OpS G M_X1_setSavepoint 2 [.int (nI q), .int nm] T (T) (-2) := opS_e (fun N h0 => c_X1_setSavepoint_e (i := 0) (by decide) ne_c.2.1 (why_tb hq (by rw [h0]; exact hc) hc2 (if_neg hn)))
theorem opS_save_n {G : sv_G} {T : sv_T} {nm : Int32} {q c : Nat} (hq : q < 3) (hc : T 14 q 0 = nI c) (hc2 : c ≤ 13) (hn : inR nm (nI 0) (nI 7)) (hz : c = 0) : OpS G M_X1_setSavepoint 2 [.int (nI q), .int nm] T (T) (-4) := opS_e (fun N h0 => c_X1_setSavepoint_e (i := 0) (by decide) ne_c.2.2.2 (why_tb hq (by rw [h0]; exact hc) hc2 ((if_pos hn).trans (if_neg (fun z => z hz)))))
theorem opS_save_f {G : sv_G} {T : sv_T} {q : Nat} {nm : Int32} (hq : q < 3) (hc : T 14 q 0 = nI 13) (hn : inR nm (nI 0) (nI 7)) : OpS G M_X1_setSavepoint 2 [.int (nI q), .int nm] T (T) (-3) := opS_e (fun N h0 => c_X1_setSavepoint_f (i := 0) (by decide) hq (by rw [h0]; exact hc) (why_tb hq (by rw [h0]; exact hc) (by omega) ((if_pos hn).trans (if_pos (by omega)))))
theorem opS_save_y {G : sv_G} {T : sv_T} {q mq : Nat} {nm : Int32} (hq : q < 3) (hc : T 14 q 0 = nI (mq + 1)) (hmq : mq < 12) (hn : inR nm (nI 0) (nI 7)) : OpS G M_X1_setSavepoint 2 [.int (nI q), .int nm] T (inc (aM (tu T 16 q mq nm) q (mq + 1)) 6) (nI mq) := fun N h0 => by
  subst h0
  exact c_X1_setSavepoint_y (i := 0) (by decide) hq hc hmq (why_tb hq hc (by omega) ((if_pos hn).trans (if_pos (by omega))))
theorem spo_x {G : sv_G} {T : sv_T} {v nm : Int32} (hv : ¬ inR v (nI 0) (nI 2)) : ∀ N : sv_Mem, N 0 = T → sv_Ct G M_X1_savepointOrError 3 [.ref (sv_ad G 10 0 0), .int v, .int nm] N (some (.int (-1))) N := fun N h0 => c_X1_savepointOrError_e (i := 0) (by decide) ne_c.1 (why_x hv)
theorem spo_b {G : sv_G} {T : sv_T} {nm : Int32} {q c : Nat} (hq : q < 3) (hc : T 14 q 0 = nI c) (hc2 : c ≤ 13) (hn : ¬ inR nm (nI 0) (nI 7)) : ∀ N : sv_Mem, N 0 = T → sv_Ct G M_X1_savepointOrError 3 [.ref (sv_ad G 10 0 0), .int (nI q), .int nm] N (some (.int (-2))) N := fun N h0 => c_X1_savepointOrError_e (i := 0) (by decide) ne_c.2.1 (why_tb hq (by rw [h0]; exact hc) hc2 (if_neg hn))
theorem spo_n {G : sv_G} {T : sv_T} {nm : Int32} {q c : Nat} (hq : q < 3) (hc : T 14 q 0 = nI c) (hc2 : c ≤ 13) (hn : inR nm (nI 0) (nI 7)) (hz : c = 0) : ∀ N : sv_Mem, N 0 = T → sv_Ct G M_X1_savepointOrError 3 [.ref (sv_ad G 10 0 0), .int (nI q), .int nm] N (some (.int (-4))) N := fun N h0 => c_X1_savepointOrError_e (i := 0) (by decide) ne_c.2.2.2 (why_tb hq (by rw [h0]; exact hc) hc2 ((if_pos hn).trans (if_neg (fun z => z hz))))
theorem spo_0 {G : sv_G} {T : sv_T} {nm : Int32} {q c : Nat} (hq : q < 3) (hc : T 14 q 0 = nI c) (hc2 : c ≤ 13) (hn : inR nm (nI 0) (nI 7)) (hz : c ≠ 0) (hp : nrR (T 16 q) nm (c - 1) = -5) : ∀ N : sv_Mem, N 0 = T → sv_Ct G M_X1_savepointOrError 3 [.ref (sv_ad G 10 0 0), .int (nI q), .int nm] N (some (.int (-4))) N := fun N h0 => c_X1_savepointOrError_n (i := 0) (by decide) hq (by rw [h0]; exact hc) hc2 (by rw [h0]; exact hp) (why_tb hq (by rw [h0]; exact hc) hc2 ((if_pos hn).trans (if_pos hz)))
theorem spo_y {G : sv_G} {T : sv_T} {nm : Int32} {p : Nat} {q c : Nat} (hq : q < 3) (hc : T 14 q 0 = nI c) (hc2 : c ≤ 13) (hn : inR nm (nI 0) (nI 7)) (hz : c ≠ 0) (hp : nrR (T 16 q) nm (c - 1) = nI p) (hp2 : p < 2 ^ 30) : ∀ N : sv_Mem, N 0 = T → sv_Ct G M_X1_savepointOrError 3 [.ref (sv_ad G 10 0 0), .int (nI q), .int nm] N (some (.int (nI p))) N := fun N h0 => c_X1_savepointOrError_y (i := 0) (by decide) hq (by rw [h0]; exact hc) hc2 (by rw [h0]; exact hp) hp2 (why_tb hq (by rw [h0]; exact hc) hc2 ((if_pos hn).trans (if_pos hz)))
theorem opS_undo_e {G : sv_G} {T : sv_T} {v nm e : Int32} (he : e < 0) (hS : ∀ N : sv_Mem, N 0 = T → sv_Ct G M_X1_savepointOrError 3 [.ref (sv_ad G 10 0 0), .int v, .int nm] N (some (.int (e))) N) : OpS G M_X1_undoToName 4 [.int v, .int nm] T (T) (e) := opS_e (fun N h0 => c_X1_undoToName_e (i := 0) (by decide) he (hS N h0))
theorem opS_rel_e {G : sv_G} {T : sv_T} {v nm e : Int32} (he : e < 0) (hS : ∀ N : sv_Mem, N 0 = T → sv_Ct G M_X1_savepointOrError 3 [.ref (sv_ad G 10 0 0), .int v, .int nm] N (some (.int (e))) N) : OpS G M_X1_releaseName 4 [.int v, .int nm] T (T) (e) := opS_e (fun N h0 => c_X1_releaseName_e (i := 0) (by decide) he (hS N h0))
theorem opS_undo_y {G : sv_G} {T : sv_T} {nm : Int32} {p : Nat} {q c : Nat} (hq : q < 3) (hc : T 14 q 0 = nI c) (hc2 : c ≤ 13) (hp : p + 1 < c) (hS : ∀ N : sv_Mem, N 0 = T → sv_Ct G M_X1_savepointOrError 3 [.ref (sv_ad G 10 0 0), .int (nI q), .int nm] N (some (.int (nI p))) N) : OpS G M_X1_undoToName 4 [.int (nI q), .int nm] T (inc (drT (unT T q (p + 1) c) q (p + 1) c) 5) (nI (cnt (difP T q (p + 1) c) 16)) := fun N h0 => by
  have z := hS N h0
  subst h0
  exact c_X1_undoToName_y (i := 0) (by decide) hq hc (by omega) hp z
theorem opS_rel_y {G : sv_G} {T : sv_T} {nm : Int32} {p : Nat} {q c : Nat} (hq : q < 3) (hc : T 14 q 0 = nI c) (hc2 : c ≤ 13) (hp : p + 1 < c) (hS : ∀ N : sv_Mem, N 0 = T → sv_Ct G M_X1_savepointOrError 3 [.ref (sv_ad G 10 0 0), .int (nI q), .int nm] N (some (.int (nI p))) N) : OpS G M_X1_releaseName 4 [.int (nI q), .int nm] T (drT T q p c) (nI (c - 1 - p)) := fun N h0 => by
  have z := hS N h0
  subst h0
  exact c_X1_releaseName_y (i := 0) (by decide) hq hc (by omega) hp z
theorem opS_read_x {G : sv_G} {T : sv_T} {v w : Int32} (h : ¬ inR v (nI 0) (nI 2) ∨ (∃ q c, q < 3 ∧ v = nI q ∧ T 14 q 0 = nI c ∧ c ≤ 13 ∧ ¬ inR w (nI 0) (nI 15))) : OpS G M_X1_readKey 4 [.int v, .int w] T (T) (-1) := opS_e (fun N h0 => by
  rcases h with hv | ⟨q, c, hq, rfl, hc, hc2, hw⟩
  · exact c_X1_readKey_e (i := 0) (by decide) ne_c.1 (why_x hv)
  · exact c_X1_readKey_e (i := 0) (by decide) ne_c.1 (why_at hq (by rw [h0]; exact hc) hc2 (if_neg hw)))
theorem opS_read_n {G : sv_G} {T : sv_T} {k : Nat} {q c : Nat} (hq : q < 3) (hc : T 14 q 0 = nI c) (hc2 : c ≤ 13) (hk : k < 16) (hz : c = 0) : OpS G M_X1_readKey 4 [.int (nI q), .int (nI k)] T (T) (-4) := opS_e (fun N h0 => c_X1_readKey_e (i := 0) (by decide) ne_c.2.2.2 (why_at hq (by rw [h0]; exact hc) hc2 ((if_pos (inR_lt (by omega) (by omega))).trans (if_neg (fun z => z hz)))))
theorem opS_erase_x {G : sv_G} {T : sv_T} {v w : Int32} (h : ¬ inR v (nI 0) (nI 2) ∨ (∃ q c, q < 3 ∧ v = nI q ∧ T 14 q 0 = nI c ∧ c ≤ 13 ∧ ¬ inR w (nI 0) (nI 15))) : OpS G M_X1_eraseKey 4 [.int v, .int w] T (T) (-1) := opS_e (fun N h0 => by
  rcases h with hv | ⟨q, c, hq, rfl, hc, hc2, hw⟩
  · exact c_X1_eraseKey_e (i := 0) (by decide) ne_c.1 (why_x hv)
  · exact c_X1_eraseKey_e (i := 0) (by decide) ne_c.1 (why_at hq (by rw [h0]; exact hc) hc2 (if_neg hw)))
theorem opS_erase_n {G : sv_G} {T : sv_T} {k : Nat} {q c : Nat} (hq : q < 3) (hc : T 14 q 0 = nI c) (hc2 : c ≤ 13) (hk : k < 16) (hz : c = 0) : OpS G M_X1_eraseKey 4 [.int (nI q), .int (nI k)] T (T) (-4) := opS_e (fun N h0 => c_X1_eraseKey_e (i := 0) (by decide) ne_c.2.2.2 (why_at hq (by rw [h0]; exact hc) hc2 ((if_pos (inR_lt (by omega) (by omega))).trans (if_neg (fun z => z hz)))))
theorem opS_read_y {G : sv_G} {T : sv_T} {q mq k : Nat} (hq : q < 3) (hc : T 14 q 0 = nI (mq + 1)) (hmq : mq ≤ 12) (hk : k < 16) : OpS G M_X1_readKey 4 [.int (nI q), .int (nI k)] T (enT (tkT (bsT T q mq) q k (nI 1)) q mq (rdC (bsT T q mq) q k)) (rdC (bsT T q mq) q k) := fun N h0 => by
  subst h0
  exact c_X1_readKey_y (i := 0) (by decide) hq hc hmq hk (why_at hq hc (by omega) ((if_pos (inR_lt (by omega) (by omega))).trans (if_pos (by omega))))
theorem opS_erase_y {G : sv_G} {T : sv_T} {q mq k : Nat} (hq : q < 3) (hc : T 14 q 0 = nI (mq + 1)) (hmq : mq ≤ 12) (hk : k < 16) : OpS G M_X1_eraseKey 4 [.int (nI q), .int (nI k)] T (enT (rvT (bsT T q mq) q k (mq + 1) (-5)) q mq (rvC (bsT T q mq) q k)) (rvC (bsT T q mq) q k) := fun N h0 => by
  subst h0
  exact c_X1_eraseKey_y (i := 0) (by decide) hq hc hmq hk (why_at hq hc (by omega) ((if_pos (inR_lt (by omega) (by omega))).trans (if_pos (by omega))))
theorem opS_write_x {G : sv_G} {T : sv_T} {v w u : Int32} (h : ¬ inR v (nI 0) (nI 2) ∨ (∃ q c, q < 3 ∧ v = nI q ∧ T 14 q 0 = nI c ∧ c ≤ 13 ∧ ¬ inR w (nI 0) (nI 15))) : OpS G M_X1_writeKey 4 [.int v, .int w, .int u] T (T) (-1) := opS_e (fun N h0 => by
  rcases h with hv | ⟨q, c, hq, rfl, hc, hc2, hw⟩
  · exact c_X1_writeKey_e (i := 0) (by decide) ne_c.1 (why_x hv)
  · exact c_X1_writeKey_e (i := 0) (by decide) ne_c.1 (why_ab hq (by rw [h0]; exact hc) hc2 (if_neg hw)))
theorem opS_write_b {G : sv_G} {T : sv_T} {k : Nat} {u : Int32} {q c : Nat} (hq : q < 3) (hc : T 14 q 0 = nI c) (hc2 : c ≤ 13) (hk : k < 16) (hu : ¬ inR u (nI 0) (nI 9999)) : OpS G M_X1_writeKey 4 [.int (nI q), .int (nI k), .int u] T (T) (-2) := opS_e (fun N h0 => c_X1_writeKey_e (i := 0) (by decide) ne_c.2.1 (why_ab hq (by rw [h0]; exact hc) hc2 ((if_pos (inR_lt (by omega) (by omega))).trans (if_neg hu))))
theorem opS_write_n {G : sv_G} {T : sv_T} {k : Nat} {u : Int32} {q c : Nat} (hq : q < 3) (hc : T 14 q 0 = nI c) (hc2 : c ≤ 13) (hk : k < 16) (hu : inR u (nI 0) (nI 9999)) (hz : c = 0) : OpS G M_X1_writeKey 4 [.int (nI q), .int (nI k), .int u] T (T) (-4) := opS_e (fun N h0 => c_X1_writeKey_e (i := 0) (by decide) ne_c.2.2.2 (why_ab hq (by rw [h0]; exact hc) hc2 ((if_pos (inR_lt (by omega) (by omega))).trans ((if_pos hu).trans (if_neg (fun z => z hz))))))
theorem opS_write_y {G : sv_G} {T : sv_T} {q mq k : Nat} (hq : q < 3) (hc : T 14 q 0 = nI (mq + 1)) (hmq : mq ≤ 12) (hk : k < 16) {u : Int32} (hu : inR u (nI 0) (nI 9999)) : OpS G M_X1_writeKey 4 [.int (nI q), .int (nI k), .int u] T (enT (rvT (bsT T q mq) q k (mq + 1) u) q mq (rvC (bsT T q mq) q k)) (rvC (bsT T q mq) q k) := fun N h0 => by
  subst h0
  exact c_X1_writeKey_y (i := 0) (by decide) hq hc hmq hk (why_ab hq hc (by omega) ((if_pos (inR_lt (by omega) (by omega))).trans ((if_pos hu).trans (if_pos (by omega)))))
theorem opS_shift_x {G : sv_G} {T : sv_T} {v keys d : Int32} (hv : ¬ inR v (nI 0) (nI 2)) : OpS G M_X1_shiftKeys 4 [.int v, .int keys, .int d] T (T) (-1) := opS_e (fun N h0 => c_X1_shiftKeys_e (i := 0) (b := (inR keys (nI 1) 65535 ∧ inR d (-9999) (nI 9999))) (by decide) Iff.rfl ne_c.1 (why_x hv))
theorem opS_shift_b {G : sv_G} {T : sv_T} {keys d : Int32} {q c : Nat} (hq : q < 3) (hc : T 14 q 0 = nI c) (hc2 : c ≤ 13) (hb : ¬ (inR keys (nI 1) 65535 ∧ inR d (-9999) (nI 9999))) : OpS G M_X1_shiftKeys 4 [.int (nI q), .int keys, .int d] T (T) (-2) := opS_e (fun N h0 => c_X1_shiftKeys_e (i := 0) (b := (inR keys (nI 1) 65535 ∧ inR d (-9999) (nI 9999))) (by decide) Iff.rfl ne_c.2.1 (why_tb hq (by rw [h0]; exact hc) hc2 (if_neg hb)))
theorem opS_shift_n {G : sv_G} {T : sv_T} {keys d : Int32} {q c : Nat} (hq : q < 3) (hc : T 14 q 0 = nI c) (hc2 : c ≤ 13) (hb : (inR keys (nI 1) 65535 ∧ inR d (-9999) (nI 9999))) (hz : c = 0) : OpS G M_X1_shiftKeys 4 [.int (nI q), .int keys, .int d] T (T) (-4) := opS_e (fun N h0 => c_X1_shiftKeys_e (i := 0) (b := (inR keys (nI 1) 65535 ∧ inR d (-9999) (nI 9999))) (by decide) Iff.rfl ne_c.2.2.2 (why_tb hq (by rw [h0]; exact hc) hc2 ((if_pos hb).trans (if_neg (fun z => z hz)))))
theorem opS_shift_y {G : sv_G} {T : sv_T} {q mq kn : Nat} {keys d : Int32} (hq : q < 3) (hc : T 14 q 0 = nI (mq + 1)) (hmq : mq ≤ 12) (hkn : keys = nI kn) (hkl : kn < 65536) (hb : (inR keys (nI 1) 65535 ∧ inR d (-9999) (nI 9999))) : OpS G M_X1_shiftKeys 4 [.int (nI q), .int keys, .int d] T (enT (shT (bsT T q mq) q (mq + 1) keys d (nI (pcn keys)) 16).1 q mq (shT (bsT T q mq) q (mq + 1) keys d (nI (pcn keys)) 16).2) ((shT (bsT T q mq) q (mq + 1) keys d (nI (pcn keys)) 16).2) := fun N h0 => by
  subst h0
  exact c_X1_shiftKeys_y (i := 0) (b := (inR keys (nI 1) 65535 ∧ inR d (-9999) (nI 9999))) (by decide) hq hc hmq hkn hkl Iff.rfl (why_tb hq hc (by omega) ((if_pos hb).trans (if_pos (by omega))))
theorem opS_move_x {G : sv_G} {T : sv_T} {v f t amt : Int32} (h : ¬ inR v (nI 0) (nI 2) ∨ (∃ q c, q < 3 ∧ v = nI q ∧ T 14 q 0 = nI c ∧ c ≤ 13 ∧ ¬ (inR f (nI 0) (nI 15) ∧ inR t (nI 0) (nI 15)))) : OpS G M_X1_moveAmount 4 [.int v, .int f, .int t, .int amt] T (T) (-1) := opS_e (fun N h0 => by
  rcases h with hv | ⟨q, c, hq, rfl, hc, hc2, hw⟩
  · exact c_X1_moveAmount_e (i := 0) (a := (inR f (nI 0) (nI 15) ∧ inR t (nI 0) (nI 15))) (b := (inR amt (nI 1) (nI 9999) ∧ f ≠ t)) (by decide) Iff.rfl Iff.rfl ne_c.1 (why_x hv)
  · exact c_X1_moveAmount_e (i := 0) (a := (inR f (nI 0) (nI 15) ∧ inR t (nI 0) (nI 15))) (b := (inR amt (nI 1) (nI 9999) ∧ f ≠ t)) (by decide) Iff.rfl Iff.rfl ne_c.1 (why_ab hq (by rw [h0]; exact hc) hc2 (if_neg hw)))
theorem opS_move_b {G : sv_G} {T : sv_T} {f t amt : Int32} {q c : Nat} (hq : q < 3) (hc : T 14 q 0 = nI c) (hc2 : c ≤ 13) (ha : (inR f (nI 0) (nI 15) ∧ inR t (nI 0) (nI 15))) (hb : ¬ (inR amt (nI 1) (nI 9999) ∧ f ≠ t)) : OpS G M_X1_moveAmount 4 [.int (nI q), .int f, .int t, .int amt] T (T) (-2) := opS_e (fun N h0 => c_X1_moveAmount_e (i := 0) (a := (inR f (nI 0) (nI 15) ∧ inR t (nI 0) (nI 15))) (b := (inR amt (nI 1) (nI 9999) ∧ f ≠ t)) (by decide) Iff.rfl Iff.rfl ne_c.2.1 (why_ab hq (by rw [h0]; exact hc) hc2 ((if_pos ha).trans (if_neg hb))))
theorem opS_move_n {G : sv_G} {T : sv_T} {f t amt : Int32} {q c : Nat} (hq : q < 3) (hc : T 14 q 0 = nI c) (hc2 : c ≤ 13) (ha : (inR f (nI 0) (nI 15) ∧ inR t (nI 0) (nI 15))) (hb : (inR amt (nI 1) (nI 9999) ∧ f ≠ t)) (hz : c = 0) : OpS G M_X1_moveAmount 4 [.int (nI q), .int f, .int t, .int amt] T (T) (-4) := opS_e (fun N h0 => c_X1_moveAmount_e (i := 0) (a := (inR f (nI 0) (nI 15) ∧ inR t (nI 0) (nI 15))) (b := (inR amt (nI 1) (nI 9999) ∧ f ≠ t)) (by decide) Iff.rfl Iff.rfl ne_c.2.2.2 (why_ab hq (by rw [h0]; exact hc) hc2 ((if_pos ha).trans ((if_pos hb).trans (if_neg (fun z => z hz))))))
theorem opS_move_y {G : sv_G} {T : sv_T} {q mq ka kb : Nat} {amt : Int32} (hq : q < 3) (hc : T 14 q 0 = nI (mq + 1)) (hmq : mq ≤ 12) (hka : ka < 16) (hkb : kb < 16) (hb : (inR amt (nI 1) (nI 9999) ∧ nI ka ≠ nI kb)) : OpS G M_X1_moveAmount 4 [.int (nI q), .int (nI ka), .int (nI kb), .int amt] T (enT (mvT (bsT T q mq) q (mq + 1) ka kb amt).1 q mq (mvT (bsT T q mq) q (mq + 1) ka kb amt).2) ((mvT (bsT T q mq) q (mq + 1) ka kb amt).2) := fun N h0 => by
  subst h0
  exact c_X1_moveAmount_y (i := 0) (a := (inR (nI ka) (nI 0) (nI 15) ∧ inR (nI kb) (nI 0) (nI 15))) (b := (inR amt (nI 1) (nI 9999) ∧ nI ka ≠ nI kb)) (by decide) hq hc hmq hka hkb Iff.rfl Iff.rfl (why_ab hq hc (by omega) ((if_pos ⟨(inR_lt (by omega) (by omega)), (inR_lt (by omega) (by omega))⟩).trans ((if_pos hb).trans (if_pos (by omega)))))
theorem T8 (M : sv_Mem) (cs : Nat → Nat) (o t : Nat) (T2 : sv_T) : sT (rmM M o t cs) 0 T2 8 0 0 = M 8 0 0 := by rw [sT_ne _ _ (by omega), rmM_8]
theorem OpS.rm {G : sv_G} {op : sv_M} {d : Nat} {args : List Value} {M : sv_Mem} {cs : Nat → Nat} {o t : Nat} {r : Int32} {T2 : sv_T} (h : OpS G op d args (M 0) T2 r) : sv_Ct G op d (.ref (sv_ad G 10 0 0) :: args) (rmM M o t cs) (some (.int r)) (sT (rmM M o t cs) 0 T2) := h _ (rmM_0 M o t cs)
theorem OpS.re {G : sv_G} {op : sv_M} {d : Nat} {args : List Value} {M : sv_Mem} {cs : Nat → Nat} {o t : Nat} {r : Int32} (h : OpS G op d args (M 0) (M 0) r) : sv_Ct G op d (.ref (sv_ad G 10 0 0) :: args) (rmM M o t cs) (some (.int r)) (rmM M o t cs) := h.err (rmM_0 M o t cs)
theorem snc_acc {f : Nat → Int32} {k : Nat} : ∀ (c m : Nat) (acc : Int32), bt (sncR f c m acc) k = (bt acc k || bt (sncR f c m (nI 0)) k)
  | 0, m, acc => by
    show bt acc k = (bt acc k || bt (nI 0) k)
    rw [bt_0, Bool.or_false]
  | c + 1, m, acc => by
    show bt (sncR f c (m + 1) (acc ||| f m)) k = (bt acc k || bt (sncR f c (m + 1) (nI 0 ||| f m)) k)
    rw [snc_acc c (m + 1) (acc ||| f m), snc_acc c (m + 1) (nI 0 ||| f m), bt_or, bt_or, bt_0, Bool.false_or, Bool.or_assoc]
theorem fv_t {f v : Nat → Int32} {k : Nat} {d d2 : Int32} : ∀ (c m : Nat), bt (sncR f c m (nI 0)) k = true → fvR f v k d c m = fvR f v k d2 c m
  | 0, m, h => by
    rw [show sncR f 0 m (nI 0) = nI 0 from rfl, bt_0] at h
    cases h
  | c + 1, m, h => by
    unfold fvR
    by_cases hb : bt (f m) k = true
    · rw [if_pos hb, if_pos hb]
    · rw [if_neg hb, if_neg hb]
      refine fv_t c (m + 1) ?_
      rw [show sncR f (c + 1) m (nI 0) = sncR f c (m + 1) (nI 0 ||| f m) from rfl, snc_acc, bt_or, bt_0, bt_true.mp hb] at h
      exact h
theorem fv_f {f v : Nat → Int32} {k : Nat} {d : Int32} : ∀ (c m : Nat), ¬ bt (sncR f c m (nI 0)) k = true → fvR f v k d c m = d
  | 0, m, h => rfl
  | c + 1, m, h => by
    rw [show sncR f (c + 1) m (nI 0) = sncR f c (m + 1) (nI 0 ||| f m) from rfl, snc_acc, bt_or, bt_0, Bool.false_or, Bool.or_eq_true] at h
    unfold fvR
    rw [if_neg (fun z => h (Or.inl z))]
    exact fv_f c (m + 1) (fun z => h (Or.inr z))
theorem md_xor (x y : Int32) {k : Nat} (hk : k < 16) : md (x ^^^ y) k = nI 0 ↔ md x k = md y k := by
  have hb : ∀ i, i < 2 → bt (x ^^^ y) (2 * k + i) = (bt x (2 * k + i) ^^ bt y (2 * k + i)) := fun i hi => by
    unfold bt
    rw [Int32.toBitVec_xor, BitVec.getLsbD_xor]
  constructor
  · intro h
    apply bt_ext
    intro i hi
    rw [md_bt _ hk hi, md_bt _ hk hi]
    by_cases h2 : i < 2
    · have z := congrArg (fun z => bt z i) h
      simp only [md_bt _ hk hi, bt_0, h2, decide_true, Bool.true_and, hb i h2] at z
      simp only [h2, decide_true, Bool.true_and]
      cases hx : bt x (2 * k + i) <;> cases hy : bt y (2 * k + i) <;> simp [hx, hy] at z ⊢
    · simp [h2]
  · intro h
    apply bt_ext
    intro i hi
    rw [md_bt _ hk hi, bt_0]
    by_cases h2 : i < 2
    · have z := congrArg (fun z => bt z i) h
      simp only [md_bt _ hk hi, h2, decide_true, Bool.true_and] at z
      rw [hb i h2, z]
      simp
    · simp [h2]
theorem lcS_bt (d : Int32) : ∀ (c : Nat), c ≤ 16 → ∀ i, i < 32 → bt (lcS d c) i = (decide (i < c) && decide (¬ md d i = nI 0))
  | 0, _, i, hi => by
    show bt (nI 0) i = _
    rw [bt_0]
    simp
  | c + 1, hc, i, hi => by
    have ih := lcS_bt d c (by omega) i hi
    unfold lcS
    by_cases h : md d c = nI 0
    · rw [if_pos h, ih]
      by_cases e : i = c
      · subst e
        simp [h]
      · simp [show (i < c + 1) = (i < c) by simp; omega]
    · rw [if_neg h, bt_sb _ (by omega) hi, ih]
      by_cases e : i = c
      · subst e
        simp [h]
      · simp [e, show (i < c + 1) = (i < c) by simp; omega]
