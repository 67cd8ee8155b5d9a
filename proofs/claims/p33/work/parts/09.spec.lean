theorem pn_X0 : plainName RX0 = true := by decide +kernel
theorem pn_X1 : plainName RX1 = true := by decide +kernel
theorem pn_X2 : plainName RX2 = true := by decide +kernel
theorem pn_X3 : plainName RX3 = true := by decide +kernel
theorem pn_X4 : plainName RX4 = true := by decide +kernel
theorem pn_J6 : plainName RJ6 = true := by decide +kernel
theorem sv_nzB {b : Prop} [Decidable b] : narrow .boolean (.int (bI b)) = .int (bI b) := by unfold bI; split <;> rfl
theorem rb_t {b : Prop} [Decidable b] (h : b) : some (Value.int (bI b)) = some (.int (nI 1)) := by rw [bI_t h]
theorem rb_f {b : Prop} [Decidable b] (h : ¬ b) : some (Value.int (bI b)) = some (.int (nI 0)) := by rw [bI_f h]
theorem ri_of {x y : Int32} (h : x = y) : some (Value.int x) = some (.int y) := by rw [h]
theorem sv_ti {x : Int32} {c : Nat} (h : ¬ x = nI c) (hc : c < 2 ^ 31) : x.toInt ≠ (c : Int) := fun e => h (Int32.toInt_inj.mp (e.trans (nI_toInt hc).symm))
theorem sw_case {G : sv_G} {K : sv_K} {nL : Nat} {M : sv_Mem} {pc : Nat} {lo : List (Option Value)} {rest : List Value} {x v : Int32} (kt : x = v → sw_W G K nL pc lo (.int x :: rest) M) (kf : ¬ x = v → sw_W G K nL pc lo (.int x :: rest) M) : sw_W G K nL pc lo (.int x :: rest) M := by
  by_cases h : x = v
  · exact kt h
  · exact kf h
theorem sw_tabInV {G : sv_G} {K : sv_K} {cc : ByteArray} {own : String} {nL d : Nat} {M : sv_Mem} {pc : Nat} {lo : List (Option Value)} {rest : List Value} (X : sv_X G K cc own nL d) {dflt a b : Int} {offs : Array Int} {len : Nat} {x v : Int32} {q : Nat} (tgt : Nat) (hd : decode cc pc = .ok (.tableswitch dflt a b offs, len)) (h : x = v) (hv : v.toInt = a + (q : Int) ∧ a + (q : Int) ≤ b) (ho : offs[q]?.map (fun o => (pc : Int) + o) = some (tgt : Int)) (k : sw_W G K nL tgt lo rest M) : sw_W G K nL pc lo (.int x :: rest) M := by
  subst h
  obtain ⟨h1, h2⟩ := hv
  cases hq : offs[q]? with
  | none => rw [hq] at ho; cases ho
  | some off =>
    rw [hq] at ho
    exact sw_tabIn X tgt hd (by omega) (by omega) (off := off) (by rw [h1, show a + (q : Int) - a = (q : Int) by omega]; exact hq) (Option.some.inj ho) k
theorem sw_lookupV {G : sv_G} {K : sv_K} {cc : ByteArray} {own : String} {nL d : Nat} {M : sv_Mem} {pc : Nat} {lo : List (Option Value)} {rest : List Value} (X : sv_X G K cc own nL d) {dflt : Int} {ps : Array (Int × Int)} {len : Nat} {x v : Int32} (tgt : Nat) (hd : decode cc pc = .ok (.lookupswitch dflt ps, len)) (hp : (ps.toList.zip (ps.toList.drop 1)).all (fun (a, next) => a.1 < next.1) = true) (h : x = v) (ho : (pc : Int) + Op.lookupswitch.offset ps.toList dflt v.toInt = (tgt : Int)) (k : sw_W G K nL tgt lo rest M) : sw_W G K nL pc lo (.int x :: rest) M := by
  subst h
  exact sw_lookup X tgt hd hp rfl ho k
/-- bit k of a set -/
def bt (x : Int32) (k : Nat) : Bool := x.toBitVec.getLsbD k
/-- the mode of key k in a word of modes -/
def md (x : Int32) (k : Nat) : Int32 := (x >>> (nI (2 * k) &&& 31)) &&& nI 3
/-- a word of modes with another mode of key k -/
def sm (x : Int32) (k : Nat) (v : Int32) : Int32 := (x &&& ((nI 3 <<< (nI (2 * k) &&& 31)) ^^^ (-1))) ||| (v <<< (nI (2 * k) &&& 31))
/-- a set with key k in it -/
def sb (x : Int32) (k : Nat) : Int32 := x ||| (nI 1 <<< (nI k &&& 31))
theorem sv_tn {n : Nat} (h : n < 2 ^ 32) : (nI n).toBitVec.toNat = n := pk_tn h
theorem sv_and31 {k : Nat} (h : k < 32) : nI k &&& 31 = nI k := by
  rw [pk_andN (n := k) (by omega) 5 rfl, Nat.mod_eq_of_lt (by omega)]
theorem sv_smod {k : Nat} (h : k < 32) : ((nI k).toBitVec.smod 32).toNat = k := by
  have : ∀ k, k < 32 → ((nI k).toBitVec.smod 32).toNat = k := by decide +kernel
  exact this k h
theorem sv_shr_bv (x : Int32) {k : Nat} (h : k < 32) : (x >>> (nI k &&& 31)).toBitVec = x.toBitVec.sshiftRight k := by
  rw [sv_and31 h, Int32.toBitVec_shiftRight, BitVec.sshiftRight_eq', sv_smod h]
theorem sv_shl_bv (x : Int32) {k : Nat} (h : k < 32) : (x <<< (nI k &&& 31)).toBitVec = x.toBitVec <<< k := by
  rw [sv_and31 h, Int32.toBitVec_shiftLeft, BitVec.shiftLeft_eq', sv_smod h]
theorem bt_shr1 (x : Int32) {k : Nat} (h : k < 32) : (x >>> (nI k &&& 31)) &&& nI 1 = if bt x k then nI 1 else nI 0 := by
  apply Int32.toBitVec_inj.mp
  apply BitVec.eq_of_getLsbD_eq
  intro i hi
  rw [Int32.toBitVec_and, sv_shr_bv x h, BitVec.getLsbD_and, BitVec.getLsbD_sshiftRight]
  have e1 : (nI 1).toBitVec.getLsbD i = decide (i = 0) := by
    have : ∀ i, i < 32 → (nI 1).toBitVec.getLsbD i = decide (i = 0) := by decide +kernel
    exact this i hi
  rw [e1]
  by_cases hi0 : i = 0
  · subst hi0
    simp only [decide_true, Bool.and_true, Nat.add_zero]
    unfold bt
    rw [if_pos (by omega)]
    cases x.toBitVec.getLsbD k <;> simp <;> decide
  · simp only [decide_eq_false hi0, Bool.and_false]
    split <;> simp [e1, hi0]
    have : ∀ i, i < 32 → (nI 0).toBitVec.getLsbD i = false := by decide +kernel
    exact this i hi
theorem bt_has (x : Int32) {k : Nat} (h : k < 32) : ((x >>> (nI k &&& 31)) &&& nI 1 = nI 1) ↔ bt x k = true := by
  rw [bt_shr1 x h]
  cases bt x k <;> simp
  decide
theorem bt_has0 (x : Int32) {k : Nat} (h : k < 32) : ((x >>> (nI k &&& 31)) &&& nI 1 = 0) ↔ bt x k = false := by
  rw [bt_shr1 x h]
  cases bt x k <;> simp
  · rfl
  · decide
theorem bt_shl (k : Nat) (hk : k < 32) (i : Nat) (hi : i < 32) : (nI 1 <<< (nI k &&& 31)).toBitVec.getLsbD i = decide (i = k) := by
  rw [sv_shl_bv _ hk, BitVec.getLsbD_shiftLeft]
  have e1 : ∀ i, i < 32 → (nI 1).toBitVec.getLsbD i = decide (i = 0) := by decide +kernel
  by_cases h : i < k
  · simp [h]; omega
  · rw [e1 (i - k) (by omega)]
    simp [h, hi]
    omega
theorem bt_sb (x : Int32) {k i : Nat} (hk : k < 32) (hi : i < 32) : bt (sb x k) i = (bt x i || decide (i = k)) := by
  unfold bt sb
  rw [Int32.toBitVec_or, BitVec.getLsbD_or, bt_shl k hk i hi]
theorem bt_and0 (x : Int32) {k : Nat} (hk : k < 32) : (x &&& (nI 1 <<< (nI k &&& 31)) = 0) ↔ bt x k = false := by
  constructor
  · intro h
    have h2 := congrArg (fun z : Int32 => z.toBitVec.getLsbD k) h
    simp only [Int32.toBitVec_and, BitVec.getLsbD_and, bt_shl k hk k hk] at h2
    unfold bt
    simpa using h2
  · intro h
    apply Int32.toBitVec_inj.mp
    apply BitVec.eq_of_getLsbD_eq
    intro i hi
    rw [Int32.toBitVec_and, BitVec.getLsbD_and, bt_shl k hk i hi]
    by_cases hik : i = k
    · subst hik
      unfold bt at h
      rw [h]
      simp
    · simp [hik]
theorem bt_or (x y : Int32) (i : Nat) : bt (x ||| y) i = (bt x i || bt y i) := by
  unfold bt
  rw [Int32.toBitVec_or, BitVec.getLsbD_or]
theorem bt_0 (i : Nat) : bt (nI 0) i = false := by
  unfold bt nI
  simp
theorem bt_ext {x y : Int32} (h : ∀ i, i < 32 → bt x i = bt y i) : x = y := Int32.toBitVec_inj.mp (BitVec.eq_of_getLsbD_eq (fun i hi => h i hi))
theorem md_bt (x : Int32) {k i : Nat} (hk : k < 16) (hi : i < 32) : bt (md x k) i = (decide (i < 2) && bt x (2 * k + i)) := by
  unfold md bt
  rw [Int32.toBitVec_and, BitVec.getLsbD_and, sv_shr_bv x (by omega), BitVec.getLsbD_sshiftRight]
  have e3 : ∀ i, i < 32 → (nI 3).toBitVec.getLsbD i = decide (i < 2) := by decide +kernel
  rw [e3 i hi]
  by_cases h : i < 2
  · rw [if_pos (by omega)]
    simp [h, hi]
  · simp [h]
theorem md_ushr (x : Int32) {k : Nat} (hk : k < 16) : sv_ushr x (nI (2 * k)) &&& nI 3 = md x k := by
  apply bt_ext
  intro i hi
  rw [md_bt x hk hi]
  have h31 : (UInt32.toBitVec ((nI (2 * k)).toUInt32 &&& Int32.toUInt32 31) % 32).toNat = 2 * k := by
    have : ∀ k, k < 16 → (UInt32.toBitVec ((nI (2 * k)).toUInt32 &&& Int32.toUInt32 31) % 32).toNat = 2 * k := by decide +kernel
    exact this k hk
  have e3 : ∀ i, i < 32 → (nI 3).toBitVec.getLsbD i = decide (i < 2) := by decide +kernel
  unfold bt sv_ushr
  rw [Int32.toBitVec_and, BitVec.getLsbD_and, e3 i hi]
  have e4 : (UInt32.toInt32 (x.toUInt32 >>> ((nI (2 * k)).toUInt32 &&& Int32.toUInt32 31))).toBitVec = x.toBitVec >>> (2 * k) := by
    show (x.toUInt32 >>> ((nI (2 * k)).toUInt32 &&& Int32.toUInt32 31)).toBitVec = _
    rw [UInt32.toBitVec_shiftRight, BitVec.ushiftRight_eq', h31]
    rfl
  rw [e4, BitVec.getLsbD_ushiftRight]
  exact Bool.and_comm _ _
theorem sm_bt (x v : Int32) {k i : Nat} (hk : k < 16) (hi : i < 32) (hv : ∀ i, i < 32 → 2 ≤ i → bt v i = false) : bt (sm x k v) i = if 2 * k ≤ i ∧ i < 2 * k + 2 then bt v (i - 2 * k) else bt x i := by
  have e3 : ∀ i, i < 32 → (nI 3).toBitVec.getLsbD i = decide (i < 2) := by decide +kernel
  have em : ∀ i, i < 32 → (-1 : Int32).toBitVec.getLsbD i = true := by decide +kernel
  unfold sm
  unfold bt at hv ⊢
  rw [Int32.toBitVec_or, BitVec.getLsbD_or, Int32.toBitVec_and, BitVec.getLsbD_and, Int32.toBitVec_xor, BitVec.getLsbD_xor, em i hi, sv_shl_bv _ (show 2 * k < 32 by omega), sv_shl_bv _ (show 2 * k < 32 by omega), BitVec.getLsbD_shiftLeft, BitVec.getLsbD_shiftLeft]
  by_cases h1 : i < 2 * k
  · rw [if_neg (by omega)]
    simp [h1]
  · rw [e3 (i - 2 * k) (by omega)]
    by_cases h2 : i < 2 * k + 2
    · rw [if_pos ⟨by omega, h2⟩]
      simp [h1, hi, show i - 2 * k < 2 by omega]
    · rw [if_neg (by omega), hv (i - 2 * k) (by omega) (by omega)]
      simp [h1, hi, show ¬ i - 2 * k < 2 by omega]
/-- a mode: 0 to 3 -/
def isMd (v : Int32) : Prop := ∀ i, i < 32 → 2 ≤ i → bt v i = false
theorem isMd_md (x : Int32) {k : Nat} (hk : k < 16) : isMd (md x k) := fun i hi h2 => by rw [md_bt x hk hi]; simp; omega
theorem isMd_c : isMd (nI 0) ∧ isMd (nI 1) ∧ isMd (nI 2) := by
  have : ∀ i, i < 32 → 2 ≤ i → (bt (nI 0) i = false ∧ bt (nI 1) i = false ∧ bt (nI 2) i = false) := by decide +kernel
  exact ⟨fun i h1 h2 => (this i h1 h2).1, fun i h1 h2 => (this i h1 h2).2.1, fun i h1 h2 => (this i h1 h2).2.2⟩
theorem md_sm (x v : Int32) {k q : Nat} (hk : k < 16) (hq : q < 16) (hv : isMd v) : md (sm x k v) q = if q = k then v else md x q := by
  apply bt_ext
  intro i hi
  rw [md_bt _ hq hi]
  by_cases h2 : i < 2
  · rw [sm_bt x v hk (by omega) hv]
    by_cases hqk : q = k
    · subst hqk
      rw [if_pos (by omega), if_pos rfl]
      simp [h2]
    · rw [if_neg (by omega), if_neg hqk, md_bt _ hq hi]
  · simp only [h2, decide_false, Bool.false_and]
    by_cases hqk : q = k
    · rw [if_pos hqk]
      exact (hv i hi (by omega)).symm
    · rw [if_neg hqk]
      exact (isMd_md x hq i hi (by omega)).symm
theorem md_ext {x y : Int32} (h : ∀ k, k < 16 → md x k = md y k) : x = y := by
  apply bt_ext
  intro i hi
  have h1 := congrArg (fun z => bt z (i % 2)) (h (i / 2) (by omega))
  simp only [md_bt _ (show i / 2 < 16 by omega) (show i % 2 < 32 by omega)] at h1
  rw [show 2 * (i / 2) + i % 2 = i by omega] at h1
  simpa [show i % 2 < 2 by omega] using h1

section SWI
variable {G : sv_G} {K : sv_K} {cc : ByteArray} {own : String} {nL d : Nat} {M : sv_Mem} {pc : Nat} {lo : List (Option Value)} {rest : List Value}
theorem sw_inc1_0 (X : sv_X G K cc own nL d) {t : List (Option Value)} {r : Nat} (hd : decode cc pc = .ok (.iinc 0 1, 3)) (k : sw_W G K nL (pc + 3) (some (.int (nI (r + 1))) :: t) rest M) : sw_W G K nL pc (some (.int (nI r)) :: t) rest M := sw_iinc_0 X (nI (r + 1)) hd (nI_succ r).symm k
theorem sw_inc1_1 (X : sv_X G K cc own nL d) {v0 : Option Value} {t : List (Option Value)} {r : Nat} (hd : decode cc pc = .ok (.iinc 1 1, 3)) (h1 : sv_c1 v0) (k : sw_W G K nL (pc + 3) (v0 :: some (.int (nI (r + 1))) :: t) rest M) : sw_W G K nL pc (v0 :: some (.int (nI r)) :: t) rest M := sw_iinc_1 X (nI (r + 1)) hd (nI_succ r).symm h1 k
theorem sw_inc1_2 (X : sv_X G K cc own nL d) {v0 v1 : Option Value} {t : List (Option Value)} {r : Nat} (hd : decode cc pc = .ok (.iinc 2 1, 3)) (h1 : sv_c1 v1) (k : sw_W G K nL (pc + 3) (v0 :: v1 :: some (.int (nI (r + 1))) :: t) rest M) : sw_W G K nL pc (v0 :: v1 :: some (.int (nI r)) :: t) rest M := sw_iinc_2 X (nI (r + 1)) hd (nI_succ r).symm h1 k
theorem sw_inc1_3 (X : sv_X G K cc own nL d) {v0 v1 v2 : Option Value} {t : List (Option Value)} {r : Nat} (hd : decode cc pc = .ok (.iinc 3 1, 3)) (h1 : sv_c1 v2) (k : sw_W G K nL (pc + 3) (v0 :: v1 :: v2 :: some (.int (nI (r + 1))) :: t) rest M) : sw_W G K nL pc (v0 :: v1 :: v2 :: some (.int (nI r)) :: t) rest M := sw_iinc_3 X (nI (r + 1)) hd (nI_succ r).symm h1 k
theorem sw_inc1_4 (X : sv_X G K cc own nL d) {v0 v1 v2 v3 : Option Value} {t : List (Option Value)} {r : Nat} (hd : decode cc pc = .ok (.iinc 4 1, 3)) (h1 : sv_c1 v3) (k : sw_W G K nL (pc + 3) (v0 :: v1 :: v2 :: v3 :: some (.int (nI (r + 1))) :: t) rest M) : sw_W G K nL pc (v0 :: v1 :: v2 :: v3 :: some (.int (nI r)) :: t) rest M := sw_iinc_4 X (nI (r + 1)) hd (nI_succ r).symm h1 k
theorem sw_inc1_5 (X : sv_X G K cc own nL d) {v0 v1 v2 v3 v4 : Option Value} {t : List (Option Value)} {r : Nat} (hd : decode cc pc = .ok (.iinc 5 1, 3)) (h1 : sv_c1 v4) (k : sw_W G K nL (pc + 3) (v0 :: v1 :: v2 :: v3 :: v4 :: some (.int (nI (r + 1))) :: t) rest M) : sw_W G K nL pc (v0 :: v1 :: v2 :: v3 :: v4 :: some (.int (nI r)) :: t) rest M := sw_iinc_5 X (nI (r + 1)) hd (nI_succ r).symm h1 k
theorem sw_inc1_6 (X : sv_X G K cc own nL d) {v0 v1 v2 v3 v4 v5 : Option Value} {t : List (Option Value)} {r : Nat} (hd : decode cc pc = .ok (.iinc 6 1, 3)) (h1 : sv_c1 v5) (k : sw_W G K nL (pc + 3) (v0 :: v1 :: v2 :: v3 :: v4 :: v5 :: some (.int (nI (r + 1))) :: t) rest M) : sw_W G K nL pc (v0 :: v1 :: v2 :: v3 :: v4 :: v5 :: some (.int (nI r)) :: t) rest M := sw_iinc_6 X (nI (r + 1)) hd (nI_succ r).symm h1 k
theorem sw_inc1_7 (X : sv_X G K cc own nL d) {v0 v1 v2 v3 v4 v5 v6 : Option Value} {t : List (Option Value)} {r : Nat} (hd : decode cc pc = .ok (.iinc 7 1, 3)) (h1 : sv_c1 v6) (k : sw_W G K nL (pc + 3) (v0 :: v1 :: v2 :: v3 :: v4 :: v5 :: v6 :: some (.int (nI (r + 1))) :: t) rest M) : sw_W G K nL pc (v0 :: v1 :: v2 :: v3 :: v4 :: v5 :: v6 :: some (.int (nI r)) :: t) rest M := sw_iinc_7 X (nI (r + 1)) hd (nI_succ r).symm h1 k
theorem sw_inc1_8 (X : sv_X G K cc own nL d) {v0 v1 v2 v3 v4 v5 v6 v7 : Option Value} {t : List (Option Value)} {r : Nat} (hd : decode cc pc = .ok (.iinc 8 1, 3)) (h1 : sv_c1 v7) (k : sw_W G K nL (pc + 3) (v0 :: v1 :: v2 :: v3 :: v4 :: v5 :: v6 :: v7 :: some (.int (nI (r + 1))) :: t) rest M) : sw_W G K nL pc (v0 :: v1 :: v2 :: v3 :: v4 :: v5 :: v6 :: v7 :: some (.int (nI r)) :: t) rest M := sw_iinc_8 X (nI (r + 1)) hd (nI_succ r).symm h1 k
theorem sw_inc1_9 (X : sv_X G K cc own nL d) {v0 v1 v2 v3 v4 v5 v6 v7 v8 : Option Value} {t : List (Option Value)} {r : Nat} (hd : decode cc pc = .ok (.iinc 9 1, 3)) (h1 : sv_c1 v8) (k : sw_W G K nL (pc + 3) (v0 :: v1 :: v2 :: v3 :: v4 :: v5 :: v6 :: v7 :: v8 :: some (.int (nI (r + 1))) :: t) rest M) : sw_W G K nL pc (v0 :: v1 :: v2 :: v3 :: v4 :: v5 :: v6 :: v7 :: v8 :: some (.int (nI r)) :: t) rest M := sw_iinc_9 X (nI (r + 1)) hd (nI_succ r).symm h1 k
theorem sw_inc1_10 (X : sv_X G K cc own nL d) {v0 v1 v2 v3 v4 v5 v6 v7 v8 v9 : Option Value} {t : List (Option Value)} {r : Nat} (hd : decode cc pc = .ok (.iinc 10 1, 3)) (h1 : sv_c1 v9) (k : sw_W G K nL (pc + 3) (v0 :: v1 :: v2 :: v3 :: v4 :: v5 :: v6 :: v7 :: v8 :: v9 :: some (.int (nI (r + 1))) :: t) rest M) : sw_W G K nL pc (v0 :: v1 :: v2 :: v3 :: v4 :: v5 :: v6 :: v7 :: v8 :: v9 :: some (.int (nI r)) :: t) rest M := sw_iinc_10 X (nI (r + 1)) hd (nI_succ r).symm h1 k
theorem sw_inc1_11 (X : sv_X G K cc own nL d) {v0 v1 v2 v3 v4 v5 v6 v7 v8 v9 v10 : Option Value} {t : List (Option Value)} {r : Nat} (hd : decode cc pc = .ok (.iinc 11 1, 3)) (h1 : sv_c1 v10) (k : sw_W G K nL (pc + 3) (v0 :: v1 :: v2 :: v3 :: v4 :: v5 :: v6 :: v7 :: v8 :: v9 :: v10 :: some (.int (nI (r + 1))) :: t) rest M) : sw_W G K nL pc (v0 :: v1 :: v2 :: v3 :: v4 :: v5 :: v6 :: v7 :: v8 :: v9 :: v10 :: some (.int (nI r)) :: t) rest M := sw_iinc_11 X (nI (r + 1)) hd (nI_succ r).symm h1 k
theorem sw_inc1_12 (X : sv_X G K cc own nL d) {v0 v1 v2 v3 v4 v5 v6 v7 v8 v9 v10 v11 : Option Value} {t : List (Option Value)} {r : Nat} (hd : decode cc pc = .ok (.iinc 12 1, 3)) (h1 : sv_c1 v11) (k : sw_W G K nL (pc + 3) (v0 :: v1 :: v2 :: v3 :: v4 :: v5 :: v6 :: v7 :: v8 :: v9 :: v10 :: v11 :: some (.int (nI (r + 1))) :: t) rest M) : sw_W G K nL pc (v0 :: v1 :: v2 :: v3 :: v4 :: v5 :: v6 :: v7 :: v8 :: v9 :: v10 :: v11 :: some (.int (nI r)) :: t) rest M := sw_iinc_12 X (nI (r + 1)) hd (nI_succ r).symm h1 k
end SWI
