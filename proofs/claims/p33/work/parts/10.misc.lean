/-! small things that the class's parts stand on -/
theorem va_up_up {α : Type} (f : Nat → α) (k : Nat) (v w : α) : va_up (va_up f k v) k w = va_up f k w := by
  funext j
  unfold va_up
  split <;> rfl
theorem va_up_id {α : Type} (f : Nat → α) (k : Nat) : va_up f k (f k) = f := by
  funext j
  unfold va_up
  split <;> rename_i h
  · rw [h]
  · rfl
theorem sv_upA_get (M : sv_Mem) {i k j i2 k2 j2 : Nat} (f : Nat → Int32) (h : ¬ (k2 = k ∧ i2 = i ∧ j2 = j)) : sv_upA M i k j f i2 k2 j2 = M i2 k2 j2 := sv_upA_ne M i k j f k2 i2 j2 h
theorem up_ind {N : Nat} {P : Nat → Prop} (h : ∀ r, r ≤ N → (∀ r2, r < r2 → r2 ≤ N → P r2) → P r) : ∀ r, r ≤ N → P r := by
  have key : ∀ c r, r ≤ N → N - r < c → P r := by
    intro c
    induction c with
    | zero => intro r _ h2; omega
    | succ c ih => intro r h1 h2; exact h r h1 (fun r2 h3 h4 => ih r2 h4 (by omega))
  exact fun r hr => key (N + 1) r hr (by omega)
/-- in a range -/
abbrev inR (v a b : Int32) : Prop := ¬ v < a ∧ ¬ b < v
/-- the first row from r on, of c, that has key k: what stands there; else dflt -/
def fvR (ck vb : Nat → Int32) (k : Nat) (dflt : Int32) : Nat → Nat → Int32
  | 0, _ => dflt
  | c + 1, r => if bt (ck r) k = true then vb r else fvR ck vb k dflt c (r + 1)
/-- all sets of c rows from r on -/
def sncR (f : Nat → Int32) : Nat → Nat → Int32 → Int32
  | 0, _, acc => acc
  | c + 1, r, acc => sncR f c (r + 1) (acc ||| f r)
/-- how many below n -/
def cnt (p : Nat → Prop) [DecidablePred p] : Nat → Nat
  | 0 => 0
  | n + 1 => cnt p n + if p n then 1 else 0
theorem cnt_le (p : Nat → Prop) [DecidablePred p] (n : Nat) : cnt p n ≤ n := by
  induction n with
  | zero => exact Nat.le_refl 0
  | succ n ih => unfold cnt; split <;> omega
theorem cnt_t {p : Nat → Prop} [DecidablePred p] {n : Nat} (h : p n) : cnt p (n + 1) = cnt p n + 1 := by
  show cnt p n + _ = _
  rw [if_pos h]
theorem cnt_f {p : Nat → Prop} [DecidablePred p] {n : Nat} (h : ¬ p n) : cnt p (n + 1) = cnt p n := by
  show cnt p n + _ = _
  rw [if_neg h]
  rfl
theorem cnt_congr {p q : Nat → Prop} [DecidablePred p] [DecidablePred q] {n : Nat} (h : ∀ k, k < n → (p k ↔ q k)) : cnt p n = cnt q n := by
  induction n with
  | zero => rfl
  | succ n ih =>
    unfold cnt
    rw [ih (fun k hk => h k (by omega))]
    by_cases hp : p n
    · rw [if_pos hp, if_pos ((h n (by omega)).mp hp)]
    · rw [if_neg hp, if_neg (fun z => hp ((h n (by omega)).mpr z))]
def nrR (f : Nat → Int32) (nm : Int32) : Nat → Int32
  | 0 => -5
  | c + 1 => if f c = nm then nI c else nrR f nm c
theorem inR_lt {q n : Nat} (h : q ≤ n) (hn : n < 2 ^ 31) : inR (nI q) (nI 0) (nI n) := ⟨nI_nlt (Nat.zero_le _) (by omega), nI_nlt h (by omega)⟩
/-- how many keys a set has -/
abbrev pcP (x : Int32) : Nat → Prop := fun i => bt x i = true
def pcn (x : Int32) : Nat := cnt (pcP x) 32
def dg (c : Int32) : Nat := c.toInt.toNat - 48
theorem qp_vals : (Jvm.FP.Core.b64.tails = 2 ^ 52 ∧ Jvm.FP.Core.b64.exps = 2048 ∧ Jvm.FP.Core.b64.p = 53) ∧ (Jvm.FP.Core.b64.qmax - Jvm.FP.Core.b64.qmin).toNat + 1 ≤ 2046 := by decide +kernel
/-- a datum that is no NaN and that the format holds -/
def qGood : Jvm.FP.Core.Datum → Prop
  | .nan => False
  | .inf _ => True
  | .fin _ c q => c < 2 ^ 53 ∧ q ≤ Jvm.FP.Core.b64.qmax
theorem qGood_enc {d : Jvm.FP.Core.Datum} (h : qGood d) : Jvm.FP.Core.encode Jvm.FP.Core.b64 d < 2 ^ 64 ∧ Jvm.FP.Core.encode Jvm.FP.Core.b64 d % 2 ^ 63 ≤ 0x7ff0000000000000 := by
  obtain ⟨⟨h1, h2, h3⟩, h4⟩ := qp_vals
  match d, h with
  | .inf s, _ =>
    simp only [Jvm.FP.Core.encode, Jvm.FP.Core.assemble, h1, h2]
    cases s <;> decide
  | .fin s c q, h =>
    obtain ⟨hc, hq⟩ := h
    simp only [Jvm.FP.Core.encode, Jvm.FP.Core.assemble, h1, h2]
    have hs : s.toNat ≤ 1 := by cases s <;> decide
    split <;> rename_i z
    · constructor <;> (cases s <;> simp only [Bool.toNat_true, Bool.toNat_false] <;> omega)
    · have h5 : (q - Jvm.FP.Core.b64.qmin).toNat + 1 ≤ 2046 := by omega
      generalize (q - Jvm.FP.Core.b64.qmin).toNat + 1 = e at h5
      constructor <;> (cases s <;> simp only [Bool.toNat_true, Bool.toNat_false] <;> omega)
theorem qGood_settle (s : Bool) (c : Nat) (q : Int) : qGood (Jvm.FP.Core.settle Jvm.FP.Core.b64 s c q) := by
  obtain ⟨⟨h1, h2, h3⟩, h4⟩ := qp_vals
  unfold Jvm.FP.Core.settle Jvm.FP.Core.bound
  rw [h3]
  split <;> split <;> rename_i a b
  · exact ⟨a, b⟩
  · trivial
  · exact ⟨by rw [h1]; decide, b⟩
  · trivial
theorem qGood_ratio (s : Bool) (num den : Nat) (e : Int) : qGood (Jvm.FP.Core.roundRatio Jvm.FP.Core.b64 s num den e) := by
  unfold Jvm.FP.Core.roundRatio
  split
  · exact ⟨by decide, by decide +kernel⟩
  · exact qGood_settle _ _ _
theorem qDec_nan {n : Nat} (h : n < 2 ^ 64) (h2 : n % 2 ^ 63 ≤ 0x7ff0000000000000) : Jvm.FP.Core.decode Jvm.FP.Core.b64 n ≠ .nan := by
  obtain ⟨⟨h1, h3, -⟩, -⟩ := qp_vals
  unfold Jvm.FP.Core.decode Jvm.FP.Core.fieldE Jvm.FP.Core.fieldT
  rw [h1, h3]
  split <;> rename_i z
  · rw [if_pos (by omega)]
    exact fun e => by cases e
  · split <;> exact fun e => by cases e
theorem qN64 {d : Jvm.FP.Core.Datum} (h : qGood d) : vf_n64 (.ofNat (Jvm.FP.Core.encode Jvm.FP.Core.b64 d)) := by
  obtain ⟨h1, h2⟩ := qGood_enc h
  unfold vf_n64
  rw [UInt64.le_iff_toNat_le, UInt64.toNat_and]
  rw [show UInt64.toNat 0x7fffffffffffffff = 2 ^ 63 - 1 from rfl, Nat.and_two_pow_sub_one_eq_mod]
  rw [show (UInt64.ofNat (Jvm.FP.Core.encode Jvm.FP.Core.b64 d)).toNat = Jvm.FP.Core.encode Jvm.FP.Core.b64 d from UInt64.toNat_ofNat_of_lt h1]
  exact h2
theorem q_i2d (x : Int32) : Jvm.FP.Core.decode Jvm.FP.Core.b64 (FP.i2d x).toNat ≠ .nan := by
  have hg : qGood (Jvm.FP.Core.round Jvm.FP.Core.b64 (Jvm.FP.Core.ofInt x.toInt)) := qGood_ratio _ _ _ _
  obtain ⟨h1, h2⟩ := qGood_enc hg
  have e : (FP.i2d x).toNat = Jvm.FP.Core.encode Jvm.FP.Core.b64 (Jvm.FP.Core.round Jvm.FP.Core.b64 (Jvm.FP.Core.ofInt x.toInt)) := UInt64.toNat_ofNat_of_lt h1
  rw [e]
  exact qDec_nan h1 h2
def qFin (n : Nat) : Bool := match Jvm.FP.Core.decode Jvm.FP.Core.b64 (FP.i2d (nI n)).toNat with
  | .fin _ c _ => decide (c ≠ 0)
  | _ => false
theorem qFin_all : ∀ n, n < 17 → n ≠ 0 → qFin n = true := by decide +kernel
/-- a quotient of an int by 1 to 16 is no NaN -/
theorem q_mean (x : Int32) {n : Nat} (h0 : n ≠ 0) (hn : n ≤ 16) : vf_n64 (FP.ddiv (FP.i2d x) (FP.i2d (nI n))) := by
  refine qN64 (d := Jvm.FP.Core.quotient Jvm.FP.Core.b64 (Jvm.FP.Core.decode Jvm.FP.Core.b64 (FP.i2d x).toNat) (Jvm.FP.Core.decode Jvm.FP.Core.b64 (FP.i2d (nI n)).toNat)) ?_
  have h1 := q_i2d x
  have h2 := qFin_all n (by omega) h0
  unfold qFin at h2
  cases hd : Jvm.FP.Core.decode Jvm.FP.Core.b64 (FP.i2d (nI n)).toNat with
  | nan => rw [hd] at h2; cases h2
  | inf s => rw [hd] at h2; cases h2
  | fin s c q =>
    rw [hd] at h2
    have h3 := of_decide_eq_true h2
    cases hx : Jvm.FP.Core.decode Jvm.FP.Core.b64 (FP.i2d x).toNat with
    | nan => exact absurd hx h1
    | inf s2 => trivial
    | fin s2 c2 q2 =>
      unfold Jvm.FP.Core.quotient
      simp only []
      rw [if_neg h3]
      exact qGood_ratio _ _ _ _
