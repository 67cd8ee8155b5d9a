/-! Integer.bitCount of 16 bits -/
def bcA (n : Nat) : Nat := n - (n / 2 &&& 0x55555555)
def bcB (n : Nat) : Nat := (n &&& 0x33333333) + (n / 4 &&& 0x33333333)
def bcC (n : Nat) : Nat := n + n / 16 &&& 0x0f0f0f0f
def bcD (n : Nat) : Nat := n + n / 256
def bcE (n : Nat) : Nat := n + n / 65536
def pcF : Nat → Nat → Nat
  | 0, _ => 0
  | k + 1, n => n % 2 + pcF k (n / 2)
def bcOk (n : Nat) : Bool := (bcE (bcD (bcC (bcB (bcA n)))) &&& 63) == pcF 16 n

theorem bc_0 : (List.range 32).all (fun a => (List.range 256).all (fun b => bcOk ((0 + a) * 256 + b))) = true := by decide +kernel
theorem bc_1 : (List.range 32).all (fun a => (List.range 256).all (fun b => bcOk ((32 + a) * 256 + b))) = true := by decide +kernel
theorem bc_2 : (List.range 32).all (fun a => (List.range 256).all (fun b => bcOk ((64 + a) * 256 + b))) = true := by decide +kernel
theorem bc_3 : (List.range 32).all (fun a => (List.range 256).all (fun b => bcOk ((96 + a) * 256 + b))) = true := by decide +kernel
theorem bc_4 : (List.range 32).all (fun a => (List.range 256).all (fun b => bcOk ((128 + a) * 256 + b))) = true := by decide +kernel
theorem bc_5 : (List.range 32).all (fun a => (List.range 256).all (fun b => bcOk ((160 + a) * 256 + b))) = true := by decide +kernel
theorem bc_6 : (List.range 32).all (fun a => (List.range 256).all (fun b => bcOk ((192 + a) * 256 + b))) = true := by decide +kernel
theorem bc_7 : (List.range 32).all (fun a => (List.range 256).all (fun b => bcOk ((224 + a) * 256 + b))) = true := by decide +kernel
theorem bc_all {n : Nat} (h : n < 65536) : bcE (bcD (bcC (bcB (bcA n)))) &&& 63 = pcF 16 n := by
  have key : ∀ q, (List.range 32).all (fun a => (List.range 256).all (fun b => bcOk ((q + a) * 256 + b))) = true → q * 256 ≤ n → n < (q + 32) * 256 → bcOk n = true := by
    intro q hq h1 h2
    have := List.all_eq_true.mp (List.all_eq_true.mp hq (n / 256 - q) (List.mem_range.mpr (by omega))) (n % 256) (List.mem_range.mpr (by omega))
    rw [show (q + (n / 256 - q)) * 256 + n % 256 = n by omega] at this
    exact this
  have : bcOk n = true := by
    rcases (show n < 8192 ∨ (8192 ≤ n ∧ n < 16384) ∨ (16384 ≤ n ∧ n < 24576) ∨ (24576 ≤ n ∧ n < 32768) ∨ (32768 ≤ n ∧ n < 40960) ∨ (40960 ≤ n ∧ n < 49152) ∨ (49152 ≤ n ∧ n < 57344) ∨ 57344 ≤ n by omega) with z | z | z | z | z | z | z | z
    · exact key 0 bc_0 (by omega) (by omega)
    · exact key 32 bc_1 (by omega) (by omega)
    · exact key 64 bc_2 (by omega) (by omega)
    · exact key 96 bc_3 (by omega) (by omega)
    · exact key 128 bc_4 (by omega) (by omega)
    · exact key 160 bc_5 (by omega) (by omega)
    · exact key 192 bc_6 (by omega) (by omega)
    · exact key 224 bc_7 (by omega) (by omega)
  exact beq_iff_eq.mp this
