def spE (s : Nat → Int32) (q : Nat) (nm : Int32) : Int32 := if inR nm (nI 0) (nI 7) then (if s (24 + q) = nI 1 then (if s (27 + q) = nI 12 then -3 else nI 0) else -4) else -2
def nmE (s : Nat → Int32) (q : Nat) (nm : Int32) (mq : Nat) : Int32 := if inR nm (nI 0) (nI 7) then (if s (24 + q) = nI 1 then (if nmR s q nm mq = -5 then -4 else nI 0) else -4) else -2
theorem inR_lt {q n : Nat} (h : q ≤ n) (hn : n < 2 ^ 31) : inR (nI q) (nI 0) (nI n) := ⟨nI_nlt (Nat.zero_le _) (by omega), nI_nlt h (by omega)⟩
def bgF (s : Nat → Int32) (q : Nat) : Nat → Int32 := va_up s (24 + q) (nI 1)
def cmF (s : Nat → Int32) (q mq : Nat) : Nat → Int32 := va_up (clF s q mq) 1 (clF s q mq 1 + nI 1)
def rbF (s : Nat → Int32) (q mq : Nat) : Nat → Int32 := va_up (clF (gbF s q 0 mq) q 0) 2 (clF (gbF s q 0 mq) q 0 2 + nI 1)
def spF (s : Nat → Int32) (q mq : Nat) (nm : Int32) : Nat → Int32 := va_up (va_up (va_up s (33 + 12 * q + mq) nm) (27 + q) (nI (mq + 1))) 7 (s 7 + nI 1)
def utF (s : Nat → Int32) (q m mq : Nat) : Nat → Int32 := va_up (gbF s q m mq) 6 (gbF s q m mq 6 + nI 1)
def rlF (s : Nat → Int32) (q p mq : Nat) : Nat → Int32 := va_up (mrg q p (mq - p) (p + 1) s) (27 + q) (nI p)
/-- a statement's end -/
def ewS (s n : Nat → Int32) (q mq : Nat) : Nat → Int32 := va_up (jnF s n (rAt q mq) 0) 3 (jnF s n (rAt q mq) 0 3 + nI 1)
def ebM (s n : Nat → Int32) (q : Nat) : Nat → Int32
  | 0 => s (30 + q)
  | k + 1 => if bt (n 1) k = true then sm (ebM s n q k) k (md (n 2) k) else ebM s n q k
theorem ebM_t {s n : Nat → Int32} {q k : Nat} (h : bt (n 1) k = true) : ebM s n q (k + 1) = sm (ebM s n q k) k (md (n 2) k) := if_pos h
theorem ebM_f {s n : Nat → Int32} {q k : Nat} (h : ¬ bt (n 1) k = true) : ebM s n q (k + 1) = ebM s n q k := if_neg h
def ebV (s n : Nat → Int32) (q k : Nat) : Nat → Int32 := fun i => if 8 ≤ i ∧ i < 8 + k ∧ bt (n 0) (i - 8) = true then n (3 + (i - 8)) else if i = 30 + q ∧ s 0 = 0 then ebM s n q k else s i
def ebN (s n : Nat → Int32) : Nat → Int32 := va_up (va_up n 0 (nI 0)) 1 (if s 0 = 0 then nI 0 else n 1)
def ebJ (s n : Nat → Int32) (q mq : Nat) : Nat → Int32 := jnF (ebV s n q 16) (ebN s n) (rAt q mq) 0
def ebS (s n : Nat → Int32) (q mq : Nat) (res : Int32) : Nat → Int32 := if res = -6 then va_up (ebJ s n q mq) 4 (ebJ s n q mq 4 + nI 1) else va_up (ebJ s n q mq) 5 (ebJ s n q mq 5 + nI 1)
theorem ebV_0 (s n : Nat → Int32) (q : Nat) : ebV s n q 0 = s := by
  funext i
  unfold ebV
  rw [if_neg (by omega)]
  split <;> rename_i h
  · rw [h.1]; rfl
  · rfl
theorem ebV_hi {s n : Nat → Int32} {q k i : Nat} (h : i < 8 ∨ 8 + k ≤ i) (h2 : i ≠ 30 + q) : ebV s n q k i = s i := by
  unfold ebV
  rw [if_neg (by omega), if_neg (fun z => h2 z.1)]
theorem ebV_30 {s n : Nat → Int32} {q k : Nat} (hk : k ≤ 16) (h : s 0 = 0) : ebV s n q k (30 + q) = ebM s n q k := by
  unfold ebV
  rw [if_neg (by omega), if_pos ⟨rfl, h⟩]
def ebA (s n : Nat → Int32) (q k : Nat) : Nat → Int32 := va_up (ebV s n q k) (8 + k) (if bt (n 0) k = true then n (3 + k) else s (8 + k))
theorem ebV_step {s n : Nat → Int32} {q k : Nat} (hk : k < 16) : ebV s n q (k + 1) = if s 0 = 0 ∧ bt (n 1) k = true then va_up (ebA s n q k) (30 + q) (sm (ebV s n q k (30 + q)) k (md (n 2) k)) else ebA s n q k := by
  funext i
  by_cases h1 : i = 30 + q
  · subst h1
    by_cases h0 : s 0 = 0
    · by_cases hb : bt (n 1) k = true
      · rw [if_pos ⟨h0, hb⟩, va_up_self, ebV_30 (by omega) h0, ebV_30 (by omega) h0, ebM_t hb]
      · rw [if_neg (fun z => hb z.2), ebV_30 (by omega) h0]
        unfold ebA
        rw [ebM_f hb, va_up_ne _ _ (by omega), ebV_30 (by omega) h0]
    · rw [if_neg (fun z => h0 z.1)]
      unfold ebA
      rw [va_up_ne _ _ (by omega)]
      unfold ebV
      rw [if_neg (by omega), if_neg (fun z => h0 z.2), if_neg (by omega), if_neg (fun z => h0 z.2)]
  · have e : (if s 0 = 0 ∧ bt (n 1) k = true then va_up (ebA s n q k) (30 + q) (sm (ebV s n q k (30 + q)) k (md (n 2) k)) else ebA s n q k) i = ebA s n q k i := by
      split
      · rw [va_up_ne _ _ h1]
      · rfl
    rw [e]
    unfold ebA
    by_cases h2 : i = 8 + k
    · subst h2
      rw [va_up_self]
      unfold ebV
      by_cases hb : bt (n 0) k = true
      · rw [if_pos ⟨by omega, by omega, by rw [show 8 + k - 8 = k by omega]; exact hb⟩, if_pos hb, show 8 + k - 8 = k by omega]
      · rw [if_neg (fun z => hb (by have := z.2.2; rw [show 8 + k - 8 = k by omega] at this; exact this)), if_neg hb, if_neg (fun z => h1 z.1)]
    · rw [va_up_ne _ _ h2]
      unfold ebV
      rw [if_neg (fun z : i = 30 + q ∧ s 0 = 0 => h1 z.1), if_neg (fun z : i = 30 + q ∧ s 0 = 0 => h1 z.1)]
      by_cases h3 : 8 ≤ i ∧ i < 8 + k ∧ bt (n 0) (i - 8) = true
      · rw [if_pos h3, if_pos ⟨h3.1, by omega, h3.2.2⟩]
      · rw [if_neg h3, if_neg (fun z => h3 ⟨z.1, by omega, z.2.2⟩)]
/-- what the reference's add answers: 0, BUSY or FAILED -/
def adV (s : Nat → Int32) (k : Nat) (more : Int32) : Int32 := (if s (8 + k) = -1 then nI 0 else s (8 + k)) + more
def adC (s : Nat → Int32) (q k : Nat) (more b : Int32) : Int32 := if busyR s q k (nI 2) then -6 else if (¬ b = 0 ∧ s (8 + k) = -1) ∨ ¬ inR (adV s k more) (nI 0) (nI 9999) then -7 else nI 0
def adS (s : Nat → Int32) (q k : Nat) (more b : Int32) : Nat → Int32 := if busyR s q k (nI 2) then s else if (¬ b = 0 ∧ s (8 + k) = -1) ∨ ¬ inR (adV s k more) (nI 0) (nI 9999) then takesS s q k (nI 2) else chgS (takesS s q k (nI 2)) k (adV s k more)
def adN (s n : Nat → Int32) (q k : Nat) (more b : Int32) : Nat → Int32 := if busyR s q k (nI 2) then n else if (¬ b = 0 ∧ s (8 + k) = -1) ∨ ¬ inR (adV s k more) (nI 0) (nI 9999) then takesN s n q k (nI 2) else chgN (takesS s q k (nI 2)) (takesN s n q k (nI 2)) k
theorem takesS_lo {s : Nat → Int32} {q k n : Nat} {mode : Int32} (h : n ≠ 30 + q) : takesS s q k mode n = s n := by
  unfold takesS
  split
  · exact va_up_ne _ _ h
  · rfl
/-- read, write and erase -/
def drS (s n : Nat → Int32) (q k mq : Nat) : Nat → Int32 := if busyR s q k (nI 1) then ebS s n q mq (-6) else ewS (takesS s q k (nI 1)) (takesN s n q k (nI 1)) q mq
def drN (s n : Nat → Int32) (q k : Nat) : Nat → Int32 := if busyR s q k (nI 1) then ebN s n else takesN s n q k (nI 1)
def dwS (s n : Nat → Int32) (q k mq : Nat) (v : Int32) : Nat → Int32 := if busyR s q k (nI 2) then ebS s n q mq (-6) else ewS (chgS (takesS s q k (nI 2)) k v) (chgN (takesS s q k (nI 2)) (takesN s n q k (nI 2)) k) q mq
def dwN (s n : Nat → Int32) (q k : Nat) : Nat → Int32 := if busyR s q k (nI 2) then ebN s n else chgN (takesS s q k (nI 2)) (takesN s n q k (nI 2)) k

set_option maxHeartbeats 4000000 in
set_option maxRecDepth 100000 in
theorem c_X4_beginError {G : sv_G} {M : sv_Mem} {q : Nat} (hq : q < 3) : sv_Ct G M_X4_beginError 2 [.ref (sv_ad G 4 9 0), .int (nI q)] M (some (.int (if (M 9 5 0) (24 + q) = nI 1 then -4 else nI 0))) (M) := by
  refine sv_Ct_of (lo := [some (.ref (sv_ad G 4 9 0)), some (.int (nI q))]) (pn_X4) rfl (Nat.le_of_ble_eq_true rfl) rfl (fun K X Y => ?_)
  replace X : sv_X G K cX4_beginError RX4 2 2 := X
  replace Y : sv_Y G K (some .int) _ _ := Y
  show sw_W G K 2 0 _ _ _
  refine sw_iload_1 X dX4_beginError_0 ?_
  refine ca_X4_68 X (by decide) dX4_beginError_1 (Nat.le_of_ble_eq_true rfl) c_X4_isSession ?_
  refine sw_ifB_ne X 11 dX4_beginError_4 (by decide) (fun h4 => ?_) (fun h4 => ?_)
  ·
    refine sw_aload_0 X dX4_beginError_11 ?_
    refine sw_iload_1 X dX4_beginError_12 ?_
    refine ca_X4_72 X (by decide) dX4_beginError_13 (Nat.le_of_ble_eq_true rfl) (c_X4_isOpen hq) ?_
    refine sw_ifB_eq X 24 dX4_beginError_16 (by decide) (fun h16 => ?_) (fun h16 => ?_)
    ·
      refine sw_iconst X (nI 0) dX4_beginError_24 (by decide) ?_
      exact sw_iret X Y dX4_beginError_25 (by first | rw [if_pos h16] | rw [if_neg h16]) (rfl)
    ·
      refine sw_bipush X (-4) dX4_beginError_19 (by decide) ?_
      refine sw_goto X 25 dX4_beginError_21 (by decide) ?_
      exact sw_iret X Y dX4_beginError_25 (by first | rw [if_pos h16] | rw [if_neg h16]) (rfl)
  ·
    exact absurd (inR_lt (by omega) (by omega)) h4
set_option maxHeartbeats 4000000 in
set_option maxRecDepth 100000 in
theorem c_X4_openError {G : sv_G} {M : sv_Mem} {q : Nat} (hq : q < 3) : sv_Ct G M_X4_openError 2 [.ref (sv_ad G 4 9 0), .int (nI q)] M (some (.int (if (M 9 5 0) (24 + q) = nI 1 then nI 0 else -4))) (M) := by
  refine sv_Ct_of (lo := [some (.ref (sv_ad G 4 9 0)), some (.int (nI q))]) (pn_X4) rfl (Nat.le_of_ble_eq_true rfl) rfl (fun K X Y => ?_)
  replace X : sv_X G K cX4_openError RX4 2 2 := X
  replace Y : sv_Y G K (some .int) _ _ := Y
  show sw_W G K 2 0 _ _ _
  refine sw_iload_1 X dX4_openError_0 ?_
  refine ca_X4_68 X (by decide) dX4_openError_1 (Nat.le_of_ble_eq_true rfl) c_X4_isSession ?_
  refine sw_ifB_ne X 11 dX4_openError_4 (by decide) (fun h4 => ?_) (fun h4 => ?_)
  ·
    refine sw_aload_0 X dX4_openError_11 ?_
    refine sw_iload_1 X dX4_openError_12 ?_
    refine ca_X4_72 X (by decide) dX4_openError_13 (Nat.le_of_ble_eq_true rfl) (c_X4_isOpen hq) ?_
    refine sw_ifB_eq X 23 dX4_openError_16 (by decide) (fun h16 => ?_) (fun h16 => ?_)
    ·
      refine sw_bipush X (-4) dX4_openError_23 (by decide) ?_
      exact sw_iret X Y dX4_openError_25 (by first | rw [if_pos h16] | rw [if_neg h16]) (rfl)
    ·
      refine sw_iconst X (nI 0) dX4_openError_19 (by decide) ?_
      refine sw_goto X 25 dX4_openError_20 (by decide) ?_
      exact sw_iret X Y dX4_openError_25 (by first | rw [if_pos h16] | rw [if_neg h16]) (rfl)
  ·
    exact absurd (inR_lt (by omega) (by omega)) h4
set_option maxHeartbeats 4000000 in
set_option maxRecDepth 100000 in
theorem c_X4_beginError_x {G : sv_G} {M : sv_Mem} {v : Int32} (hv : ¬ inR v (nI 0) (nI 2)) : sv_Ct G M_X4_beginError 2 [.ref (sv_ad G 4 9 0), .int v] M (some (.int (-1))) (M) := by
  refine sv_Ct_of (lo := [some (.ref (sv_ad G 4 9 0)), some (.int v)]) (pn_X4) rfl (Nat.le_of_ble_eq_true rfl) rfl (fun K X Y => ?_)
  replace X : sv_X G K cX4_beginError RX4 2 2 := X
  replace Y : sv_Y G K (some .int) _ _ := Y
  show sw_W G K 2 0 _ _ _
  refine sw_iload_1 X dX4_beginError_0 ?_
  refine ca_X4_68 X (by decide) dX4_beginError_1 (Nat.le_of_ble_eq_true rfl) c_X4_isSession ?_
  refine sw_ifB_ne X 11 dX4_beginError_4 (by decide) (fun h4 => ?_) (fun h4 => ?_)
  ·
    exact absurd h4 hv
  ·
    refine sw_iconst X (-1) dX4_beginError_7 (by decide) ?_
    refine sw_goto X 25 dX4_beginError_8 (by decide) ?_
    exact sw_iret X Y dX4_beginError_25 (rfl) (rfl)
set_option maxHeartbeats 4000000 in
set_option maxRecDepth 100000 in
theorem c_X4_openError_x {G : sv_G} {M : sv_Mem} {v : Int32} (hv : ¬ inR v (nI 0) (nI 2)) : sv_Ct G M_X4_openError 2 [.ref (sv_ad G 4 9 0), .int v] M (some (.int (-1))) (M) := by
  refine sv_Ct_of (lo := [some (.ref (sv_ad G 4 9 0)), some (.int v)]) (pn_X4) rfl (Nat.le_of_ble_eq_true rfl) rfl (fun K X Y => ?_)
  replace X : sv_X G K cX4_openError RX4 2 2 := X
  replace Y : sv_Y G K (some .int) _ _ := Y
  show sw_W G K 2 0 _ _ _
  refine sw_iload_1 X dX4_openError_0 ?_
  refine ca_X4_68 X (by decide) dX4_openError_1 (Nat.le_of_ble_eq_true rfl) c_X4_isSession ?_
  refine sw_ifB_ne X 11 dX4_openError_4 (by decide) (fun h4 => ?_) (fun h4 => ?_)
  ·
    exact absurd h4 hv
  ·
    refine sw_iconst X (-1) dX4_openError_7 (by decide) ?_
    refine sw_goto X 25 dX4_openError_8 (by decide) ?_
    exact sw_iret X Y dX4_openError_25 (rfl) (rfl)
set_option maxHeartbeats 4000000 in
set_option maxRecDepth 100000 in
theorem c_X4_savepointError {G : sv_G} {M : sv_Mem} {q : Nat} {nm : Int32} (hq : q < 3) : sv_Ct G M_X4_savepointError 2 [.ref (sv_ad G 4 9 0), .int (nI q), .int nm] M (some (.int (spE (M 9 5 0) q nm))) (M) := by
  refine sv_Ct_of (lo := [some (.ref (sv_ad G 4 9 0)), some (.int (nI q)), some (.int nm)]) (pn_X4) rfl (Nat.le_of_ble_eq_true rfl) rfl (fun K X Y => ?_)
  replace X : sv_X G K cX4_savepointError RX4 3 2 := X
  replace Y : sv_Y G K (some .int) _ _ := Y
  show sw_W G K 3 0 _ _ _
  refine sw_iload_1 X dX4_savepointError_0 ?_
  refine ca_X4_68 X (by decide) dX4_savepointError_1 (Nat.le_of_ble_eq_true rfl) c_X4_isSession ?_
  refine sw_ifB_ne X 9 dX4_savepointError_4 (by decide) (fun h4 => ?_) (fun h4 => ?_)
  ·
    refine sw_iload_2 X dX4_savepointError_9 ?_
    refine ca_X4_102 X (by decide) dX4_savepointError_10 (Nat.le_of_ble_eq_true rfl) c_X4_isName ?_
    refine sw_ifB_ne X 19 dX4_savepointError_13 (by decide) (fun h13 => ?_) (fun h13 => ?_)
    ·
      refine sw_aload_0 X dX4_savepointError_19 ?_
      refine sw_iload_1 X dX4_savepointError_20 ?_
      refine ca_X4_72 X (by decide) dX4_savepointError_21 (Nat.le_of_ble_eq_true rfl) (c_X4_isOpen hq) ?_
      refine sw_ifB_ne X 32 dX4_savepointError_24 (by decide) (fun h24 => ?_) (fun h24 => ?_)
      ·
        refine sw_aload_0 X dX4_savepointError_32 ?_
        refine gf_X4_7 X dX4_savepointError_33 ?_
        refine sw_bipush X (nI 27) dX4_savepointError_36 (by decide) ?_
        refine sw_iload_1 X dX4_savepointError_38 ?_
        refine sw_iadd X dX4_savepointError_39 ?_
        try refine sw_tope (nI_add _ _) ?_
        refine ia_5 X rfl (by omega) dX4_savepointError_40 ?_
        refine sw_bipush X (nI 12) dX4_savepointError_41 (by decide) ?_
        refine sw_icmp_ne X 51 dX4_savepointError_43 (by decide) (fun h43 => ?_) (fun h43 => ?_)
        ·
          refine sw_iconst X (nI 0) dX4_savepointError_51 (by decide) ?_
          exact sw_iret X Y dX4_savepointError_52 (by unfold spE; rw [if_pos h13]; first | (rw [if_neg h24]; done) | (rw [if_pos h24, if_neg h43]; done) | (rw [if_pos h24, if_pos (by first | exact h43 | exact Decidable.of_not_not h43)]; done)) (rfl)
        ·
          refine sw_bipush X (-3) dX4_savepointError_46 (by decide) ?_
          refine sw_goto X 52 dX4_savepointError_48 (by decide) ?_
          exact sw_iret X Y dX4_savepointError_52 (by unfold spE; rw [if_pos h13]; first | (rw [if_neg h24]; done) | (rw [if_pos h24, if_neg h43]; done) | (rw [if_pos h24, if_pos (by first | exact h43 | exact Decidable.of_not_not h43)]; done)) (rfl)
      ·
        refine sw_bipush X (-4) dX4_savepointError_27 (by decide) ?_
        refine sw_goto X 52 dX4_savepointError_29 (by decide) ?_
        exact sw_iret X Y dX4_savepointError_52 (by unfold spE; rw [if_pos h13]; first | (rw [if_neg h24]; done) | (rw [if_pos h24, if_neg h43]; done) | (rw [if_pos h24, if_pos (by first | exact h43 | exact Decidable.of_not_not h43)]; done)) (rfl)
    ·
      refine sw_bipush X (-2) dX4_savepointError_16 (by decide) ?_
      exact sw_iret X Y dX4_savepointError_18 (by unfold spE; rw [if_neg h13]) (rfl)
  ·
    exact absurd (inR_lt (by omega) (by omega)) h4
set_option maxHeartbeats 4000000 in
set_option maxRecDepth 100000 in
theorem c_X4_nameError {G : sv_G} {M : sv_Mem} {q mq : Nat} {nm : Int32} (hq : q < 3) (hmq : M 9 5 0 (27 + q) = nI mq) (hmq2 : mq ≤ 12) : sv_Ct G M_X4_nameError 2 [.ref (sv_ad G 4 9 0), .int (nI q), .int nm] M (some (.int (nmE (M 9 5 0) q nm mq))) (M) := by
  refine sv_Ct_of (lo := [some (.ref (sv_ad G 4 9 0)), some (.int (nI q)), some (.int nm)]) (pn_X4) rfl (Nat.le_of_ble_eq_true rfl) rfl (fun K X Y => ?_)
  replace X : sv_X G K cX4_nameError RX4 3 2 := X
  replace Y : sv_Y G K (some .int) _ _ := Y
  show sw_W G K 3 0 _ _ _
  refine sw_iload_1 X dX4_nameError_0 ?_
  refine ca_X4_68 X (by decide) dX4_nameError_1 (Nat.le_of_ble_eq_true rfl) c_X4_isSession ?_
  refine sw_ifB_ne X 9 dX4_nameError_4 (by decide) (fun h4 => ?_) (fun h4 => ?_)
  ·
    refine sw_iload_2 X dX4_nameError_9 ?_
    refine ca_X4_102 X (by decide) dX4_nameError_10 (Nat.le_of_ble_eq_true rfl) c_X4_isName ?_
    refine sw_ifB_ne X 19 dX4_nameError_13 (by decide) (fun h13 => ?_) (fun h13 => ?_)
    ·
      refine sw_aload_0 X dX4_nameError_19 ?_
      refine sw_iload_1 X dX4_nameError_20 ?_
      refine ca_X4_72 X (by decide) dX4_nameError_21 (Nat.le_of_ble_eq_true rfl) (c_X4_isOpen hq) ?_
      refine sw_ifB_eq X 38 dX4_nameError_24 (by decide) (fun h24 => ?_) (fun h24 => ?_)
      ·
        refine sw_bipush X (-4) dX4_nameError_38 (by decide) ?_
        refine sw_goto X 44 dX4_nameError_40 (by decide) ?_
        exact sw_iret X Y dX4_nameError_44 (by unfold nmE; rw [if_pos h13]; first | (rw [if_neg h24]; done) | (rw [if_pos h24, if_neg h35]; done) | (rw [if_pos h24, if_pos (by first | exact h35 | exact Decidable.of_not_not h35)]; done)) (rfl)
      ·
        refine sw_aload_0 X dX4_nameError_27 ?_
        refine sw_iload_1 X dX4_nameError_28 ?_
        refine sw_iload_2 X dX4_nameError_29 ?_
        refine ca_X4_105 X (by decide) dX4_nameError_30 (Nat.le_of_ble_eq_true rfl) (c_X4_nearestOf hq hmq hmq2) ?_
        refine sw_bipush X (-5) dX4_nameError_33 (by decide) ?_
        refine sw_icmp_ne X 43 dX4_nameError_35 (by decide) (fun h35 => ?_) (fun h35 => ?_)
        ·
          refine sw_iconst X (nI 0) dX4_nameError_43 (by decide) ?_
          exact sw_iret X Y dX4_nameError_44 (by unfold nmE; rw [if_pos h13]; first | (rw [if_neg h24]; done) | (rw [if_pos h24, if_neg h35]; done) | (rw [if_pos h24, if_pos (by first | exact h35 | exact Decidable.of_not_not h35)]; done)) (rfl)
        ·
          refine sw_bipush X (-4) dX4_nameError_38 (by decide) ?_
          refine sw_goto X 44 dX4_nameError_40 (by decide) ?_
          exact sw_iret X Y dX4_nameError_44 (by unfold nmE; rw [if_pos h13]; first | (rw [if_neg h24]; done) | (rw [if_pos h24, if_neg h35]; done) | (rw [if_pos h24, if_pos (by first | exact h35 | exact Decidable.of_not_not h35)]; done)) (rfl)
    ·
      refine sw_bipush X (-2) dX4_nameError_16 (by decide) ?_
      exact sw_iret X Y dX4_nameError_18 (by unfold nmE; rw [if_neg h13]) (rfl)
  ·
    exact absurd (inR_lt (by omega) (by omega)) h4
set_option maxHeartbeats 4000000 in
set_option maxRecDepth 100000 in
theorem c_X4_savepointError_x {G : sv_G} {M : sv_Mem} {v nm : Int32} (hv : ¬ inR v (nI 0) (nI 2)) : sv_Ct G M_X4_savepointError 2 [.ref (sv_ad G 4 9 0), .int v, .int nm] M (some (.int (-1))) (M) := by
  refine sv_Ct_of (lo := [some (.ref (sv_ad G 4 9 0)), some (.int v), some (.int nm)]) (pn_X4) rfl (Nat.le_of_ble_eq_true rfl) rfl (fun K X Y => ?_)
  replace X : sv_X G K cX4_savepointError RX4 3 2 := X
  replace Y : sv_Y G K (some .int) _ _ := Y
  show sw_W G K 3 0 _ _ _
  refine sw_iload_1 X dX4_savepointError_0 ?_
  refine ca_X4_68 X (by decide) dX4_savepointError_1 (Nat.le_of_ble_eq_true rfl) c_X4_isSession ?_
  refine sw_ifB_ne X 9 dX4_savepointError_4 (by decide) (fun h4 => ?_) (fun h4 => ?_)
  ·
    exact absurd h4 hv
  ·
    refine sw_iconst X (-1) dX4_savepointError_7 (by decide) ?_
    exact sw_iret X Y dX4_savepointError_8 (rfl) (rfl)
set_option maxHeartbeats 4000000 in
set_option maxRecDepth 100000 in
theorem c_X4_nameError_x {G : sv_G} {M : sv_Mem} {v nm : Int32} (hv : ¬ inR v (nI 0) (nI 2)) : sv_Ct G M_X4_nameError 2 [.ref (sv_ad G 4 9 0), .int v, .int nm] M (some (.int (-1))) (M) := by
  refine sv_Ct_of (lo := [some (.ref (sv_ad G 4 9 0)), some (.int v), some (.int nm)]) (pn_X4) rfl (Nat.le_of_ble_eq_true rfl) rfl (fun K X Y => ?_)
  replace X : sv_X G K cX4_nameError RX4 3 2 := X
  replace Y : sv_Y G K (some .int) _ _ := Y
  show sw_W G K 3 0 _ _ _
  refine sw_iload_1 X dX4_nameError_0 ?_
  refine ca_X4_68 X (by decide) dX4_nameError_1 (Nat.le_of_ble_eq_true rfl) c_X4_isSession ?_
  refine sw_ifB_ne X 9 dX4_nameError_4 (by decide) (fun h4 => ?_) (fun h4 => ?_)
  ·
    exact absurd h4 hv
  ·
    refine sw_iconst X (-1) dX4_nameError_7 (by decide) ?_
    exact sw_iret X Y dX4_nameError_8 (rfl) (rfl)
set_option maxHeartbeats 4000000 in
set_option maxRecDepth 100000 in
theorem c_X4_doBegin {G : sv_G} {M : sv_Mem} {q : Nat} (hq : q < 3) : sv_Ct G M_X4_doBegin 0 [.ref (sv_ad G 4 9 0), .int (nI q)] M (some (.int (bgF (M 9 5 0) q 24 + bgF (M 9 5 0) q 25 + bgF (M 9 5 0) q 26))) (mS M (bgF (M 9 5 0) q)) := by
  refine sv_Ct_of (lo := [some (.ref (sv_ad G 4 9 0)), some (.int (nI q))]) (pn_X4) rfl (Nat.le_of_ble_eq_true rfl) rfl (fun K X Y => ?_)
  replace X : sv_X G K cX4_doBegin RX4 2 0 := X
  replace Y : sv_Y G K (some .int) _ _ := Y
  show sw_W G K 2 0 _ _ _
  refine sw_aload_0 X dX4_doBegin_0 ?_
  refine gf_X4_7 X dX4_doBegin_1 ?_
  refine sw_bipush X (nI 24) dX4_doBegin_4 (by decide) ?_
  refine sw_iload_1 X dX4_doBegin_6 ?_
  refine sw_iadd X dX4_doBegin_7 ?_
  refine sw_iconst X (nI 1) dX4_doBegin_8 (by decide) ?_
  refine is_5 X (nI_add _ _) (by omega) dX4_doBegin_9 ?_
  refine sw_aload_0 X dX4_doBegin_10 ?_
  refine gf_X4_7 X dX4_doBegin_11 ?_
  refine sw_bipush X (nI 24) dX4_doBegin_14 (by decide) ?_
  refine ia_5 X rfl (by omega) dX4_doBegin_16 ?_
  try simp only [mS_s, mN_n, mS_n, mN_s, mS_f, mN_f, rc_s, rc_n]
  refine sw_aload_0 X dX4_doBegin_17 ?_
  refine gf_X4_7 X dX4_doBegin_18 ?_
  refine sw_bipush X (nI 25) dX4_doBegin_21 (by decide) ?_
  refine ia_5 X rfl (by omega) dX4_doBegin_23 ?_
  try simp only [mS_s, mN_n, mS_n, mN_s, mS_f, mN_f, rc_s, rc_n]
  refine sw_iadd X dX4_doBegin_24 ?_
  refine sw_aload_0 X dX4_doBegin_25 ?_
  refine gf_X4_7 X dX4_doBegin_26 ?_
  refine sw_bipush X (nI 26) dX4_doBegin_29 (by decide) ?_
  refine ia_5 X rfl (by omega) dX4_doBegin_31 ?_
  try simp only [mS_s, mN_n, mS_n, mN_s, mS_f, mN_f, rc_s, rc_n]
  refine sw_iadd X dX4_doBegin_32 ?_
  exact sw_iret X Y dX4_doBegin_33 (by simp only [up5, mS_s]; rfl) (by simp only [up5, up9, mN_mS, mS_mS, mN_mN, mS_s, mN_n, mS_n, mN_s, mS_id, mN_id, rc_s, rc_n]; rfl)
set_option maxHeartbeats 4000000 in
set_option maxRecDepth 100000 in
theorem c_X4_doCommit {G : sv_G} {M : sv_Mem} {q mq : Nat} (hq : q < 3) (hmq : M 9 5 0 (27 + q) = nI mq) (hmq2 : mq ≤ 12) : sv_Ct G M_X4_doCommit 3 [.ref (sv_ad G 4 9 0), .int (nI q)] M (some (.int (nI (othR (M 9 5 0) q 0 mq)))) (mS M (cmF (M 9 5 0) q mq)) := by
  refine sv_Ct_of (lo := [some (.ref (sv_ad G 4 9 0)), some (.int (nI q)), none]) (pn_X4) rfl (Nat.le_of_ble_eq_true rfl) rfl (fun K X Y => ?_)
  replace X : sv_X G K cX4_doCommit RX4 3 3 := X
  replace Y : sv_Y G K (some .int) _ _ := Y
  show sw_W G K 3 0 _ _ _
  refine sw_aload_0 X dX4_doCommit_0 ?_
  refine sw_iload_1 X dX4_doCommit_1 ?_
  refine sw_iconst X (nI 0) dX4_doCommit_2 (by decide) ?_
  refine ca_X4_75 X (by decide) dX4_doCommit_3 (Nat.le_of_ble_eq_true rfl) (c_X4_others hq (by omega) hmq hmq2) ?_
  refine sw_istore_2 X dX4_doCommit_6 trivial ?_
  refine sw_aload_0 X dX4_doCommit_7 ?_
  refine sw_iload_1 X dX4_doCommit_8 ?_
  refine ca_X4_78 X (by decide) dX4_doCommit_9 (Nat.le_of_ble_eq_true rfl) (c_X4_close hq hmq hmq2) ?_
  refine sw_aload_0 X dX4_doCommit_12 ?_
  refine gf_X4_7 X dX4_doCommit_13 ?_
  refine sw_iconst X (nI 1) dX4_doCommit_16 (by decide) ?_
  refine sw_dup2 X dX4_doCommit_17 rfl rfl ?_
  refine ia_5 X rfl (by omega) dX4_doCommit_18 ?_
  try simp only [mS_s, mN_n, mS_n, mN_s, mS_f, mN_f, rc_s, rc_n]
  refine sw_iconst X (nI 1) dX4_doCommit_19 (by decide) ?_
  refine sw_iadd X dX4_doCommit_20 ?_
  try refine sw_tope (nI_add _ _) ?_
  refine is_5 X rfl (by omega) dX4_doCommit_21 ?_
  refine sw_iload_2 X dX4_doCommit_22 ?_
  exact sw_iret X Y dX4_doCommit_23 (rfl) (by simp only [up5, up9, mN_mS, mS_mS, mN_mN, mS_s, mN_n, mS_n, mN_s, mS_id, mN_id, rc_s, rc_n]; rfl)
set_option maxHeartbeats 4000000 in
set_option maxRecDepth 100000 in
theorem c_X4_doRollback {G : sv_G} {M : sv_Mem} {q mq : Nat} (hq : q < 3) (hmq : M 9 5 0 (27 + q) = nI mq) (hmq2 : mq ≤ 12) : sv_Ct G M_X4_doRollback 3 [.ref (sv_ad G 4 9 0), .int (nI q)] M (some (.int (nI (othR (M 9 5 0) q 0 mq)))) (mS M (rbF (M 9 5 0) q mq)) := by
  refine sv_Ct_of (lo := [some (.ref (sv_ad G 4 9 0)), some (.int (nI q)), none]) (pn_X4) rfl (Nat.le_of_ble_eq_true rfl) rfl (fun K X Y => ?_)
  replace X : sv_X G K cX4_doRollback RX4 3 3 := X
  replace Y : sv_Y G K (some .int) _ _ := Y
  show sw_W G K 3 0 _ _ _
  refine sw_aload_0 X dX4_doRollback_0 ?_
  refine sw_iload_1 X dX4_doRollback_1 ?_
  refine sw_iconst X (nI 0) dX4_doRollback_2 (by decide) ?_
  refine ca_X4_75 X (by decide) dX4_doRollback_3 (Nat.le_of_ble_eq_true rfl) (c_X4_others hq (by omega) hmq hmq2) ?_
  refine sw_istore_2 X dX4_doRollback_6 trivial ?_
  refine sw_aload_0 X dX4_doRollback_7 ?_
  refine sw_iload_1 X dX4_doRollback_8 ?_
  refine sw_iconst X (nI 0) dX4_doRollback_9 (by decide) ?_
  refine ca_X4_82 X (by decide) dX4_doRollback_10 (Nat.le_of_ble_eq_true rfl) (c_X4_goBack hq (by omega) hmq hmq2) ?_
  refine sw_aload_0 X dX4_doRollback_13 ?_
  refine sw_iload_1 X dX4_doRollback_14 ?_
  refine ca_X4_78 X (by decide) dX4_doRollback_15 (Nat.le_of_ble_eq_true rfl) (c_X4_close hq (mq := 0) (by rw [mS_s]; exact va_up_self _ _ _) (by omega)) ?_
  simp only [mS_mS, mS_s]
  refine sw_aload_0 X dX4_doRollback_18 ?_
  refine gf_X4_7 X dX4_doRollback_19 ?_
  refine sw_iconst X (nI 2) dX4_doRollback_22 (by decide) ?_
  refine sw_dup2 X dX4_doRollback_23 rfl rfl ?_
  refine ia_5 X rfl (by omega) dX4_doRollback_24 ?_
  try simp only [mS_s, mN_n, mS_n, mN_s, mS_f, mN_f, rc_s, rc_n]
  refine sw_iconst X (nI 1) dX4_doRollback_25 (by decide) ?_
  refine sw_iadd X dX4_doRollback_26 ?_
  try refine sw_tope (nI_add _ _) ?_
  refine is_5 X rfl (by omega) dX4_doRollback_27 ?_
  refine sw_iload_2 X dX4_doRollback_28 ?_
  exact sw_iret X Y dX4_doRollback_29 (rfl) (by simp only [up5, up9, mN_mS, mS_mS, mN_mN, mS_s, mN_n, mS_n, mN_s, mS_id, mN_id, rc_s, rc_n]; rfl)
set_option maxHeartbeats 4000000 in
set_option maxRecDepth 100000 in
theorem c_X4_doSavepoint {G : sv_G} {M : sv_Mem} {q mq : Nat} {nm : Int32} (hq : q < 3) (hmq : M 9 5 0 (27 + q) = nI mq) (hmq2 : mq ≤ 12) (hmq3 : mq ≠ 12) : sv_Ct G M_X4_doSavepoint 0 [.ref (sv_ad G 4 9 0), .int (nI q), .int nm] M (some (.int (nI mq))) (mS M (spF (M 9 5 0) q mq nm)) := by
  refine sv_Ct_of (lo := [some (.ref (sv_ad G 4 9 0)), some (.int (nI q)), some (.int nm), none]) (pn_X4) rfl (Nat.le_of_ble_eq_true rfl) rfl (fun K X Y => ?_)
  replace X : sv_X G K cX4_doSavepoint RX4 4 0 := X
  replace Y : sv_Y G K (some .int) _ _ := Y
  show sw_W G K 4 0 _ _ _
  refine sw_aload_0 X dX4_doSavepoint_0 ?_
  refine gf_X4_7 X dX4_doSavepoint_1 ?_
  refine sw_bipush X (nI 27) dX4_doSavepoint_4 (by decide) ?_
  refine sw_iload_1 X dX4_doSavepoint_6 ?_
  refine sw_iadd X dX4_doSavepoint_7 ?_
  try refine sw_tope (nI_add _ _) ?_
  refine ia_5 X rfl (by omega) dX4_doSavepoint_8 ?_
  rw [hmq]
  refine sw_istore_3 X dX4_doSavepoint_9 trivial ?_
  refine sw_aload_0 X dX4_doSavepoint_10 ?_
  refine gf_X4_7 X dX4_doSavepoint_11 ?_
  refine sw_bipush X (nI 33) dX4_doSavepoint_14 (by decide) ?_
  refine sw_bipush X (nI 12) dX4_doSavepoint_16 (by decide) ?_
  refine sw_iload_1 X dX4_doSavepoint_18 ?_
  refine sw_imul X dX4_doSavepoint_19 ?_
  try refine sw_tope (pk_mul _ _) ?_
  refine sw_iadd X dX4_doSavepoint_20 ?_
  try refine sw_tope (nI_add _ _) ?_
  refine sw_iload_3 X dX4_doSavepoint_21 ?_
  refine sw_iadd X dX4_doSavepoint_22 ?_
  try refine sw_tope (nI_add _ _) ?_
  refine sw_iload_2 X dX4_doSavepoint_23 ?_
  refine is_5 X rfl (by omega) dX4_doSavepoint_24 ?_
  refine sw_aload_0 X dX4_doSavepoint_25 ?_
  refine gf_X4_7 X dX4_doSavepoint_26 ?_
  refine sw_bipush X (nI 27) dX4_doSavepoint_29 (by decide) ?_
  refine sw_iload_1 X dX4_doSavepoint_31 ?_
  refine sw_iadd X dX4_doSavepoint_32 ?_
  try refine sw_tope (nI_add _ _) ?_
  refine sw_dup2 X dX4_doSavepoint_33 rfl rfl ?_
  refine ia_5 X rfl (by omega) dX4_doSavepoint_34 ?_
  refine sw_tope (v2 := nI mq) (by rw [up5, mS_s, va_up_ne _ _ (by omega)]; exact hmq) ?_
  refine sw_iconst X (nI 1) dX4_doSavepoint_35 (by decide) ?_
  refine sw_iadd X dX4_doSavepoint_36 ?_
  try refine sw_tope (nI_add _ _) ?_
  refine is_5 X rfl (by omega) dX4_doSavepoint_37 ?_
  refine sw_aload_0 X dX4_doSavepoint_38 ?_
  refine gf_X4_7 X dX4_doSavepoint_39 ?_
  refine sw_bipush X (nI 7) dX4_doSavepoint_42 (by decide) ?_
  refine sw_dup2 X dX4_doSavepoint_44 rfl rfl ?_
  refine ia_5 X rfl (by omega) dX4_doSavepoint_45 ?_
  refine sw_tope (v2 := (M 9 5 0) 7) (by simp only [up5, mS_mS, mS_s]; rw [va_up_ne _ _ (by omega), va_up_ne _ _ (by omega)]) ?_
  refine sw_iconst X (nI 1) dX4_doSavepoint_46 (by decide) ?_
  refine sw_iadd X dX4_doSavepoint_47 ?_
  try refine sw_tope (nI_add _ _) ?_
  refine is_5 X rfl (by omega) dX4_doSavepoint_48 ?_
  refine sw_iload_3 X dX4_doSavepoint_49 ?_
  exact sw_iret X Y dX4_doSavepoint_50 (rfl) (by simp only [up5, up9, mN_mS, mS_mS, mN_mN, mS_s, mN_n, mS_n, mN_s, mS_id, mN_id, rc_s, rc_n]; rfl)
set_option maxHeartbeats 4000000 in
set_option maxRecDepth 100000 in
theorem c_X4_doUndoTo {G : sv_G} {M : sv_Mem} {q mq p : Nat} {nm : Int32} (hq : q < 3) (hmq : M 9 5 0 (27 + q) = nI mq) (hmq2 : mq ≤ 12) (hp : nmR (M 9 5 0) q nm mq = nI p) (hp2 : p < mq) : sv_Ct G M_X4_doUndoTo 3 [.ref (sv_ad G 4 9 0), .int (nI q), .int nm] M (some (.int (nI (othR (M 9 5 0) q (p + 1) mq)))) (mS M (utF (M 9 5 0) q (p + 1) mq)) := by
  refine sv_Ct_of (lo := [some (.ref (sv_ad G 4 9 0)), some (.int (nI q)), some (.int nm), none, none]) (pn_X4) rfl (Nat.le_of_ble_eq_true rfl) rfl (fun K X Y => ?_)
  replace X : sv_X G K cX4_doUndoTo RX4 5 3 := X
  replace Y : sv_Y G K (some .int) _ _ := Y
  show sw_W G K 5 0 _ _ _
  refine sw_aload_0 X dX4_doUndoTo_0 ?_
  refine sw_iload_1 X dX4_doUndoTo_1 ?_
  refine sw_iload_2 X dX4_doUndoTo_2 ?_
  refine ca_X4_105 X (by decide) dX4_doUndoTo_3 (Nat.le_of_ble_eq_true rfl) (c_X4_nearestOf hq hmq hmq2) ?_
  rw [hp]
  refine sw_iconst X (nI 1) dX4_doUndoTo_6 (by decide) ?_
  refine sw_iadd X dX4_doUndoTo_7 ?_
  try refine sw_tope (nI_add _ _) ?_
  refine sw_istore_3 X dX4_doUndoTo_8 trivial ?_
  refine sw_aload_0 X dX4_doUndoTo_9 ?_
  refine sw_iload_1 X dX4_doUndoTo_10 ?_
  refine sw_iload_3 X dX4_doUndoTo_11 ?_
  refine ca_X4_75 X (by decide) dX4_doUndoTo_12 (Nat.le_of_ble_eq_true rfl) (c_X4_others hq (by omega) hmq hmq2) ?_
  refine sw_istore_4 X dX4_doUndoTo_15 trivial ?_
  refine sw_aload_0 X dX4_doUndoTo_17 ?_
  refine sw_iload_1 X dX4_doUndoTo_18 ?_
  refine sw_iload_3 X dX4_doUndoTo_19 ?_
  refine ca_X4_82 X (by decide) dX4_doUndoTo_20 (Nat.le_of_ble_eq_true rfl) (c_X4_goBack hq (by omega) hmq hmq2) ?_
  refine sw_aload_0 X dX4_doUndoTo_23 ?_
  refine gf_X4_7 X dX4_doUndoTo_24 ?_
  refine sw_bipush X (nI 6) dX4_doUndoTo_27 (by decide) ?_
  refine sw_dup2 X dX4_doUndoTo_29 rfl rfl ?_
  refine ia_5 X rfl (by omega) dX4_doUndoTo_30 ?_
  try simp only [mS_s, mN_n, mS_n, mN_s, mS_f, mN_f, rc_s, rc_n]
  refine sw_iconst X (nI 1) dX4_doUndoTo_31 (by decide) ?_
  refine sw_iadd X dX4_doUndoTo_32 ?_
  try refine sw_tope (nI_add _ _) ?_
  refine is_5 X rfl (by omega) dX4_doUndoTo_33 ?_
  refine sw_iload_4 X dX4_doUndoTo_34 ?_
  exact sw_iret X Y dX4_doUndoTo_36 (rfl) (by simp only [up5, up9, mN_mS, mS_mS, mN_mN, mS_s, mN_n, mS_n, mN_s, mS_id, mN_id, rc_s, rc_n]; rfl)
set_option maxHeartbeats 4000000 in
set_option maxRecDepth 100000 in
theorem c_X4_doRelease {G : sv_G} {M : sv_Mem} {q mq p : Nat} {nm : Int32} (hq : q < 3) (hmq : M 9 5 0 (27 + q) = nI mq) (hmq2 : mq ≤ 12) (hp : nmR (M 9 5 0) q nm mq = nI p) (hp2 : p < mq) : sv_Ct G M_X4_doRelease 2 [.ref (sv_ad G 4 9 0), .int (nI q), .int nm] M (some (.int (nI (mq - p)))) (mS M (rlF (M 9 5 0) q p mq)) := by
  refine sv_Ct_of (lo := [some (.ref (sv_ad G 4 9 0)), some (.int (nI q)), some (.int nm), none, none, none]) (pn_X4) rfl (Nat.le_of_ble_eq_true rfl) rfl (fun K X Y => ?_)
  replace X : sv_X G K cX4_doRelease RX4 6 2 := X
  replace Y : sv_Y G K (some .int) _ _ := Y
  show sw_W G K 6 0 _ _ _
  have L : ∀ c r s2, r + c = mq + 1 → p < r → s2 (27 + q) = nI mq → mrg q p c r s2 = mrg q p (mq - p) (p + 1) (M 9 5 0) → sw_W G K 6 25 [some (.ref (sv_ad G 4 9 0)), some (.int (nI q)), some (.int nm), some (.int (nI p)), some (.int (nI (mq - p))), some (.int (nI r))] [] (mS M s2) := by
    intro c
    induction c with
    | zero =>
      intro r s2 hr hmr h27 hv
      refine sw_iload_5 X dX4_doRelease_25 ?_
      refine sw_aload_0 X dX4_doRelease_27 ?_
      refine gf_X4_7 X dX4_doRelease_28 ?_
      refine sw_bipush X (nI 27) dX4_doRelease_31 (by decide) ?_
      refine sw_iload_1 X dX4_doRelease_33 ?_
      refine sw_iadd X dX4_doRelease_34 ?_
      try refine sw_tope (nI_add _ _) ?_
      refine ia_5 X rfl (by omega) dX4_doRelease_35 ?_
      refine sw_tope (v2 := nI mq) (by rw [mS_s]; exact h27) ?_
      refine sw_icmp_gt X 80 dX4_doRelease_36 (by decide) (fun h36 => ?_) (fun h36 => ?_)
      ·
        refine sw_aload_0 X dX4_doRelease_80 ?_
        refine gf_X4_7 X dX4_doRelease_81 ?_
        refine sw_bipush X (nI 27) dX4_doRelease_84 (by decide) ?_
        refine sw_iload_1 X dX4_doRelease_86 ?_
        refine sw_iadd X dX4_doRelease_87 ?_
        try refine sw_tope (nI_add _ _) ?_
        refine sw_iload_3 X dX4_doRelease_88 ?_
        refine is_5 X rfl (by omega) dX4_doRelease_89 ?_
        refine sw_iload_4 X dX4_doRelease_90 ?_
        exact sw_iret X Y dX4_doRelease_92 (rfl) (by rw [up5, mS_mS, mS_s]; unfold rlF; rw [← hv]; rfl)
      ·
        exact absurd ((nI_ltI (by omega) (by omega)).mpr (by omega)) h36
    | succ c ih =>
      intro r s2 hr hmr h27 hv
      refine sw_iload_5 X dX4_doRelease_25 ?_
      refine sw_aload_0 X dX4_doRelease_27 ?_
      refine gf_X4_7 X dX4_doRelease_28 ?_
      refine sw_bipush X (nI 27) dX4_doRelease_31 (by decide) ?_
      refine sw_iload_1 X dX4_doRelease_33 ?_
      refine sw_iadd X dX4_doRelease_34 ?_
      try refine sw_tope (nI_add _ _) ?_
      refine ia_5 X rfl (by omega) dX4_doRelease_35 ?_
      refine sw_tope (v2 := nI mq) (by rw [mS_s]; exact h27) ?_
      refine sw_icmp_gt X 80 dX4_doRelease_36 (by decide) (fun h36 => ?_) (fun h36 => ?_)
      ·
        exact absurd ((nI_ltI (by omega) (by omega)).mp h36) (by omega)
      ·
        refine sw_aload_0 X dX4_doRelease_39 ?_
        refine gf_X4_7 X dX4_doRelease_40 ?_
        refine sw_iload_1 X dX4_doRelease_43 ?_
        refine sw_iload_3 X dX4_doRelease_44 ?_
        refine ca_X4_48 X (by decide) dX4_doRelease_45 (Nat.le_of_ble_eq_true rfl) c_X4_at ?_
        refine sw_aload_0 X dX4_doRelease_48 ?_
        refine gf_X4_7 X dX4_doRelease_49 ?_
        refine sw_iload_1 X dX4_doRelease_52 ?_
        refine sw_iload_5 X dX4_doRelease_53 ?_
        refine ca_X4_48 X (by decide) dX4_doRelease_55 (Nat.le_of_ble_eq_true rfl) c_X4_at ?_
        refine ca_X4_57 X (by decide) dX4_doRelease_58 (Nat.le_of_ble_eq_true rfl) (c_X4_join_5 (by unfold rAt; omega) (by unfold rAt; omega) (by unfold rAt; omega)) ?_
        refine sw_aload_0 X dX4_doRelease_61 ?_
        refine gf_X4_7 X dX4_doRelease_62 ?_
        refine sw_iload_1 X dX4_doRelease_65 ?_
        refine sw_iload_5 X dX4_doRelease_66 ?_
        refine ca_X4_48 X (by decide) dX4_doRelease_68 (Nat.le_of_ble_eq_true rfl) c_X4_at ?_
        refine ca_X4_61 X (by decide) dX4_doRelease_71 (Nat.le_of_ble_eq_true rfl) (c_X4_forget_5 (by unfold rAt; omega)) ?_
        simp only [mS_mS, mS_s]
        first | refine sw_inc1_5 X dX4_doRelease_74 trivial ?_ | refine sw_iinc_5 X _ dX4_doRelease_74 rfl trivial ?_
        refine sw_goto X 25 dX4_doRelease_77 (by decide) ?_
        exact ih (r + 1) _ (by omega) (by omega) (by show fg1 _ _ _ = _; rw [fg1_out (by unfold rAt; omega), jnF_out (by unfold rAt; omega)]; exact h27) hv
  refine sw_aload_0 X dX4_doRelease_0 ?_
  refine sw_iload_1 X dX4_doRelease_1 ?_
  refine sw_iload_2 X dX4_doRelease_2 ?_
  refine ca_X4_105 X (by decide) dX4_doRelease_3 (Nat.le_of_ble_eq_true rfl) (c_X4_nearestOf hq hmq hmq2) ?_
  rw [hp]
  refine sw_istore_3 X dX4_doRelease_6 trivial ?_
  refine sw_aload_0 X dX4_doRelease_7 ?_
  refine gf_X4_7 X dX4_doRelease_8 ?_
  refine sw_bipush X (nI 27) dX4_doRelease_11 (by decide) ?_
  refine sw_iload_1 X dX4_doRelease_13 ?_
  refine sw_iadd X dX4_doRelease_14 ?_
  try refine sw_tope (nI_add _ _) ?_
  refine ia_5 X rfl (by omega) dX4_doRelease_15 ?_
  rw [hmq]
  refine sw_iload_3 X dX4_doRelease_16 ?_
  refine sw_isub X dX4_doRelease_17 ?_
  refine sw_tope (pk_sub (by omega)) ?_
  refine sw_istore_4 X dX4_doRelease_18 trivial ?_
  refine sw_iload_3 X dX4_doRelease_20 ?_
  refine sw_iconst X (nI 1) dX4_doRelease_21 (by decide) ?_
  refine sw_iadd X dX4_doRelease_22 ?_
  try refine sw_tope (nI_add _ _) ?_
  refine sw_istore_5 X dX4_doRelease_23 trivial ?_
  exact sw_mem (mS_id M).symm (L (mq - p) (p + 1) _ (by omega) (by omega) hmq rfl)
set_option maxHeartbeats 4000000 in
set_option maxRecDepth 100000 in
theorem c_X4_beginStatement {G : sv_G} {M : sv_Mem}  : sv_Ct G M_X4_beginStatement 1 [.ref (sv_ad G 4 9 0)] M (none) (mN M (fg1 (M 9 9 0) 0)) := by
  refine sv_Ct_of (lo := [some (.ref (sv_ad G 4 9 0))]) (pn_X4) rfl (Nat.le_of_ble_eq_true rfl) rfl (fun K X Y => ?_)
  replace X : sv_X G K cX4_beginStatement RX4 1 1 := X
  replace Y : sv_Y G K none _ _ := Y
  show sw_W G K 1 0 _ _ _
  refine sw_aload_0 X dX4_beginStatement_0 ?_
  refine gf_X4_22 X dX4_beginStatement_1 ?_
  refine sw_iconst X (nI 0) dX4_beginStatement_4 (by decide) ?_
  refine ca_X4_61 X (by decide) dX4_beginStatement_5 (Nat.le_of_ble_eq_true rfl) (c_X4_forget_9 (by omega)) ?_
  exact sw_vret X Y dX4_beginStatement_8 rfl (rfl)
set_option maxHeartbeats 4000000 in
set_option maxRecDepth 100000 in
theorem c_X4_endWell {G : sv_G} {M : sv_Mem} {q mq : Nat} {res : Int32} (hq : q < 3) (hmq : M 9 5 0 (27 + q) = nI mq) (hmq2 : mq ≤ 12) : sv_Ct G M_X4_endWell 2 [.ref (sv_ad G 4 9 0), .int (nI q), .int res] M (some (.int res)) (mS M (ewS (M 9 5 0) (M 9 9 0) q mq)) := by
  refine sv_Ct_of (lo := [some (.ref (sv_ad G 4 9 0)), some (.int (nI q)), some (.int res)]) (pn_X4) rfl (Nat.le_of_ble_eq_true rfl) rfl (fun K X Y => ?_)
  replace X : sv_X G K cX4_endWell RX4 3 2 := X
  replace Y : sv_Y G K (some .int) _ _ := Y
  show sw_W G K 3 0 _ _ _
  refine sw_aload_0 X dX4_endWell_0 ?_
  refine gf_X4_7 X dX4_endWell_1 ?_
  refine sw_iload_1 X dX4_endWell_4 ?_
  refine sw_aload_0 X dX4_endWell_5 ?_
  refine gf_X4_7 X dX4_endWell_6 ?_
  refine sw_bipush X (nI 27) dX4_endWell_9 (by decide) ?_
  refine sw_iload_1 X dX4_endWell_11 ?_
  refine sw_iadd X dX4_endWell_12 ?_
  try refine sw_tope (nI_add _ _) ?_
  refine ia_5 X rfl (by omega) dX4_endWell_13 ?_
  try simp only [mS_s, mN_n, mS_n, mN_s, mS_f, mN_f, rc_s, rc_n]
  rw [hmq]
  refine ca_X4_48 X (by decide) dX4_endWell_14 (Nat.le_of_ble_eq_true rfl) c_X4_at ?_
  refine sw_aload_0 X dX4_endWell_17 ?_
  refine gf_X4_22 X dX4_endWell_18 ?_
  refine sw_iconst X (nI 0) dX4_endWell_21 (by decide) ?_
  refine ca_X4_57 X (by decide) dX4_endWell_22 (Nat.le_of_ble_eq_true rfl) (c_X4_join_9 (by unfold rAt; omega) (by omega)) ?_
  refine sw_aload_0 X dX4_endWell_25 ?_
  refine gf_X4_7 X dX4_endWell_26 ?_
  refine sw_iconst X (nI 3) dX4_endWell_29 (by decide) ?_
  refine sw_dup2 X dX4_endWell_30 rfl rfl ?_
  refine ia_5 X rfl (by omega) dX4_endWell_31 ?_
  try simp only [mS_s, mN_n, mS_n, mN_s, mS_f, mN_f, rc_s, rc_n]
  refine sw_iconst X (nI 1) dX4_endWell_32 (by decide) ?_
  refine sw_iadd X dX4_endWell_33 ?_
  try refine sw_tope (nI_add _ _) ?_
  refine is_5 X rfl (by omega) dX4_endWell_34 ?_
  refine sw_iload_2 X dX4_endWell_35 ?_
  exact sw_iret X Y dX4_endWell_36 (rfl) (by simp only [up5, up9, mN_mS, mS_mS, mN_mN, mS_s, mN_n, mS_n, mN_s, mS_id, mN_id, rc_s, rc_n]; rfl)
