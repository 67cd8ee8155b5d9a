/-! The facade: one memory of ints for all objects of the system (their graph never changes), one judgement sw_W for a walk over it, one form sv_Ct for a method's contract. -/
/-- launch, the first object's address, the classes' numbers and slots, the classes of the arrays of int, char, Transaction, State -/
abbrev sv_G : Type := Launch × Nat × va_G × ClassId × ClassId × ClassId × ClassId × Nat × Nat × Nat × Nat
/-- how many of the law's own rows stand (c, b, m, due), and how many cells lie ahead of b, of m, of due that nobody speaks of -/
abbrev gn (G : sv_G) : Nat := G.2.2.2.2.2.2.2.1
abbrev gx (G : sv_G) : Nat := G.2.2.2.2.2.2.2.2.1
abbrev gy (G : sv_G) : Nat := G.2.2.2.2.2.2.2.2.2.1
abbrev gz (G : sv_G) : Nat := G.2.2.2.2.2.2.2.2.2.2
/-- which State (8: the store, 9: the law), kind of object, which transaction, place -/
abbrev sv_Mem : Type := Nat → Nat → Nat → Nat → Int32
def sv_sb (i : Nat) : Nat := if i < 2 then 1 + 19 * i else 2 + 19 * i
def sv_off (k i j : Nat) : Nat := match k with
  | 0 => 0
  | 1 => 39
  | 2 => 154
  | 3 => 155
  | 4 => 156
  | 5 => 157
  | 6 => 158
  | 7 => 159
  | 10 => sv_sb i
  | 11 => sv_sb i + 1
  | 12 => sv_sb i + 2
  | 13 => sv_sb i + 3
  | 14 => sv_sb i + 4 + 5 * j
  | 15 => sv_sb i + 5 + 5 * j
  | 16 => sv_sb i + 6 + 5 * j
  | 17 => sv_sb i + 7 + 5 * j
  | _ => sv_sb i + 8 + 5 * j
abbrev sv_V0 (k i j : Nat) : Prop := (k < 4 ∧ i = 8 ∧ j = 0) ∨ (4 ≤ k ∧ k < 8 ∧ i = 9 ∧ j = 0) ∨ (10 ≤ k ∧ k < 14 ∧ i < 8 ∧ j = 0) ∨ (14 ≤ k ∧ k < 19 ∧ i < 8 ∧ j < 3)
abbrev sv_V (G : sv_G) (k i j : Nat) : Prop := (k < 4 ∧ i = 8 ∧ j = 0) ∨ (4 ≤ k ∧ k < 8 ∧ i = 9 ∧ j = 0 ∧ k - 4 < gn G) ∨ (10 ≤ k ∧ k < 14 ∧ i < 8 ∧ j = 0) ∨ (14 ≤ k ∧ k < 19 ∧ i < 8 ∧ j < 3)
def sv_n (G : sv_G) : Nat := 156 + min (gn G) 4
def sv_decS (i r : Nat) : Nat × Nat × Nat := if r < 4 then (10 + r, i, 0) else (14 + (r - 4) % 5, i, (r - 4) / 5)
def sv_dec (o : Nat) : Nat × Nat × Nat := if o = 0 then (0, 8, 0) else if o < 39 then sv_decS ((o - 1) / 19) ((o - 1) % 19) else if o = 39 then (1, 8, 0) else if o < 154 then sv_decS (2 + (o - 40) / 19) ((o - 40) % 19) else if o < 156 then (o - 152, 8, 0) else (o - 152, 9, 0)
def sv_xo (G : sv_G) (k : Nat) : Nat := match k with
  | 5 => gx G
  | 6 => gx G + gy G
  | 7 => gx G + gy G + gz G
  | _ => 0
def sv_ad (G : sv_G) (k i j : Nat) : Nat := G.2.1 + sv_off k i j + sv_xo G k
abbrev sv_cI (G : sv_G) : ClassId := G.2.2.2.1
abbrev sv_cC (G : sv_G) : ClassId := G.2.2.2.2.1
abbrev sv_cT (G : sv_G) : ClassId := G.2.2.2.2.2.1
abbrev sv_cS (G : sv_G) : ClassId := G.2.2.2.2.2.2.1
def sv_ent (G : sv_G) (M : sv_Mem) (k i j : Nat) : va_E := match k with
  | 0 => .inr (3, [.ref (sv_ad G 10 0 0), .ref (sv_ad G 10 1 0), .int (M i 0 j 2), .ref (sv_ad G 1 8 0), .int (M i 0 j 4), .int (M i 0 j 5), .ref (sv_ad G 2 8 0)])
  | 1 => .inl (sv_cS G, 6, .inr (.inr (.inr (.inr (fun q => some (sv_ad G 10 (q + 2) 0))))))
  | 2 => .inr (0, [.ref (sv_ad G 3 8 0), .int (M i 2 j 1)])
  | 3 => .inl (sv_cC G, 80, .inl (M i 3 j))
  | 4 => .inl (sv_cI G, 1, .inl (M i 4 j))
  | 5 => .inl (sv_cI G, 32, .inl (M i 5 j))
  | 6 => .inl (sv_cI G, 48, .inl (M i 6 j))
  | 7 => .inl (sv_cI G, 16, .inl (M i 7 j))
  | 8 => .inl (sv_cI G, 1, .inl (M i 8 j))
  | 9 => .inl (sv_cI G, 1, .inl (M i 9 j))
  | 10 => .inr (1, [.int (M i 10 j 0), .ref (sv_ad G 11 i 0), .ref (sv_ad G 12 i 0), .ref (sv_ad G 13 i 0)])
  | 11 => .inl (sv_cI G, 16, .inl (M i 11 j))
  | 12 => .inl (sv_cT G, 3, .inr (.inr (.inr (.inr (fun q => some (sv_ad G 14 i q))))))
  | 13 => .inl (sv_cI G, 7, .inl (M i 13 j))
  | 14 => .inr (2, [.int (M i 14 j 0), .int (M i 14 j 1), .ref (sv_ad G 15 i j), .ref (sv_ad G 16 i j), .ref (sv_ad G 17 i j), .ref (sv_ad G 18 i j)])
  | 15 => .inl (sv_cI G, 14, .inl (M i 15 j))
  | 16 => .inl (sv_cI G, 12, .inl (M i 16 j))
  | 17 => .inl (sv_cI G, 14, .inl (M i 17 j))
  | _ => .inl (sv_cI G, 224, .inl (M i 18 j))
def sv_cell (G : sv_G) (M : sv_Mem) (o : Nat) : Nat × va_E := (sv_ad G (sv_dec o).1 (sv_dec o).2.1 (sv_dec o).2.2, sv_ent G M (sv_dec o).1 (sv_dec o).2.1 (sv_dec o).2.2)
def sv_cells (G : sv_G) (M : sv_Mem) : va_W := (List.range (sv_n G)).map (sv_cell G M)
theorem sv_off_fin : (List.range 19).all (fun k => (List.range 10).all (fun i => (List.range 3).all (fun j => decide (sv_V0 k i j → sv_off k i j < 160 ∧ sv_dec (sv_off k i j) = (k, i, j) ∧ (k < 4 ∨ 10 ≤ k → sv_off k i j < 156) ∧ (4 ≤ k ∧ k < 8 → sv_off k i j = 152 + k))))) = true := by decide +kernel
theorem sv_dec_all : (List.range 160).all (fun o => decide (sv_V0 (sv_dec o).1 (sv_dec o).2.1 (sv_dec o).2.2 ∧ sv_off (sv_dec o).1 (sv_dec o).2.1 (sv_dec o).2.2 = o ∧ (o < 156 → (sv_dec o).1 < 4 ∨ 10 ≤ (sv_dec o).1) ∧ (156 ≤ o → (sv_dec o).1 = o - 152))) = true := by decide +kernel
theorem sv_dec_fin (o : Nat) (h : o < 160) : sv_V0 (sv_dec o).1 (sv_dec o).2.1 (sv_dec o).2.2 ∧ sv_off (sv_dec o).1 (sv_dec o).2.1 (sv_dec o).2.2 = o ∧ (o < 156 → (sv_dec o).1 < 4 ∨ 10 ≤ (sv_dec o).1) ∧ (156 ≤ o → (sv_dec o).1 = o - 152) := of_decide_eq_true (List.all_eq_true.mp sv_dec_all o (List.mem_range.mpr h))
theorem sv_off_at {G : sv_G} {k i j : Nat} (h : sv_V G k i j) : sv_off k i j < sv_n G ∧ sv_dec (sv_off k i j) = (k, i, j) := by
  have h0 : sv_V0 k i j := by omega
  obtain ⟨a1, a2, a3, a4⟩ := of_decide_eq_true (List.all_eq_true.mp (List.all_eq_true.mp (List.all_eq_true.mp sv_off_fin k (List.mem_range.mpr (by omega))) i (List.mem_range.mpr (by omega))) j (List.mem_range.mpr (by omega))) h0
  refine ⟨?_, a2⟩
  unfold sv_n
  rcases h with h | h | h | h
  · have := a3 (by omega); omega
  · have := a4 (by omega); omega
  · have := a3 (by omega); omega
  · have := a3 (by omega); omega
theorem sv_n_le (G : sv_G) : sv_n G ≤ 160 := by unfold sv_n; omega
theorem sv_cells_get (G : sv_G) (M : sv_Mem) {o : Nat} (h : o < sv_n G) : (sv_cells G M)[o]? = some (sv_cell G M o) := by
  unfold sv_cells
  rw [List.getElem?_map, List.getElem?_range h]
  rfl
theorem sv_cells_at {G : sv_G} {M : sv_Mem} {k i j : Nat} (h : sv_V G k i j) : (sv_cells G M)[sv_off k i j]? = some (sv_ad G k i j, sv_ent G M k i j) := by
  obtain ⟨h1, h2⟩ := sv_off_at h
  rw [sv_cells_get G M h1]
  unfold sv_cell
  rw [h2]
/-- where the cell of a place lies -/
theorem sv_cell_ad (G : sv_G) (M : sv_Mem) {o : Nat} (h : o < 160) : (sv_cell G M o).1 = G.2.1 + o + (if o < 157 then 0 else if o = 157 then gx G else if o = 158 then gx G + gy G else gx G + gy G + gz G) := by
  obtain ⟨h1, h2, h3, h4⟩ := sv_dec_fin o h
  show sv_ad G (sv_dec o).1 (sv_dec o).2.1 (sv_dec o).2.2 = _
  unfold sv_ad
  rw [h2]
  congr 1
  by_cases h5 : o < 157
  · rw [if_pos h5]
    have hk : (sv_dec o).1 < 5 ∨ 8 ≤ (sv_dec o).1 := by
      by_cases h6 : o < 156
      · have := h3 h6; omega
      · have := h4 (by omega); omega
    generalize (sv_dec o).1 = k at hk
    unfold sv_xo
    split <;> first | omega | rfl
  · rw [if_neg h5]
    have hk := h4 (by omega)
    rw [hk]
    have : o = 157 ∨ o = 158 ∨ o = 159 := by omega
    rcases this with rfl | rfl | rfl <;> rfl
theorem sv_ent_congr {G : sv_G} {M M' : sv_Mem} {k i j : Nat} (h : M i k j = M' i k j) (hk : k < 19) : sv_ent G M k i j = sv_ent G M' k i j := by
  match k, hk with
  | 0, _ => simp [sv_ent, h]
  | 1, _ => simp [sv_ent]
  | 2, _ => simp [sv_ent, h]
  | 3, _ => simp [sv_ent, h]
  | 4, _ => simp [sv_ent, h]
  | 5, _ => simp [sv_ent, h]
  | 6, _ => simp [sv_ent, h]
  | 7, _ => simp [sv_ent, h]
  | 8, _ => simp [sv_ent, h]
  | 9, _ => simp [sv_ent, h]
  | 10, _ => simp [sv_ent, h]
  | 11, _ => simp [sv_ent, h]
  | 12, _ => simp [sv_ent]
  | 13, _ => simp [sv_ent, h]
  | 14, _ => simp [sv_ent, h]
  | 15, _ => simp [sv_ent, h]
  | 16, _ => simp [sv_ent, h]
  | 17, _ => simp [sv_ent, h]
  | 18, _ => simp [sv_ent, h]
  | k + 19, hk => exact absurd hk (by omega)
theorem sv_cells_len (G : sv_G) (M : sv_Mem) : (sv_cells G M).length = sv_n G := by simp [sv_cells]
/-- one object's ints change: the others' rows stay -/
theorem sv_cells_set {G : sv_G} {M M' : sv_Mem} {k i j : Nat} (h : sv_V G k i j) (hm : ∀ k' i' j', ¬ (k' = k ∧ i' = i ∧ j' = j) → M' i' k' j' = M i' k' j') : (sv_cells G M).set (sv_off k i j) (sv_ad G k i j, sv_ent G M' k i j) = sv_cells G M' := by
  obtain ⟨h1, h2⟩ := sv_off_at h
  apply List.ext_getElem?
  intro o
  by_cases ho : o < sv_n G
  · by_cases hq : o = sv_off k i j
    · subst hq
      rw [List.getElem?_set_self (by rw [sv_cells_len]; exact h1), sv_cells_at h]
    · rw [List.getElem?_set_ne (fun z => hq z.symm), sv_cells_get G M ho, sv_cells_get G M' ho]
      obtain ⟨g1, g2, -, -⟩ := sv_dec_fin o (Nat.lt_of_lt_of_le ho (sv_n_le G))
      unfold sv_cell
      rw [sv_ent_congr (M := M) (M' := M') (hm _ _ _ (fun z => hq ?_)).symm (by omega)]
      obtain ⟨z1, z2, z3⟩ := z
      rw [z1, z2, z3] at g2
      exact g2.symm
  · rw [List.getElem?_eq_none (by rw [List.length_set, sv_cells_len]; omega), List.getElem?_eq_none (by rw [sv_cells_len]; omega)]
theorem sv_cells_D {G : sv_G} {M : sv_Mem} {A : Nat → Prop} (hA : ∀ q, G.2.1 ≤ q → A q) : va_D A (sv_cells G M) := by
  have key : ∀ (o : Nat) (q : Nat × va_E), (sv_cells G M)[o]? = some q → o < 160 ∧ q.1 = G.2.1 + o + (if o < 157 then 0 else if o = 157 then gx G else if o = 158 then gx G + gy G else gx G + gy G + gz G) := by
    intro o q hq
    have ho : o < sv_n G := by have := (List.getElem?_eq_some_iff.mp hq).1; rw [sv_cells_len] at this; exact this
    have ho2 := Nat.lt_of_lt_of_le ho (sv_n_le G)
    rw [sv_cells_get G M ho] at hq
    cases hq
    exact ⟨ho2, sv_cell_ad G M ho2⟩
  refine ⟨fun a b p q hp hq hpq => ?_, fun a q hq => ?_⟩
  · obtain ⟨l1, h1⟩ := key a p hp
    obtain ⟨l2, h2⟩ := key b q hq
    rw [h1, h2] at hpq
    split at hpq <;> split at hpq <;> (repeat' split at hpq) <;> omega
  · rw [(key a q hq).2]
    exact hA _ (by omega)
/-- a memory with one int changed -/
def sv_up (M : sv_Mem) (i k j n : Nat) (v : Int32) : sv_Mem := va_up M i (va_up (M i) k (va_up (M i k) j (va_up (M i k j) n v)))
theorem sv_up_at (M : sv_Mem) (i k j n : Nat) (v : Int32) : sv_up M i k j n v i k j = va_up (M i k j) n v := by
  unfold sv_up
  rw [va_up_self, va_up_self, va_up_self]
theorem sv_up_ne (M : sv_Mem) (i k j n : Nat) (v : Int32) : ∀ k' i' j', ¬ (k' = k ∧ i' = i ∧ j' = j) → sv_up M i k j n v i' k' j' = M i' k' j' := by
  intro k' i' j' h
  unfold sv_up
  by_cases hi : i' = i
  · subst hi
    rw [va_up_self]
    by_cases hk : k' = k
    · subst hk
      rw [va_up_self]
      exact va_up_ne _ _ (fun z => h ⟨rfl, rfl, z⟩)
    · rw [va_up_ne _ _ hk]
  · rw [va_up_ne _ _ hi]
/-- the array at a role gets another row of ints -/
def sv_upA (M : sv_Mem) (i k j : Nat) (f : Nat → Int32) : sv_Mem := va_up M i (va_up (M i) k (va_up (M i k) j f))
theorem sv_upA_at (M : sv_Mem) (i k j : Nat) (f : Nat → Int32) : sv_upA M i k j f i k j = f := by
  unfold sv_upA
  rw [va_up_self, va_up_self, va_up_self]
theorem sv_upA_ne (M : sv_Mem) (i k j : Nat) (f : Nat → Int32) : ∀ k' i' j', ¬ (k' = k ∧ i' = i ∧ j' = j) → sv_upA M i k j f i' k' j' = M i' k' j' := by
  intro k' i' j' h
  unfold sv_upA
  by_cases hi : i' = i
  · subst hi
    rw [va_up_self]
    by_cases hk : k' = k
    · subst hk
      rw [va_up_self]
      exact va_up_ne _ _ (fun z => h ⟨rfl, rfl, z⟩)
    · rw [va_up_ne _ _ hk]
  · rw [va_up_ne _ _ hi]
theorem sv_upA_up (M : sv_Mem) (i k j n : Nat) (v : Int32) : sv_upA M i k j (va_up (M i k j) n v) = sv_up M i k j n v := rfl
abbrev sv_tys (G : sv_G) : List (ClassId × FieldType) := [(sv_cI G, .int), (sv_cC G, .char), (sv_cT G, .object "SavepointStore$Transaction"), (sv_cS G, .object "SavepointStore$State")]
/-- what a walk stands on: program, environment, room, start, method .., heap at the start, cells that may change, cells and slots made, the end -/
abbrev sv_K : Type := Program × Env × Room × State × MethodId × Array Value × List Frame × Method × Code × Heap × (Nat → Prop) × Nat × Nat × (State → Prop)
abbrev kp (K : sv_K) : Program := K.1
abbrev ke (K : sv_K) : Env := K.2.1
abbrev kR (K : sv_K) : Room := K.2.2.1
abbrev ks (K : sv_K) : State := K.2.2.2.1
abbrev km (K : sv_K) : MethodId := K.2.2.2.2.1
abbrev kargs (K : sv_K) : Array Value := K.2.2.2.2.2.1
abbrev kbelow (K : sv_K) : List Frame := K.2.2.2.2.2.2.1
abbrev kmeth (K : sv_K) : Method := K.2.2.2.2.2.2.2.1
abbrev kc (K : sv_K) : Code := K.2.2.2.2.2.2.2.2.1
abbrev kH (K : sv_K) : Heap := K.2.2.2.2.2.2.2.2.2.1
abbrev kA (K : sv_K) : Nat → Prop := K.2.2.2.2.2.2.2.2.2.2.1
abbrev kcells (K : sv_K) : Nat := K.2.2.2.2.2.2.2.2.2.2.2.1
abbrev kslots (K : sv_K) : Nat := K.2.2.2.2.2.2.2.2.2.2.2.2.1
abbrev kQ (K : sv_K) : State → Prop := K.2.2.2.2.2.2.2.2.2.2.2.2.2
/-- the locals: those that are known -/
def sv_L (ls : Array Slot) (nL : Nat) (lo : List (Option Value)) : Prop := ls.size = nL ∧ lv_wf ls ∧ lo.length = nL ∧ ∀ (i : Nat) (v : Value), lo[i]? = some (some v) → ls[i]? = some (.val v)
def sw_W (G : sv_G) (K : sv_K) (nL : Nat) (pc : Nat) (lo : List (Option Value)) (st : List Value) (M : sv_Mem) : Prop :=
  ∀ (H : Heap) (locs : List Loc) (ls : Array Slot), va_P G.2.2.1 vwCl (sv_cells G M) H → va_S (kA K) (kH K) H locs → sv_L ls nL lo →
    W (kp K) G.1 (ke K) (kR K) (ks K) (km K) (kargs K) (kbelow K) (kmeth K) (kc K) H locs (kcells K) (kslots K) (kQ K) (F0 (km K) pc ls st)
def sv_X (G : sv_G) (K : sv_K) (cc : ByteArray) (own : String) (nL d : Nat) : Prop :=
  (kp K).tables.exec = Jvm.exec ∧ (kc K).code = cc ∧ (kc K).maxLocals = nL ∧ (ks K).vm.findClass own = some (km K).cls ∧ (∀ w ∈ lw_g, w.before (kargs K) (ks K) = true) ∧ va_K G.2.2.1 vwCl (sv_tys G) (ks K) ∧ (∀ q, G.2.1 ≤ q → kA K q) ∧ d ≤ (kR K).frames ∧ 36 * d ≤ (kR K).locals ∧ kcells K ≤ (kR K).cells ∧ kslots K ≤ (kR K).slots ∧ sv_Nw (ks K)
/-- a method: name, code, locals, type -/
abbrev sv_M : Type := MethodName × ByteArray × Nat × Option FieldType
def sv_ws (m : sv_M) : List Cond := .code m.1 m.2.1 m.2.2.1 m.2.2.2 :: lw_g
def sv_room (d : Nat) : Room := { frames := d, cells := 0, slots := 0, locals := 36 * d }
def sv_Qc (G : sv_G) (ret : Option Value) (M' : sv_Mem) : Array Value → State → Outcome → State → Prop := fun _ st oc t => oc = .returned ret ∧ va_P G.2.2.1 vwCl (sv_cells G M') t.heap ∧ va_F (fun q => G.2.1 ≤ q) st t
def sv_Pc (G : sv_G) (args : List Value) (M : sv_Mem) : Array Value → State → Prop := va_Pc args (fun U => va_P G.2.2.1 vwCl (sv_cells G M) U.heap ∧ va_K G.2.2.1 vwCl (sv_tys G) U ∧ sv_Nw U)
/-- a method's contract: of these arguments over this memory it answers ret and leaves that memory; it makes nothing -/
def sv_Ct (G : sv_G) (m : sv_M) (d : Nat) (args : List Value) (M : sv_Mem) (ret : Option Value) (M' : sv_Mem) : Prop :=
  Met G.1 m.1 (sv_ws m) (sv_room d) (sv_Pc G args M) (sv_Qc G ret M') 0 0 (fun q => G.2.1 ≤ q)
/-- a walk that is a method's, with its answer and its memory at the end -/
def sv_Y (G : sv_G) (K : sv_K) (rt : Option FieldType) (ret : Option Value) (M' : sv_Mem) : Prop :=
  kQ K = MQ (kbelow K) (sv_Qc G ret M') (kargs K) (ks K) (kcells K) (kslots K) (fun q => G.2.1 ≤ q) ∧ (kmeth K).sig.returnType = rt ∧ (kmeth K).locks = false ∧ kH K = (ks K).heap ∧ kA K = (fun q => G.2.1 ≤ q)
