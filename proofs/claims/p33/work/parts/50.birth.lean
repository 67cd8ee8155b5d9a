/-! Constructors: a walk over a growing heap. The world's cells stand at the addresses in the order in which they are made. -/
def sb_TT : String := "SavepointStore$Transaction"
def sb_SS : String := "SavepointStore$State"
def sv_seg (G : sv_G) (M : sv_Mem) (lo n : Nat) : va_W := (List.range n).map (fun r => (G.2.1 + (lo + r), sv_ent G M (sv_dec (lo + r)).1 (sv_dec (lo + r)).2.1 (sv_dec (lo + r)).2.2))
theorem sv_seg_all (G : sv_G) (M : sv_Mem) (h : gn G = 1) : sv_seg G M 0 157 = sv_cells G M := by
  unfold sv_seg sv_cells
  rw [show sv_n G = 157 by unfold sv_n; omega]
  apply List.map_congr_left
  intro r hr
  have hr := List.mem_range.mp hr
  have e := sv_cell_ad G M (o := r) (by omega)
  rw [if_pos hr] at e
  rw [Nat.zero_add]
  exact Prod.ext (by rw [e]; rfl) rfl
theorem sv_seg_get {G : sv_G} {M : sv_Mem} {lo n k : Nat} {q : Nat × va_E} (h : (sv_seg G M lo n)[k]? = some q) : k < n ∧ q = (G.2.1 + (lo + k), sv_ent G M (sv_dec (lo + k)).1 (sv_dec (lo + k)).2.1 (sv_dec (lo + k)).2.2) := by
  unfold sv_seg at h
  have hl := (List.getElem?_eq_some_iff.mp h).1
  rw [List.length_map, List.length_range] at hl
  rw [List.getElem?_map, List.getElem?_range hl] at h
  exact ⟨hl, (Option.some.inj h).symm⟩
theorem sv_seg_at {G : sv_G} {M : sv_Mem} {lo n r : Nat} (h : r < n) : (sv_seg G M lo n)[r]? = some (G.2.1 + (lo + r), sv_ent G M (sv_dec (lo + r)).1 (sv_dec (lo + r)).2.1 (sv_dec (lo + r)).2.2) := by
  unfold sv_seg
  rw [List.getElem?_map, List.getElem?_range h]
  rfl
theorem sv_seg_D {G : sv_G} {M : sv_Mem} {lo n : Nat} {A : Nat → Prop} (hA : ∀ q, G.2.1 + lo ≤ q → A q) : va_D A (sv_seg G M lo n) := by
  refine ⟨fun i j p q hp hq e => ?_, fun k q hk => ?_⟩
  · rw [(sv_seg_get hp).2, (sv_seg_get hq).2] at e
    have e : G.2.1 + (lo + i) = G.2.1 + (lo + j) := e
    omega
  · rw [(sv_seg_get hk).2]
    exact hA _ (by show _ ≤ G.2.1 + (lo + k); omega)
/-- the cells of a stretch, each of its own -/
theorem sv_seg_P {G : sv_G} {M : sv_Mem} {lo n : Nat} {H : Heap} (h : ∀ r, r < n → va_at G.2.2.1 vwCl (G.2.1 + (lo + r), sv_ent G M (sv_dec (lo + r)).1 (sv_dec (lo + r)).2.1 (sv_dec (lo + r)).2.2) H) : va_P G.2.2.1 vwCl (sv_seg G M lo n) H := by
  intro k q hk
  obtain ⟨h1, h2⟩ := sv_seg_get hk
  rw [h2]
  exact h k h1
theorem sv_P_seg {G : sv_G} {M : sv_Mem} {lo n : Nat} {H : Heap} (h : va_P G.2.2.1 vwCl (sv_seg G M lo n) H) {r : Nat} (hr : r < n) : va_at G.2.2.1 vwCl (G.2.1 + (lo + r), sv_ent G M (sv_dec (lo + r)).1 (sv_dec (lo + r)).2.1 (sv_dec (lo + r)).2.2) H := h r _ (sv_seg_at hr)
theorem nI_nonneg {n : Nat} (h : n ≤ 4999) : ¬ nI n < 0 := fun q => (sv_in (x := nI n) (N := n + 1 - 1 + 1) rfl (by omega) (by omega)).1 (Or.inl q)
def sb_W (G : sv_G) (K : sv_K) (nL pc : Nat) (lo : List (Option Value)) (st : List Value) (ws : va_W) (h k n : Nat) : Prop :=
  ∀ (H : Heap) (locs : List Loc) (ls : Array Slot), va_P G.2.2.1 vwCl ws H → va_D (kA K) ws → H.size = h → va_S (kA K) (kH K) H locs → sv_L ls nL lo →
    W (kp K) G.1 (ke K) (kR K) (ks K) (km K) (kargs K) (kbelow K) (kmeth K) (kc K) H locs k n (kQ K) (F0 (km K) pc ls st)
def sb_X (G : sv_G) (K : sv_K) (cc : ByteArray) (own : String) (nL d : Nat) : Prop :=
  (kp K).tables.exec = Jvm.exec ∧ (kc K).code = cc ∧ (kc K).maxLocals = nL ∧ (ks K).vm.findClass own = some (km K).cls ∧ (∀ w ∈ lw_g, w.before (kargs K) (ks K) = true) ∧ va_K G.2.2.1 vwCl (sv_tys G) (ks K) ∧ (∀ q, (kH K).size ≤ q → kA K q) ∧ (1 ≤ (kR K).frames ∧ d ≤ (kR K).frames) ∧ (36 ≤ (kR K).locals ∧ 36 * d ≤ (kR K).locals) ∧ kcells K ≤ (kR K).cells ∧ kslots K ≤ (kR K).slots ∧ sv_Nw (ks K) ∧ va_AO sb_TT (ks K) ∧ va_AO sb_SS (ks K)
section SBX
variable {G : sv_G} {K : sv_K} {cc : ByteArray} {own : String} {nL d : Nat}
theorem sb_own (X : sb_X G K cc own nL d) : (ks K).vm.findClass own = some (km K).cls := X.2.2.2.1
theorem sb_words (X : sb_X G K cc own nL d) : ∀ w ∈ lw_g, w.before (kargs K) (ks K) = true := X.2.2.2.2.1
theorem sb_word (X : sb_X G K cc own nL d) {w : Cond} (h : w ∈ lw_g) : w.before (kargs K) (ks K) = true := X.2.2.2.2.1 w h
theorem sb_K (X : sb_X G K cc own nL d) : va_K G.2.2.1 vwCl (sv_tys G) (ks K) := X.2.2.2.2.2.1
theorem sb_A (X : sb_X G K cc own nL d) : ∀ q, (kH K).size ≤ q → kA K q := X.2.2.2.2.2.2.1
theorem sb_fr (X : sb_X G K cc own nL d) : (1 ≤ (kR K).frames ∧ d ≤ (kR K).frames) ∧ (36 ≤ (kR K).locals ∧ 36 * d ≤ (kR K).locals) := ⟨X.2.2.2.2.2.2.2.1, X.2.2.2.2.2.2.2.2.1⟩
theorem sb_cells (X : sb_X G K cc own nL d) : kcells K ≤ (kR K).cells := X.2.2.2.2.2.2.2.2.2.1
theorem sb_slots (X : sb_X G K cc own nL d) : kslots K ≤ (kR K).slots := X.2.2.2.2.2.2.2.2.2.2.1
theorem sb_nw (X : sb_X G K cc own nL d) : sv_Nw (ks K) := X.2.2.2.2.2.2.2.2.2.2.2.1
theorem sb_aoT (X : sb_X G K cc own nL d) : va_AO sb_TT (ks K) := X.2.2.2.2.2.2.2.2.2.2.2.2.1
theorem sb_aoS (X : sb_X G K cc own nL d) : va_AO sb_SS (ks K) := X.2.2.2.2.2.2.2.2.2.2.2.2.2
end SBX
section SBR
variable {G : sv_G} {K : sv_K} {cc : ByteArray} {own : String} {nL d : Nat} {pc : Nat} {lo : List (Option Value)} {rest : List Value} {ws : va_W} {h k n : Nat}
theorem sb_iadd (X : sb_X G K cc own nL d) {x y : Int32} (hd : decode cc pc = .ok (.iadd, 1)) (kk : sb_W G K nL (pc + 1) lo (.int (x + y) :: rest) ws h k n) : sb_W G K nL pc lo (.int y :: .int x :: rest) ws h k n := fun H locs ls hP hD hz hS hL => lv_iadd X.1 X.2.1 hd (kk H locs ls hP hD hz hS hL)
theorem sb_tope {x y : Int32} (e : x = y) (kk : sb_W G K nL pc lo (.int y :: rest) ws h k n) : sb_W G K nL pc lo (.int x :: rest) ws h k n := e ▸ kk
theorem sb_ws {ws2 : va_W} (e : ws = ws2) (kk : sb_W G K nL pc lo rest ws2 h k n) : sb_W G K nL pc lo rest ws h k n := e ▸ kk
theorem sb_num {h2 k2 n2 : Nat} (e : h = h2 ∧ k = k2 ∧ n = n2) (kk : sb_W G K nL pc lo rest ws h2 k2 n2) : sb_W G K nL pc lo rest ws h k n := by
  obtain ⟨rfl, rfl, rfl⟩ := e
  exact kk
theorem sb_dup (X : sb_X G K cc own nL d) {va : Value} (hd : decode cc pc = .ok (.dup, 1)) (hva : va.category = 1) (kk : sb_W G K nL (pc + 1) lo (va :: va :: rest) ws h k n) : sb_W G K nL pc lo (va :: rest) ws h k n := fun H locs ls hP hD hz hS hL => lv_dup X.1 X.2.1 hd hva (kk H locs ls hP hD hz hS hL)
theorem sb_icmp_ge (X : sb_X G K cc own nL d) {x y : Int32} {off : Int} (tgt : Nat) (hd : decode cc pc = .ok (.if_icmp .ge off, 3)) (ht : (pc : Int) + off = (tgt : Int)) (kt : y ≤ x → sb_W G K nL tgt lo rest ws h k n) (kf : ¬ (y ≤ x) → sb_W G K nL (pc + 3) lo rest ws h k n) : sb_W G K nL pc lo (.int y :: .int x :: rest) ws h k n := fun H locs ls hP hD hz hS hL => lv_icmp_ge X.1 X.2.1 hd ht (fun q => kt q H locs ls hP hD hz hS hL) (fun q => kf q H locs ls hP hD hz hS hL)
theorem sb_goto (X : sb_X G K cc own nL d) {off : Int} (tgt : Nat) (hd : decode cc pc = .ok (.goto off, 3)) (ht : (pc : Int) + off = (tgt : Int)) (kk : sb_W G K nL tgt lo rest ws h k n) : sb_W G K nL pc lo rest ws h k n := fun H locs ls hP hD hz hS hL => lv_goto X.1 X.2.1 hd ht (kk H locs ls hP hD hz hS hL)
theorem sb_iconst (X : sb_X G K cc own nL d) {z : Int} (v : Int32) (hd : decode cc pc = .ok (.iconst z, 1)) (hv : Int32.ofInt z = v) (kk : sb_W G K nL (pc + 1) lo (.int v :: rest) ws h k n) : sb_W G K nL pc lo rest ws h k n := fun H locs ls hP hD hz hS hL => lv_iconst X.1 X.2.1 hd hv (kk H locs ls hP hD hz hS hL)
theorem sb_bipush (X : sb_X G K cc own nL d) {z : Int} (v : Int32) (hd : decode cc pc = .ok (.bipush z, 2)) (hv : (Int8.ofInt z).toInt32 = v) (kk : sb_W G K nL (pc + 2) lo (.int v :: rest) ws h k n) : sb_W G K nL pc lo rest ws h k n := fun H locs ls hP hD hz hS hL => lv_bipush X.1 X.2.1 hd hv (kk H locs ls hP hD hz hS hL)
theorem sb_sipush (X : sb_X G K cc own nL d) {z : Int} (v : Int32) (hd : decode cc pc = .ok (.sipush z, 3)) (hv : (Int16.ofInt z).toInt32 = v) (kk : sb_W G K nL (pc + 3) lo (.int v :: rest) ws h k n) : sb_W G K nL pc lo rest ws h k n := fun H locs ls hP hD hz hS hL => lv_sipush X.1 X.2.1 hd hv (kk H locs ls hP hD hz hS hL)
theorem sb_iload_0 (X : sb_X G K cc own nL d) {t : List (Option Value)} {x : Int32} (hd : decode cc pc = .ok (.iload_n 0, 1)) (kk : sb_W G K nL (pc + 1) (some (.int x) :: t) (.int x :: rest) ws h k n) : sb_W G K nL pc (some (.int x) :: t) rest ws h k n := fun H locs ls hP hD hz hS hL => lv_iload_n X.1 X.2.1 hd rfl (hL.2.2.2 0 _ rfl) (kk H locs ls hP hD hz hS hL)
theorem sb_aload_0 (X : sb_X G K cc own nL d) {t : List (Option Value)} {x : Nat} (hd : decode cc pc = .ok (.aload_n 0, 1)) (kk : sb_W G K nL (pc + 1) (some (.ref x) :: t) (.ref x :: rest) ws h k n) : sb_W G K nL pc (some (.ref x) :: t) rest ws h k n := fun H locs ls hP hD hz hS hL => lv_aload_n X.1 X.2.1 hd rfl (hL.2.2.2 0 _ rfl) (kk H locs ls hP hD hz hS hL)
theorem sb_istore_0 (X : sb_X G K cc own nL d) {w : Option Value} {t : List (Option Value)} {x : Int32} (hd : decode cc pc = .ok (.istore_n 0, 1)) (kk : sb_W G K nL (pc + 1) (some (.int x) :: t) rest ws h k n) : sb_W G K nL pc (w :: t) (.int x :: rest) ws h k n := fun H locs ls hP hD hz hS hL => lv_istore_n (i := 0) X.1 X.2.1 hd rfl (sv_L_has hL) (sv_L_lt hL (i := 0) (by simp)) rfl (fun ls2 h2 => kk H locs ls2 hP hD hz hS (sv_L_set (w := .int x) hL h2 (i := 0) (by simp) rfl (fun i v hv hc hi => by omega)))
theorem sb_astore_0 (X : sb_X G K cc own nL d) {w : Option Value} {t : List (Option Value)} {x : Nat} (hd : decode cc pc = .ok (.astore_n 0, 1)) (kk : sb_W G K nL (pc + 1) (some (.ref x) :: t) rest ws h k n) : sb_W G K nL pc (w :: t) (.ref x :: rest) ws h k n := fun H locs ls hP hD hz hS hL => lv_astore_n (i := 0) X.1 X.2.1 hd rfl (sv_L_has hL) (sv_L_lt hL (i := 0) (by simp)) rfl (fun ls2 h2 => kk H locs ls2 hP hD hz hS (sv_L_set (w := .ref x) hL h2 (i := 0) (by simp) rfl (fun i v hv hc hi => by omega)))
theorem sb_iload_1 (X : sb_X G K cc own nL d) {v0 : Option Value} {t : List (Option Value)} {x : Int32} (hd : decode cc pc = .ok (.iload_n 1, 1)) (kk : sb_W G K nL (pc + 1) (v0 :: some (.int x) :: t) (.int x :: rest) ws h k n) : sb_W G K nL pc (v0 :: some (.int x) :: t) rest ws h k n := fun H locs ls hP hD hz hS hL => lv_iload_n X.1 X.2.1 hd rfl (hL.2.2.2 1 _ rfl) (kk H locs ls hP hD hz hS hL)
theorem sb_aload_1 (X : sb_X G K cc own nL d) {v0 : Option Value} {t : List (Option Value)} {x : Nat} (hd : decode cc pc = .ok (.aload_n 1, 1)) (kk : sb_W G K nL (pc + 1) (v0 :: some (.ref x) :: t) (.ref x :: rest) ws h k n) : sb_W G K nL pc (v0 :: some (.ref x) :: t) rest ws h k n := fun H locs ls hP hD hz hS hL => lv_aload_n X.1 X.2.1 hd rfl (hL.2.2.2 1 _ rfl) (kk H locs ls hP hD hz hS hL)
theorem sb_istore_1 (X : sb_X G K cc own nL d) {v0 : Option Value} {w : Option Value} {t : List (Option Value)} {x : Int32} (hd : decode cc pc = .ok (.istore_n 1, 1)) (h1 : sv_c1 v0) (kk : sb_W G K nL (pc + 1) (v0 :: some (.int x) :: t) rest ws h k n) : sb_W G K nL pc (v0 :: w :: t) (.int x :: rest) ws h k n := fun H locs ls hP hD hz hS hL => lv_istore_n (i := 1) X.1 X.2.1 hd rfl (sv_L_has hL) (sv_L_lt hL (i := 1) (by simp)) rfl (fun ls2 h2 => kk H locs ls2 hP hD hz hS (sv_L_set (w := .int x) hL h2 (i := 1) (by simp) rfl (sv_c1_no (k0 := 0) rfl h1)))
theorem sb_astore_1 (X : sb_X G K cc own nL d) {v0 : Option Value} {w : Option Value} {t : List (Option Value)} {x : Nat} (hd : decode cc pc = .ok (.astore_n 1, 1)) (h1 : sv_c1 v0) (kk : sb_W G K nL (pc + 1) (v0 :: some (.ref x) :: t) rest ws h k n) : sb_W G K nL pc (v0 :: w :: t) (.ref x :: rest) ws h k n := fun H locs ls hP hD hz hS hL => lv_astore_n (i := 1) X.1 X.2.1 hd rfl (sv_L_has hL) (sv_L_lt hL (i := 1) (by simp)) rfl (fun ls2 h2 => kk H locs ls2 hP hD hz hS (sv_L_set (w := .ref x) hL h2 (i := 1) (by simp) rfl (sv_c1_no (k0 := 0) rfl h1)))
theorem sb_iload_2 (X : sb_X G K cc own nL d) {v0 v1 : Option Value} {t : List (Option Value)} {x : Int32} (hd : decode cc pc = .ok (.iload_n 2, 1)) (kk : sb_W G K nL (pc + 1) (v0 :: v1 :: some (.int x) :: t) (.int x :: rest) ws h k n) : sb_W G K nL pc (v0 :: v1 :: some (.int x) :: t) rest ws h k n := fun H locs ls hP hD hz hS hL => lv_iload_n X.1 X.2.1 hd rfl (hL.2.2.2 2 _ rfl) (kk H locs ls hP hD hz hS hL)
theorem sb_aload_2 (X : sb_X G K cc own nL d) {v0 v1 : Option Value} {t : List (Option Value)} {x : Nat} (hd : decode cc pc = .ok (.aload_n 2, 1)) (kk : sb_W G K nL (pc + 1) (v0 :: v1 :: some (.ref x) :: t) (.ref x :: rest) ws h k n) : sb_W G K nL pc (v0 :: v1 :: some (.ref x) :: t) rest ws h k n := fun H locs ls hP hD hz hS hL => lv_aload_n X.1 X.2.1 hd rfl (hL.2.2.2 2 _ rfl) (kk H locs ls hP hD hz hS hL)
theorem sb_istore_2 (X : sb_X G K cc own nL d) {v0 v1 : Option Value} {w : Option Value} {t : List (Option Value)} {x : Int32} (hd : decode cc pc = .ok (.istore_n 2, 1)) (h1 : sv_c1 v1) (kk : sb_W G K nL (pc + 1) (v0 :: v1 :: some (.int x) :: t) rest ws h k n) : sb_W G K nL pc (v0 :: v1 :: w :: t) (.int x :: rest) ws h k n := fun H locs ls hP hD hz hS hL => lv_istore_n (i := 2) X.1 X.2.1 hd rfl (sv_L_has hL) (sv_L_lt hL (i := 2) (by simp)) rfl (fun ls2 h2 => kk H locs ls2 hP hD hz hS (sv_L_set (w := .int x) hL h2 (i := 2) (by simp) rfl (sv_c1_no (k0 := 1) rfl h1)))
theorem sb_astore_2 (X : sb_X G K cc own nL d) {v0 v1 : Option Value} {w : Option Value} {t : List (Option Value)} {x : Nat} (hd : decode cc pc = .ok (.astore_n 2, 1)) (h1 : sv_c1 v1) (kk : sb_W G K nL (pc + 1) (v0 :: v1 :: some (.ref x) :: t) rest ws h k n) : sb_W G K nL pc (v0 :: v1 :: w :: t) (.ref x :: rest) ws h k n := fun H locs ls hP hD hz hS hL => lv_astore_n (i := 2) X.1 X.2.1 hd rfl (sv_L_has hL) (sv_L_lt hL (i := 2) (by simp)) rfl (fun ls2 h2 => kk H locs ls2 hP hD hz hS (sv_L_set (w := .ref x) hL h2 (i := 2) (by simp) rfl (sv_c1_no (k0 := 1) rfl h1)))
theorem sb_iload_3 (X : sb_X G K cc own nL d) {v0 v1 v2 : Option Value} {t : List (Option Value)} {x : Int32} (hd : decode cc pc = .ok (.iload_n 3, 1)) (kk : sb_W G K nL (pc + 1) (v0 :: v1 :: v2 :: some (.int x) :: t) (.int x :: rest) ws h k n) : sb_W G K nL pc (v0 :: v1 :: v2 :: some (.int x) :: t) rest ws h k n := fun H locs ls hP hD hz hS hL => lv_iload_n X.1 X.2.1 hd rfl (hL.2.2.2 3 _ rfl) (kk H locs ls hP hD hz hS hL)
theorem sb_aload_3 (X : sb_X G K cc own nL d) {v0 v1 v2 : Option Value} {t : List (Option Value)} {x : Nat} (hd : decode cc pc = .ok (.aload_n 3, 1)) (kk : sb_W G K nL (pc + 1) (v0 :: v1 :: v2 :: some (.ref x) :: t) (.ref x :: rest) ws h k n) : sb_W G K nL pc (v0 :: v1 :: v2 :: some (.ref x) :: t) rest ws h k n := fun H locs ls hP hD hz hS hL => lv_aload_n X.1 X.2.1 hd rfl (hL.2.2.2 3 _ rfl) (kk H locs ls hP hD hz hS hL)
theorem sb_istore_3 (X : sb_X G K cc own nL d) {v0 v1 v2 : Option Value} {w : Option Value} {t : List (Option Value)} {x : Int32} (hd : decode cc pc = .ok (.istore_n 3, 1)) (h1 : sv_c1 v2) (kk : sb_W G K nL (pc + 1) (v0 :: v1 :: v2 :: some (.int x) :: t) rest ws h k n) : sb_W G K nL pc (v0 :: v1 :: v2 :: w :: t) (.int x :: rest) ws h k n := fun H locs ls hP hD hz hS hL => lv_istore_n (i := 3) X.1 X.2.1 hd rfl (sv_L_has hL) (sv_L_lt hL (i := 3) (by simp)) rfl (fun ls2 h2 => kk H locs ls2 hP hD hz hS (sv_L_set (w := .int x) hL h2 (i := 3) (by simp) rfl (sv_c1_no (k0 := 2) rfl h1)))
theorem sb_astore_3 (X : sb_X G K cc own nL d) {v0 v1 v2 : Option Value} {w : Option Value} {t : List (Option Value)} {x : Nat} (hd : decode cc pc = .ok (.astore_n 3, 1)) (h1 : sv_c1 v2) (kk : sb_W G K nL (pc + 1) (v0 :: v1 :: v2 :: some (.ref x) :: t) rest ws h k n) : sb_W G K nL pc (v0 :: v1 :: v2 :: w :: t) (.ref x :: rest) ws h k n := fun H locs ls hP hD hz hS hL => lv_astore_n (i := 3) X.1 X.2.1 hd rfl (sv_L_has hL) (sv_L_lt hL (i := 3) (by simp)) rfl (fun ls2 h2 => kk H locs ls2 hP hD hz hS (sv_L_set (w := .ref x) hL h2 (i := 3) (by simp) rfl (sv_c1_no (k0 := 2) rfl h1)))
theorem sb_inc1_1 (X : sb_X G K cc own nL d) {v0 : Option Value} {t : List (Option Value)} {r : Nat} (hd : decode cc pc = .ok (.iinc 1 1, 3)) (h1 : sv_c1 v0) (kk : sb_W G K nL (pc + 3) (v0 :: some (.int (nI (r + 1))) :: t) rest ws h k n) : sb_W G K nL pc (v0 :: some (.int (nI r)) :: t) rest ws h k n := fun H locs ls hP hD hz hS hL => by
  obtain ⟨q, hq⟩ := sv_L_place hL (i := 1) (v := .int (nI r)) rfl
  exact lv_iinc X.1 X.2.1 hd (sv_L_has hL) hq (nI_succ r).symm (sv_L_lt hL (i := 1) (by simp)) rfl (fun ls2 h2 => kk H locs ls2 hP hD hz hS (sv_L_set (w := .int (nI (r + 1))) hL h2 (i := 1) (by simp) rfl (sv_c1_no (k0 := 0) rfl h1)))
theorem wj_code : Cond.code Lib.objectInit ⟨#[0xb1]⟩ 1 none ∈ lw_g := lw_g_of (List.mem_append_right _ (List.mem_of_getElem? (i := 15) (by decide +kernel))) (by decide +kernel)
theorem wj_inst : Cond.instanceMethod Lib.objectInit ∈ lw_g := lw_g_of (List.mem_append_right _ (List.mem_of_getElem? (i := 14) (by decide +kernel))) (by decide +kernel)
theorem sb_objInit (X : sb_X G K cc own nL d) {a index : Nat} (hl : Cond.methodLink own index Lib.objectInit ∈ lw_g) (hd : decode cc pc = .ok (.invokespecial index, 3)) (kk : sb_W G K nL (pc + 3) lo [] ws h k n) : sb_W G K nL pc lo [.ref a] ws h k n := by
  intro H locs ls hP hD hz hS hL
  refine W.objInit X.1 X.2.1 (sb_own X) (sb_word X hl) (sb_word X wj_inst) (sb_word X wj_code) rfl (by rw [X.2.2.1]; exact hL.1) rfl hd (sb_fr X).1.1 (Nat.le_trans (Nat.le_of_ble_eq_true rfl) (sb_fr X).2.1) ?_
  exact W.eq (g2 := F0 (km K) (pc + 3) ls []) rfl (kk H locs ls hP hD hz hS hL)
/-- a new cell stands behind the world -/
theorem sb_born {H H1 : Heap} {locs : List Loc} {e : va_E} (X : sb_X G K cc own nL d) (hP : va_P G.2.2.1 vwCl ws H) (hD : va_D (kA K) ws) (hz : H.size = h) (hS : va_S (kA K) (kH K) H locs) (he : va_at G.2.2.1 vwCl (h, e) H1) (z1 : H1.size = h + 1) (o1 : ∀ q, q < h → H1[q]? = H[q]?) :
    va_P G.2.2.1 vwCl (ws ++ [(h, e)]) H1 ∧ va_D (kA K) (ws ++ [(h, e)]) ∧ va_S (kA K) (kH K) H1 locs := by
  subst hz
  refine ⟨(hP.kept (fun k x hx => o1 x.1 ((hP k x hx).lt))).app (fun k x hx => ?_), hD.push hP rfl (sb_A X _ hS.1), ⟨Nat.le_trans hS.1 (by omega), fun x h1 h2 => (o1 x (Nat.lt_of_lt_of_le h1 hS.1)).trans (hS.2.1 x h1 h2), hS.2.2⟩⟩
  have hz : k < 1 := (List.getElem?_eq_some_iff.mp hx).1
  rw [show k = 0 by omega] at hx
  cases hx
  exact he
theorem wj_int : Cond.arrayClass .int ∈ lw_g := lw_g_of (List.mem_append_right _ (List.mem_of_getElem? (i := 51) (by decide +kernel))) (by decide +kernel)
theorem wj_char : Cond.arrayClass .char ∈ lw_g := lw_g_of (List.mem_append_right _ (List.mem_of_getElem? (i := 82) (by decide +kernel))) (by decide +kernel)
theorem sb_newI (X : sb_X G K cc own nL d) {N : Nat} (hN : N ≤ 4999) (hk : k + 1 ≤ kcells K) (hn : n + N ≤ kslots K) (hd : decode cc pc = .ok (.newarray .int, 2)) (kk : sb_W G K nL (pc + 2) lo (.ref h :: rest) (ws ++ [(h, .inl (sv_cI G, N, .inl (fun _ => 0)))]) (h + 1) (k + 1) (n + N)) : sb_W G K nL pc lo (.int (nI N) :: rest) ws h k n := by
  intro H locs ls hP hD hz hS hL
  refine va_newaK (atype := .int) X.1 X.2.1 (sb_word X wj_int) rfl hd rfl (nI_nonneg (by omega)) (nI_clamp (by omega)) (by show N * 4 ≤ _; omega) (Nat.le_trans hk (sb_cells X)) (Nat.le_trans hn (sb_slots X)) hz (fun H1 cA e1 z1 o1 hAr hNm => ?_)
  have hc : cA = sv_cI G := Option.some.inj (hNm.symm.trans ((sb_K X).2 0 _ rfl).2)
  subst hc
  obtain ⟨p1, p2, p3⟩ := sb_born X hP hD hz hS (e := .inl (sv_cI G, N, .inl (fun _ => 0))) e1 z1 o1
  exact kk H1 locs ls p1 p2 z1 p3 hL
theorem sb_newC (X : sb_X G K cc own nL d) {N : Nat} (hN : N ≤ 4999) (hk : k + 1 ≤ kcells K) (hn : n + N ≤ kslots K) (hd : decode cc pc = .ok (.newarray .char, 2)) (kk : sb_W G K nL (pc + 2) lo (.ref h :: rest) (ws ++ [(h, .inl (sv_cC G, N, .inl (fun _ => 0)))]) (h + 1) (k + 1) (n + N)) : sb_W G K nL pc lo (.int (nI N) :: rest) ws h k n := by
  intro H locs ls hP hD hz hS hL
  refine va_newaK (atype := .char) X.1 X.2.1 (sb_word X wj_char) rfl hd rfl (nI_nonneg (by omega)) (nI_clamp (by omega)) (by show N * 2 ≤ _; omega) (Nat.le_trans hk (sb_cells X)) (Nat.le_trans hn (sb_slots X)) hz (fun H1 cA e1 z1 o1 hAr hNm => ?_)
  have hc : cA = sv_cC G := Option.some.inj (hNm.symm.trans ((sb_K X).2 1 _ rfl).2)
  subst hc
  obtain ⟨p1, p2, p3⟩ := sb_born X hP hD hz hS (e := .inl (sv_cC G, N, .inl (fun _ => 0))) e1 z1 o1
  exact kk H1 locs ls p1 p2 z1 p3 hL
theorem sb_newQ (X : sb_X G K cc own nL d) {C : String} {cA0 : ClassId} {t0 index : Nat} (ht : (sv_tys G)[t0]? = some (cA0, .object C)) (hao : va_AO C (ks K)) (hl : Cond.classLink own index C ∈ lw_g) {N : Nat} (hN : N ≤ 4999) (hk : k + 1 ≤ kcells K) (hn : n + N ≤ kslots K) (hd : decode cc pc = .ok (.anewarray index, 3)) (kk : sb_W G K nL (pc + 3) lo (.ref h :: rest) (ws ++ [(h, .inl (cA0, N, .inr (.inr (.inr (.inr (fun _ => none))))))]) (h + 1) (k + 1) (n + N)) : sb_W G K nL pc lo (.int (nI N) :: rest) ws h k n := by
  intro H locs ls hP hD hz hS hL
  have hN2 : (nI N).toNatClampNeg = N := nI_clamp (by omega)
  refine W.anew X.1 X.2.1 (sb_own X) (sb_word X hl) (va_AO.use hao) rfl hd rfl (nI_nonneg (by omega)) (by rw [hN2]; omega) (Nat.le_trans hk (sb_cells X)) (by rw [hN2]; exact Nat.le_trans hn (sb_slots X)) fun cA kA comp f1 f2 f3 f4 => ?_
  rw [hN2]
  obtain ⟨-, -, -, -, -, g4⟩ := ((sb_K X).2 t0 _ ht).2
  have hc : cA = cA0 := Option.some.inj (f1.symm.trans g4)
  subst hc
  generalize hH1 : H.push ({ cls := cA, slots := Array.replicate N .null, vm := .none } : Cell) = H1
  have z1 : H1.size = h + 1 := by rw [← hH1, Array.size_push, hz]
  have e1 : H1[h]? = some (arrV cA N (fun _ => .null)) := by rw [← hz, ← hH1, Array.getElem?_push_size, ← arrV_new]
  have o1 : ∀ q : Nat, q < h → H1[q]? = H[q]? := fun q hq => by rw [← hH1, Array.getElem?_push, if_neg (by omega)]
  obtain ⟨p1, p2, p3⟩ := sb_born X hP hD hz hS (e := .inl (cA, N, .inr (.inr (.inr (.inr (fun _ => none)))))) e1 z1 o1
  exact W.eq (g2 := F0 (km K) (pc + 3) ls (.ref h :: rest)) (by rw [hz]) (kk H1 locs ls p1 p2 z1 p3 hL)
theorem sb_new (X : sb_X G K cc own nL d) {C : String} {T : u_T} {N ci index : Nat} (hin : ∀ w ∈ u_ws C T N, w ∈ lw_g) (ty : Nat → FieldType) (hty : ∀ k, k < N → parseFieldDescriptor (T k).2.2.1 = some (ty k)) (hcl : Cond.classLink own index C ∈ lw_g) (hinst : Cond.instantiable C N ∈ lw_g) (hini : Cond.initialized C ∈ lw_g) (hc : vwCl[ci]? = some (C, T, N)) {fs : List Value} (hfs : ∀ j, j < N → defaultValue (ty j) = vp_V fs j) (hk : k + 1 ≤ kcells K) (hn : n + N ≤ kslots K) (hd : decode cc pc = .ok (.new index, 3))
    (kk : sb_W G K nL (pc + 3) lo (.ref h :: rest) (ws ++ [(h, .inr (ci, fs))]) (h + 1) (k + 1) (n + N)) : sb_W G K nL pc lo rest ws h k n := by
  intro H locs ls hP hD hz hS hL
  have hKn := (sb_K X).1 ci _ hc
  refine W.newcK X.1 X.2.1 (sb_own X) (sb_word X hcl) (sb_word X hinst) (sb_word X hini) rfl hd (Nat.le_trans hk (sb_cells X)) (Nat.le_trans hn (sb_slots X)) hKn.2.1 hz fun H1 kC hkC e1 z1 o1 => ?_
  obtain ⟨p1, p2, p3⟩ := sb_born X hP hD hz hS (e := .inr (ci, fs)) ⟨_, hc, (u_born ty (sb_words X) hin hKn hkC e1 hty).to hfs⟩ z1 o1
  exact kk H1 locs ls p1 p2 z1 p3 hL
theorem sb_putF (X : sb_X G K cc own nL d) (hin2 : (kmeth K).name = "<init>") {ref C : String} {T : u_T} {N ci index : Nat} (hin : ∀ w ∈ u_ws C T N, w ∈ lw_g) (ty0 : Nat → FieldType) (hty : ∀ k, k < N → parseFieldDescriptor (T k).2.2.1 = some (ty0 k)) (hnm : ∀ a, a < N → ∀ b, b < N → a ≠ b → (T a).2.1 ≠ (T b).2.1) (q0 : Nat) {a : Nat} {fs : List Value} (he : ws[q0]? = some (a, .inr (ci, fs))) (hc : vwCl[ci]? = some (C, T, N)) (q : Nat) (hq : q < N) (hlink : Cond.fieldLink own index ref (T q).2.1 (T q).2.2.1 ∈ lw_g) (hr : ref = (T q).1) (hfin : (T q).2.2.2 = true) (hdecl : (T q).1 = own) {ty : FieldType} {v : Value} (hdsc : parseFieldDescriptor (T q).2.2.1 = some ty) (hn : narrow ty v = v) (hfit : fits ty v = true) (hlen : q < fs.length)
    (hd : decode cc pc = .ok (.putfield index, 3)) (kk : sb_W G K nL (pc + 3) lo rest (ws.set q0 (a, .inr (ci, fs.set q v))) h k n) : sb_W G K nL pc lo (v :: .ref a :: rest) ws h k n := by
  intro H locs ls hP hD hz hS hL
  have hap := va_apart (own := own) (sb_words X) hin ty0 hty hnm (sb_K X) hc
  obtain ⟨r, h1, cell, q1, q2, q3, q4⟩ := hP q0 _ he
  have hrr : r = (C, T, N) := Option.some.inj (h1.symm.trans hc)
  subst hrr
  obtain ⟨hSS, hfc, kC, hkC, hkind⟩ := (sb_K X).1 ci _ hc
  obtain ⟨cf, kf, fi, f, hi, hsl⟩ := hSS q hq
  have hlay := sb_words X _ (hin _ (u_in_lay hq))
  unfold u_lay at hlay
  rw [if_pos hfin] at hlay
  have hst := (u_facts hfc hkC (u_lays (sb_words X) hin hq) hi).1
  have hcf : (km K).cls = cf := by
    obtain ⟨_, _, c', _, _, _, -, -, hf', -, -, -, hown2, -⟩ := Cond.laysFinal_spec hlay
    have e1 : c' = cf := by have := hi.symm.trans hf'; simp at this; exact this.1.symm
    rw [hdecl] at hown2
    rw [← e1]; exact Option.some.inj ((sb_own X).symm.trans hown2)
  have h6 := u_fits hfc hkC hkind (Or.inr hlay) hi hdsc hn hfit
  refine W.putFinK X.1 X.2.1 (sb_own X) (sb_word X hlink) (hr ▸ hi) hst hcf hin2 (by rw [q2]; exact h6) q1 q3 (by rw [hsl]; exact k2_hasslot (q4 q hq)) rfl rfl hd fun H' e1 e2 e3 => ?_
  rw [hsl] at e1 ⊢
  exact kk H' _ ls (hP.set hD he ⟨_, hc, t_OB.to (V := updV (vp_V fs) q v) ⟨_, e1, q2, q3, t_set q4 hap hq v⟩ (fun j _ => vp_updV_set hlen v j)⟩ e3) (hD.set he) (e2.trans hz) (hS.put e2 e3 (hD.2 q0 _ he)) hL
theorem sb_get (X : sb_X G K cc own nL d) {ref C : String} {T : u_T} {N ci index : Nat} (hin : ∀ w ∈ u_ws C T N, w ∈ lw_g) (q0 : Nat) {a : Nat} {fs : List Value} (he : ws[q0]? = some (a, .inr (ci, fs))) (hc : vwCl[ci]? = some (C, T, N)) (q : Nat) (hq : q < N) (hlink : Cond.fieldLink own index ref (T q).2.1 (T q).2.2.1 ∈ lw_g) (hr : ref = (T q).1) {v : Value} (hf : fs[q]? = some v)
    (hd : decode cc pc = .ok (.getfield index, 3)) (kk : sb_W G K nL (pc + 3) lo (v :: rest) ws h k n) : sb_W G K nL pc lo (.ref a :: rest) ws h k n := by
  intro H locs ls hP hD hz hS hL
  exact va_get X.1 X.2.1 (sb_words X) hin (sb_own X) (sb_K X) hP q0 he hc q hq (sb_word X hlink) (fun x hx => hr ▸ hx) hf hd (kk H locs ls hP hD hz hS hL)
theorem sb_iast (X : sb_X G K cc own nL d) (q0 : Nat) {a N : Nat} {f : Nat → Int32} (ha : ws[q0]? = some (a, .inl (sv_cI G, N, .inl f))) {x v : Int32} {i : Nat} (hx : x = nI i) (hi : i < N) (hN : N ≤ 5000) (hd : decode cc pc = .ok (.iastore, 1))
    (kk : sb_W G K nL (pc + 1) lo rest (ws.set q0 (a, .inl (sv_cI G, N, .inl (va_up f i v)))) h k n) : sb_W G K nL pc lo (.int v :: .int x :: .ref a :: rest) ws h k n := by
  intro H locs ls hP hD hz hS hL
  obtain ⟨hin, hcl⟩ := sv_in hx hi hN
  refine W.iast X.1 X.2.1 (hP q0 _ ha) (((sb_K X).2 0 _ rfl).1 N (fun j => .int (f j))) (fun q => by cases q) (by show ¬ (x < 0 ∨ (arrV _ _ _).slots.size ≤ _); rw [arrV_size]; exact hin) rfl rfl hd fun H1 e z oq => ?_
  refine kk H1 _ ls (hP.set hD ha ?_ oq) (hD.set ha) (z.trans hz) (hS.put z oq (hD.2 q0 _ ha)) hL
  show H1[a]? = some (vp_cell _ _)
  rw [e, vp_cell_i, vp_cell_i, arrV_store, hcl]
  congr 2
  funext q
  by_cases hq : q = i
  · subst hq
    simp [updV, va_up]
  · simp [updV, va_up, hq]
theorem sb_aast (X : sb_X G K cc own nL d) (q0 t0 qk ci : Nat) {cA : ClassId} {r : vw_C} {a N v : Nat} {vs : List Value} {f : Nat → Option Nat} (ha : ws[q0]? = some (a, .inl (cA, N, .inr (.inr (.inr (.inr f)))))) (ht : (sv_tys G)[t0]? = some (cA, .object r.1)) (hv : ws[qk]? = some (v, .inr (ci, vs))) (hc : vwCl[ci]? = some r) {x : Int32} {i : Nat} (hx : x = nI i) (hi : i < N) (hN : N ≤ 5000) (hd : decode cc pc = .ok (.aastore, 1))
    (kk : sb_W G K nL (pc + 1) lo rest (ws.set q0 (a, .inl (cA, N, .inr (.inr (.inr (.inr (va_up f i (some v)))))))) h k n) : sb_W G K nL pc lo (.ref v :: .int x :: .ref a :: rest) ws h k n := by
  intro H locs ls hP hD hz hS hL
  obtain ⟨hin, hcl⟩ := sv_in hx hi hN
  have h0 : ¬ x < 0 := fun q => hin (Or.inl q)
  obtain ⟨r', hr', cellV, g1, g2, g3, -⟩ := hP qk _ hv
  have hcls := ((sb_K X).1 ci r hc).2
  obtain ⟨kA, comp, k1, k2, k3, -⟩ := ((sb_K X).2 t0 _ ht).2
  have hcomp : comp = G.2.2.1.1 ci := Option.some.inj (k3.symm.trans hcls.1)
  subst hcomp
  obtain ⟨kC, hkC, -⟩ := hcls.2
  refine W.aast X.1 X.2.1 (hP q0 _ ha) (fun q h => by cases h) (fun h => by cases h) k1 k2 rfl hkC ⟨h0, by show _ < (arrV _ _ _).slots.size; rw [arrV_size, hcl]; exact hi⟩ g1 (fun q h => by rw [g3] at h; cases h) (by rw [g2]; exact hkC) (by rw [g2]; exact va_assign hcls) rfl rfl hd fun H1 e z oq => ?_
  refine kk H1 _ ls (hP.set hD ha ?_ oq) (hD.set ha) (z.trans hz) (hS.put z oq (hD.2 q0 _ ha)) hL
  show H1[a]? = some (vp_cell _ _)
  rw [e, vp_cell_q, vp_cell_q, arrV_store, hcl]
  congr 2
  funext q
  by_cases hq : q = i
  · subst hq
    simp [updV, va_up, va_rf]
  · simp [updV, va_up, hq]
end SBR
