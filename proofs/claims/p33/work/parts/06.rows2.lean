section SWM
variable {G : sv_G} {K : sv_K} {cc : ByteArray} {own : String} {nL d : Nat} {M : sv_Mem} {pc : Nat} {lo : List (Option Value)} {rest : List Value} {k i j : Nat}
theorem sw_get (X : sv_X G K cc own nL d) (hv : sv_V G k i j) {ref C : String} {T : u_T} {N ci index : Nat} {fs : List Value} (he : sv_ent G M k i j = .inr (ci, fs)) (hc : vwCl[ci]? = some (C, T, N)) (hin : ∀ w ∈ u_ws C T N, w ∈ lw_g) (q : Nat) (hq : q < N) (hlink : Cond.fieldLink own index ref (T q).2.1 (T q).2.2.1 ∈ lw_g) (hr : ref = (T q).1) {v : Value} (hf : fs[q]? = some v)
    (hd : decode cc pc = .ok (.getfield index, 3)) (kk : sw_W G K nL (pc + 3) lo (v :: rest) M) : sw_W G K nL pc lo (.ref (sv_ad G k i j) :: rest) M := by
  intro H locs ls hP hS hL
  exact va_get X.1 X.2.1 X.2.2.2.2.1 hin (sv_X_own X) (sv_X_K X) hP (sv_off k i j) ((sv_cells_at hv).trans (by rw [he])) hc q hq (sv_X_word X hlink) (fun x hx => hr ▸ hx) hf hd (kk H locs ls hP hS hL)
theorem sw_getN (X : sv_X G K cc own nL d) (hv : sv_V G k i j) {ref C host : String} {T : u_T} {N ci index : Nat} {fs : List Value} (he : sv_ent G M k i j = .inr (ci, fs)) (hc : vwCl[ci]? = some (C, T, N)) (hin : ∀ w ∈ u_ws C T N, w ∈ lw_g) (q : Nat) (hq : q < N) (hlink : Cond.fieldLinkNest own index ref (T q).2.1 (T q).2.2.1 host ∈ lw_n) (hr : ref = (T q).1) {v : Value} (hf : fs[q]? = some v)
    (hd : decode cc pc = .ok (.getfield index, 3)) (kk : sw_W G K nL (pc + 3) lo (v :: rest) M) : sw_W G K nL pc lo (.ref (sv_ad G k i j) :: rest) M := by
  intro H locs ls hP hS hL
  exact va_getN X.1 X.2.1 X.2.2.2.2.1 hin (sv_X_own X) (sv_X_K X) hP (sv_off k i j) ((sv_cells_at hv).trans (by rw [he])) hc q hq (va_Nw.use rfl (sv_X_nest X hlink)) (fun x hx => hr ▸ hx) hf hd (kk H locs ls hP hS hL)
theorem sw_put (X : sv_X G K cc own nL d) (hv : sv_V G k i j) {ref C : String} {T : u_T} {N ci index : Nat} {fs : List Value} (he : sv_ent G M k i j = .inr (ci, fs)) (hc : vwCl[ci]? = some (C, T, N)) (hin : ∀ w ∈ u_ws C T N, w ∈ lw_g) (ty0 : Nat → FieldType) (hty : ∀ k, k < N → parseFieldDescriptor (T k).2.2.1 = some (ty0 k)) (hnm : ∀ a, a < N → ∀ b, b < N → a ≠ b → (T a).2.1 ≠ (T b).2.1)
    (q : Nat) (hq : q < N) (hlink : Cond.fieldLink own index ref (T q).2.1 (T q).2.2.1 ∈ lw_g) (hr : ref = (T q).1) (hfin : (T q).2.2.2 = false) {ty : FieldType} {x : Int32} (hdsc : parseFieldDescriptor (T q).2.2.1 = some ty) (hn : narrow ty (.int x) = .int x) (hfit : fits ty (.int x) = true) (hlen : q < fs.length) (he2 : sv_ent G (sv_up M i k j q x) k i j = .inr (ci, fs.set q (.int x)))
    (hd : decode cc pc = .ok (.putfield index, 3)) (kk : sw_W G K nL (pc + 3) lo rest (sv_up M i k j q x)) : sw_W G K nL pc lo (.int x :: .ref (sv_ad G k i j) :: rest) M := by
  intro H locs ls hP hS hL
  refine va_put X.1 X.2.1 X.2.2.2.2.1 hin ty0 hty hnm (sv_X_own X) (sv_X_K X) hP (sv_cells_D (sv_X_A X)) hS (sv_off k i j) ((sv_cells_at hv).trans (by rw [he])) hc q hq (sv_X_word X hlink) (fun x hx => hr ▸ hx) hfin hdsc hn hfit hlen hd (fun H1 locs1 hP1 _ hS1 => ?_)
  rw [← he2, sv_cells_set hv (sv_up_ne M i k j q x)] at hP1
  exact kk H1 locs1 ls hP1 hS1 hL
theorem sw_putN (X : sv_X G K cc own nL d) (hv : sv_V G k i j) {ref C host : String} {T : u_T} {N ci index : Nat} {fs : List Value} (he : sv_ent G M k i j = .inr (ci, fs)) (hc : vwCl[ci]? = some (C, T, N)) (hin : ∀ w ∈ u_ws C T N, w ∈ lw_g) (ty0 : Nat → FieldType) (hty : ∀ k, k < N → parseFieldDescriptor (T k).2.2.1 = some (ty0 k)) (hnm : ∀ a, a < N → ∀ b, b < N → a ≠ b → (T a).2.1 ≠ (T b).2.1)
    (q : Nat) (hq : q < N) (hlink : Cond.fieldLinkNest own index ref (T q).2.1 (T q).2.2.1 host ∈ lw_n) (hr : ref = (T q).1) (hfin : (T q).2.2.2 = false) {ty : FieldType} {x : Int32} (hdsc : parseFieldDescriptor (T q).2.2.1 = some ty) (hn : narrow ty (.int x) = .int x) (hfit : fits ty (.int x) = true) (hlen : q < fs.length) (he2 : sv_ent G (sv_up M i k j q x) k i j = .inr (ci, fs.set q (.int x)))
    (hd : decode cc pc = .ok (.putfield index, 3)) (kk : sw_W G K nL (pc + 3) lo rest (sv_up M i k j q x)) : sw_W G K nL pc lo (.int x :: .ref (sv_ad G k i j) :: rest) M := by
  intro H locs ls hP hS hL
  refine va_putN X.1 X.2.1 X.2.2.2.2.1 hin ty0 hty hnm (sv_X_own X) (sv_X_K X) hP (sv_cells_D (sv_X_A X)) hS (sv_off k i j) ((sv_cells_at hv).trans (by rw [he])) hc q hq (va_Nw.use rfl (sv_X_nest X hlink)) (fun x hx => hr ▸ hx) hfin hdsc hn hfit hlen hd (fun H1 locs1 hP1 _ hS1 => ?_)
  rw [← he2, sv_cells_set hv (sv_up_ne M i k j q x)] at hP1
  exact kk H1 locs1 ls hP1 hS1 hL
theorem sv_in {x : Int32} {n N : Nat} (hx : x = nI n) (hn : n < N) (hN : N ≤ 5000) : vp_in x N ∧ x.toNatClampNeg = n := by
  subst hx
  exact ⟨vp_in_nI hn (by omega), nI_clamp (by omega)⟩
theorem sw_iald (X : sv_X G K cc own nL d) (hv : sv_V G k i j) {N : Nat} (he : sv_ent G M k i j = .inl (sv_cI G, N, .inl (M i k j))) {x : Int32} {n : Nat} (hx : x = nI n) (hn : n < N) (hN : N ≤ 5000) (hd : decode cc pc = .ok (.iaload, 1))
    (kk : sw_W G K nL (pc + 1) lo (.int (M i k j n) :: rest) M) : sw_W G K nL pc lo (.int x :: .ref (sv_ad G k i j) :: rest) M := by
  intro H locs ls hP hS hL
  obtain ⟨h1, h2⟩ := sv_in hx hn hN
  refine va_iald X.1 X.2.1 (sv_X_K X) hP (sv_off k i j) 0 ((sv_cells_at hv).trans (by rw [he])) rfl h1 hd ?_
  rw [h2]
  exact kk H locs ls hP hS hL
theorem sw_cald (X : sv_X G K cc own nL d) (hv : sv_V G k i j) {N : Nat} (he : sv_ent G M k i j = .inl (sv_cC G, N, .inl (M i k j))) {x : Int32} {n : Nat} (hx : x = nI n) (hn : n < N) (hN : N ≤ 5000) (hd : decode cc pc = .ok (.caload, 1))
    (kk : sw_W G K nL (pc + 1) lo (.int (M i k j n) :: rest) M) : sw_W G K nL pc lo (.int x :: .ref (sv_ad G k i j) :: rest) M := by
  intro H locs ls hP hS hL
  obtain ⟨h1, h2⟩ := sv_in hx hn hN
  refine va_cald X.1 X.2.1 (sv_X_K X) hP (sv_off k i j) 1 ((sv_cells_at hv).trans (by rw [he])) rfl h1 hd ?_
  rw [h2]
  exact kk H locs ls hP hS hL
theorem sw_iast (X : sv_X G K cc own nL d) (hv : sv_V G k i j) {N : Nat} (he : ∀ M : sv_Mem, sv_ent G M k i j = .inl (sv_cI G, N, .inl (M i k j))) {x v : Int32} {n : Nat} (hx : x = nI n) (hn : n < N) (hN : N ≤ 5000) (hd : decode cc pc = .ok (.iastore, 1))
    (kk : sw_W G K nL (pc + 1) lo rest (sv_up M i k j n v)) : sw_W G K nL pc lo (.int v :: .int x :: .ref (sv_ad G k i j) :: rest) M := by
  intro H locs ls hP hS hL
  obtain ⟨h1, h2⟩ := sv_in hx hn hN
  refine va_iast X.1 X.2.1 (sv_X_K X) hP (sv_cells_D (sv_X_A X)) hS (sv_off k i j) 0 ((sv_cells_at hv).trans (by rw [he])) rfl h1 hd (fun H1 locs1 hP1 _ hS1 => ?_)
  rw [h2, show upd (M i k j) n v = sv_up M i k j n v i k j from (sv_up_at M i k j n v).symm, ← he, sv_cells_set hv (sv_up_ne M i k j n v)] at hP1
  exact kk H1 locs1 ls hP1 hS1 hL
theorem sw_cast (X : sv_X G K cc own nL d) (hv : sv_V G k i j) {N : Nat} (he : ∀ M : sv_Mem, sv_ent G M k i j = .inl (sv_cC G, N, .inl (M i k j))) {x v : Int32} {n : Nat} (hx : x = nI n) (hn : n < N) (hN : N ≤ 5000) (hvn : vp_nar .char v = v) (hd : decode cc pc = .ok (.castore, 1))
    (kk : sw_W G K nL (pc + 1) lo rest (sv_up M i k j n v)) : sw_W G K nL pc lo (.int v :: .int x :: .ref (sv_ad G k i j) :: rest) M := by
  intro H locs ls hP hS hL
  obtain ⟨h1, h2⟩ := sv_in hx hn hN
  refine va_cast X.1 X.2.1 (sv_X_K X) hP (sv_cells_D (sv_X_A X)) hS (sv_off k i j) 1 ((sv_cells_at hv).trans (by rw [he])) rfl h1 hd (fun H1 locs1 hP1 _ hS1 => ?_)
  rw [h2, hvn, show upd (M i k j) n v = sv_up M i k j n v i k j from (sv_up_at M i k j n v).symm, ← he, sv_cells_set hv (sv_up_ne M i k j n v)] at hP1
  exact kk H1 locs1 ls hP1 hS1 hL
/-- transactions[n] of a State -/
theorem sw_aaldT (X : sv_X G K cc own nL d) (hi : i < 8) {x : Int32} {n : Nat} (hx : x = nI n) (hn : n < 3) (hd : decode cc pc = .ok (.aaload, 1))
    (kk : sw_W G K nL (pc + 1) lo (.ref (sv_ad G 14 i n) :: rest) M) : sw_W G K nL pc lo (.int x :: .ref (sv_ad G 12 i 0) :: rest) M := by
  intro H locs ls hP hS hL
  obtain ⟨h1, h2⟩ := sv_in hx hn (by omega)
  refine va_aldq X.1 X.2.1 (sv_X_K X) hP (sv_off 12 i 0) 2 (C := "SavepointStore$Transaction") (cA := sv_cT G) (n := 3) (f := fun q => some (sv_ad G 14 i q)) (sv_cells_at (by omega)) rfl h1 hd ?_
  rw [h2]
  exact kk H locs ls hP hS hL
/-- history[n] of the store -/
theorem sw_aaldS (X : sv_X G K cc own nL d) {x : Int32} {n : Nat} (hx : x = nI n) (hn : n < 6) (hd : decode cc pc = .ok (.aaload, 1))
    (kk : sw_W G K nL (pc + 1) lo (.ref (sv_ad G 10 (n + 2) 0) :: rest) M) : sw_W G K nL pc lo (.int x :: .ref (sv_ad G 1 8 0) :: rest) M := by
  intro H locs ls hP hS hL
  obtain ⟨h1, h2⟩ := sv_in hx hn (by omega)
  refine va_aldq X.1 X.2.1 (sv_X_K X) hP (sv_off 1 8 0) 3 (C := "SavepointStore$State") (cA := sv_cS G) (n := 6) (f := fun q => some (sv_ad G 10 (q + 2) 0)) (sv_cells_at (by omega)) rfl h1 hd ?_
  rw [h2]
  exact kk H locs ls hP hS hL
/-- System.arraycopy between two rows of ints -/
theorem sw_copy (X : sv_X G K cc own nL d) {index : Nat} {i2 j2 : Nat} (hv : sv_V G k i j) (hv2 : sv_V G k i2 j2) {N : Nat} (he : ∀ (M : sv_Mem) (i j : Nat), sv_ent G M k i j = .inl (sv_cI G, N, .inl (M i k j))) {x : Int32} {n : Nat} (hx : x = nI n) (hn : n ≤ N) (hN : N ≤ 5000)
    (hlink : Cond.methodLink own index arraycopyName ∈ lw_g) (hnat : Cond.native arraycopyName ∈ lw_g) (hst : Cond.static arraycopyName ∈ lw_g) (hini : Cond.initialized "java/lang/System" ∈ lw_g) (hd1 : 1 ≤ d) (hrest : (rest.map fun v => v.category).sum ≤ 8) (hd : decode cc pc = .ok (.invokestatic index, 3))
    (kk : sw_W G K nL (pc + 3) lo rest (sv_upA M i2 k j2 (va_cpy (M i k j) (M i2 k j2) 0 0 n))) : sw_W G K nL pc lo (.int x :: .int (nI 0) :: .ref (sv_ad G k i2 j2) :: .int (nI 0) :: .ref (sv_ad G k i j) :: rest) M := by
  intro H locs ls hP hS hL
  obtain ⟨r1, r2, r3, r4⟩ := sv_X_R X
  have hxn : x.toNatClampNeg = n := by rw [hx]; exact nI_clamp (by omega)
  have h0 : (nI 0).toNatClampNeg = 0 := nI_clamp (by decide)
  refine va_copyi X.1 X.2.1 (X.2.2.1.trans hL.1.symm) (sv_X_own X) (sv_X_word X hlink) (sv_X_word X hnat) (sv_X_word X hst) (sv_X_word X hini) (sv_X_K X) hP (sv_cells_D (sv_X_A X)) hS (sv_off k i j) (sv_off k i2 j2) 0 0 (ty := .int)
    ((sv_cells_at hv).trans (by rw [he])) ((sv_cells_at hv2).trans (by rw [he])) rfl rfl rfl (by decide) (by decide) (by rw [hx]; exact nI_pos (by omega)) (by rw [h0, hxn]; omega) (by rw [h0, hxn]; omega) (fun _ _ => rfl) (by omega) ?_ hd (fun H1 locs1 hP1 _ hS1 => ?_)
  · have : nativeFrameWords "java/lang/System" "arraycopy" 5 + 11 ≤ 28 := by decide +kernel
    omega
  · rw [h0, hxn, show va_cpy (M i k j) (M i2 k j2) 0 0 n = sv_upA M i2 k j2 (va_cpy (M i k j) (M i2 k j2) 0 0 n) i2 k j2 from (sv_upA_at M i2 k j2 _).symm, ← he, sv_cells_set hv2 (sv_upA_ne M i2 k j2 _)] at hP1
    exact kk H1 locs1 ls hP1 hS1 hL
theorem sw_mmax (X : sv_X G K cc own nL d) {index : Nat} {x y : Int32} (hlink : Cond.methodLink own index Lib.Math.max.name ∈ lw_g) (hst : Cond.static Lib.Math.max.name ∈ lw_g) (hini : Cond.initialized "java/lang/Math" ∈ lw_g) (hcode : Cond.code Lib.Math.max.name Lib.Math.max.code 2 (some .int) ∈ lw_g) (hd1 : 1 ≤ d) (hrest : (rest.map fun v => v.category).sum ≤ 8) (hd : decode cc pc = .ok (.invokestatic index, 3))
    (kk : sw_W G K nL (pc + 3) lo (.int (if x < y then y else x) :: rest) M) : sw_W G K nL pc lo (.int y :: .int x :: rest) M := by
  intro H locs ls hP hS hL
  obtain ⟨r1, r2, r3, r4⟩ := sv_X_R X
  exact va_mmax X.1 X.2.1 (X.2.2.1.trans hL.1.symm) (sv_X_own X) (sv_X_word X hlink) (sv_X_word X hst) (sv_X_word X hini) (sv_X_word X hcode) (by omega) (by omega) r3 r4 hd (kk H locs ls hP hS hL)
theorem sw_mmin (X : sv_X G K cc own nL d) {index : Nat} {x y : Int32} (hlink : Cond.methodLink own index Lib.Math.min.name ∈ lw_g) (hst : Cond.static Lib.Math.min.name ∈ lw_g) (hini : Cond.initialized "java/lang/Math" ∈ lw_g) (hcode : Cond.code Lib.Math.min.name Lib.Math.min.code 2 (some .int) ∈ lw_g) (hd1 : 1 ≤ d) (hrest : (rest.map fun v => v.category).sum ≤ 8) (hd : decode cc pc = .ok (.invokestatic index, 3))
    (kk : sw_W G K nL (pc + 3) lo (.int (if y < x then y else x) :: rest) M) : sw_W G K nL pc lo (.int y :: .int x :: rest) M := by
  intro H locs ls hP hS hL
  obtain ⟨r1, r2, r3, r4⟩ := sv_X_R X
  exact va_mmin X.1 X.2.1 (X.2.2.1.trans hL.1.symm) (sv_X_own X) (sv_X_word X hlink) (sv_X_word X hst) (sv_X_word X hini) (sv_X_word X hcode) (by omega) (by omega) r3 r4 hd (kk H locs ls hP hS hL)
end SWM
section SWC
variable {G : sv_G} {K : sv_K} {cc : ByteArray} {own : String} {nL d : Nat} {M M1 : sv_Mem} {pc : Nat} {lo : List (Option Value)} {rest : List Value} {k i j : Nat}
/-- the words of a method that any caller needs -/
def sv_MW (m : sv_M) : Prop := Cond.code m.1 m.2.1 m.2.2.1 m.2.2.2 ∈ lw_g ∧ Cond.initialized m.1.cls ∈ lw_g ∧ m.2.2.1 ≤ 17 ∧ (m.1.cls ≠ "java/lang/invoke/MethodHandle" ∧ m.1.cls ≠ "java/lang/invoke/VarHandle")
theorem sv_good {m : sv_M} (h : sv_MW m) : GoodIn lw_g (sv_ws m) := by
  intro w hw
  rcases List.mem_cons.mp hw with rfl | hw
  · exact ⟨h.1, good_of_word (List.mem_filter.mp h.1).2⟩
  · exact ⟨hw, good_of_word (List.mem_filter.mp hw).2⟩
theorem sv_blind {G : sv_G} {args : List Value} {M : sv_Mem} : FrameBlind (sv_Pc G args M) := fun a U g mk q => ⟨q.1, q.2.1, va_K.moved (u := U) (U := U.calling g mk a) (Vm.Alike.refl U.vm) q.2.2.1, fun w hw => va_Nw.same (u := U) (U := U.calling g mk a) (by have h2 := (List.mem_filter.mp hw).2; cases w <;> first | rfl | (simp [lw_nest] at h2)) rfl (q.2.2.2 w hw)⟩
theorem sw_run (X : sv_X G K cc own nL d) {st : List Value} {ret : Option Value} {a : Array Value} (hr : ∀ H locs ls, va_P G.2.2.1 vwCl (sv_cells G M) H → sv_L ls nL lo → va_Run (kp K) G.1 (ke K) (kR K) (ks K) (km K) (kargs K) (kbelow K) (kmeth K) (kc K) H locs (kcells K) (kslots K) 0 0 (F0 (km K) pc ls st) rest (sv_Qc G ret M1 a) (fun q => G.2.1 ≤ q))
    (kk : sw_W G K nL (pc + 3) lo (ret.toList ++ rest) M1) : sw_W G K nL pc lo st M := by
  intro H locs ls hP hS hL T hT XX
  obtain ⟨v, st₀, t, T', L, h0, X', hLf, e1, e2, ⟨hv, hp, hz, hk⟩, stp⟩ := hr H locs ls hP hL T hT XX
  cases hv
  rw [h0] at hz hk
  obtain ⟨t2, a1, b1⟩ := kk T'.heap (locs ++ L) ls (by rw [e1]; exact hp) ⟨Nat.le_trans hS.1 (by rw [e1]; exact hz), fun q h1 h2 => by rw [e1, hk q (Nat.lt_of_lt_of_le h1 hS.1) (fun z => h2 (sv_X_A X q z))]; exact hS.2.1 q h1 h2, fun q hq => by
      rcases List.mem_append.mp hq with h | h
      · exact hS.2.2 q h
      · exact sv_X_A X _ (hLf q h)⟩ hL T' rfl X'
  exact ⟨t2, stp t2 a1, b1⟩
theorem sv_pre (X : sv_X G K cc own nL d) {H : Heap} {as : List Value} (hP : va_P G.2.2.1 vwCl (sv_cells G M) H) : ∀ U : State, U.heap = H → (ks K).WarmedH U.vm → sv_Pc G as M as.toArray U := fun U hU hW => ⟨rfl, by rw [hU]; exact hP, va_K.moved hW.alike (sv_X_K X), sv_Nw_warm hW X.2.2.2.2.2.2.2.2.2.2.2⟩
variable {m : sv_M} {d2 n index : Nat} {As : List Value} {ret : Option Value} {ci : Nat} {r : vw_C} {fs : List Value}
theorem sv_cnt (h : (parseMethodDescriptor m.1.desc).map (fun q => q.parameters.length) = some n) : ∀ sig, parseMethodDescriptor m.1.desc = some sig → n = sig.parameters.length := by
  intro sig h2
  rw [h2] at h
  exact (Option.some.inj h).symm
theorem sv_fit (X : sv_X G K cc own nL d) (h : sv_MW m) (hdd : d2 + 1 ≤ d) : (sv_room d2).frames + 1 ≤ (kR K).frames ∧ 8 + (m.2.2.1 + 11) + (sv_room d2).locals ≤ (kR K).locals := by
  obtain ⟨r1, r2, r3, r4⟩ := sv_X_R X
  obtain ⟨-, -, h3, -⟩ := h
  unfold sv_room
  constructor
  · show d2 + 1 ≤ _
    omega
  · show 8 + (m.2.2.1 + 11) + 36 * d2 ≤ _
    omega
theorem sv_B (X : sv_X G K cc own nL d) (hm : sv_MW m) (hn : (parseMethodDescriptor m.1.desc).map (fun q => q.parameters.length) = some n) (hl : Cond.methodLink own index m.1 ∈ lw_g) (hdd : d2 + 1 ≤ d) : CallB (kR K) (ks K) (kargs K) own index m.1 m.2.1 m.2.2.1 m.2.2.2 (sv_ws m) (sv_room d2) 0 0 n :=
  callB_of (ws' := lw_g) n X.2.2.2.2.1 (sv_good hm) rfl rfl rfl (sv_X_word X hm.2.1) (sv_X_word X hl) ⟨hm.2.2.2.1, hm.2.2.2.2, hn⟩ (sv_fit X hm hdd)
theorem sv_N (X : sv_X G K cc own nL d) {host : String} (hm : sv_MW m) (hn : (parseMethodDescriptor m.1.desc).map (fun q => q.parameters.length) = some n) (hl : Cond.methodLinkNest own index m.1 host ∈ lw_n) (hdd : d2 + 1 ≤ d) : va_CN (kR K) (ks K) (kargs K) own index m.1 host m.2.1 m.2.2.1 m.2.2.2 (sv_ws m) (sv_room d2) 0 0 n :=
  ⟨⟨rfl, rfl, (sv_fit X hm hdd).1, (sv_fit X hm hdd).2, pay_in X.2.2.2.2.1 (sv_good hm), List.mem_cons_self⟩, sv_X_word X hm.1, sv_X_word X hm.2.1, hm.2.2.2, sv_cnt hn, va_Nw.use rfl (sv_X_nest X hl)⟩
/-- invokevirtual of a method of the receiver's own class -/
theorem sw_callV (X : sv_X G K cc own nL d) (hm : sv_MW m) (hv : sv_V G k i j) (he : sv_ent G M k i j = .inr (ci, fs)) (hc : vwCl[ci]? = some r) (hrc : r.1 = m.1.cls) (hn : (parseMethodDescriptor m.1.desc).map (fun q => q.parameters.length) = some n) (hAs : As.length = n) (hl : Cond.methodLink own index m.1 ∈ lw_g) (hin : Cond.instanceMethod m.1 ∈ lw_g) (hse : Cond.selects m.1.cls m.1 m.1 ∈ lw_g) (hdd : d2 + 1 ≤ d)
    (hd : decode cc pc = .ok (.invokevirtual index, 3)) (hw : (rest.map fun v => v.category).sum ≤ 8) {st : List Value} (hst : st = As.reverse ++ .ref (sv_ad G k i j) :: rest) (hM : sv_Ct G m d2 (.ref (sv_ad G k i j) :: As) M ret M1) (kk : sw_W G K nL (pc + 3) lo (ret.toList ++ rest) M1) : sw_W G K nL pc lo st M := by
  refine sw_run X (fun H locs ls hP hL => va_runV (As := As) (rest := rest) (C := m.1.cls) ⟨X.1, X.2.1, X.2.2.1, sv_X_own X, X.2.2.2.2.1⟩ hM ⟨sv_B X hm hn hl hdd, sv_X_word X hin, sv_X_word X hse⟩ ⟨sv_blind, ?_, sv_pre X hP⟩ rfl hAs hL.1 hst (lv_room hw) hd ⟨(sv_X_R X).2.2.1, (sv_X_R X).2.2.2⟩) kk
  rw [← hrc]
  exact va_recv (sv_X_K X) hP (q0 := sv_off k i j) hc ((sv_cells_at hv).trans (by rw [he]))
theorem sw_callVN (X : sv_X G K cc own nL d) {host : String} (hm : sv_MW m) (hv : sv_V G k i j) (he : sv_ent G M k i j = .inr (ci, fs)) (hc : vwCl[ci]? = some r) (hrc : r.1 = m.1.cls) (hn : (parseMethodDescriptor m.1.desc).map (fun q => q.parameters.length) = some n) (hAs : As.length = n) (hl : Cond.methodLinkNest own index m.1 host ∈ lw_n) (hin : Cond.instanceMethod m.1 ∈ lw_g) (hse : Cond.selects m.1.cls m.1 m.1 ∈ lw_g) (hdd : d2 + 1 ≤ d)
    (hd : decode cc pc = .ok (.invokevirtual index, 3)) (hw : (rest.map fun v => v.category).sum ≤ 8) {st : List Value} (hst : st = As.reverse ++ .ref (sv_ad G k i j) :: rest) (hM : sv_Ct G m d2 (.ref (sv_ad G k i j) :: As) M ret M1) (kk : sw_W G K nL (pc + 3) lo (ret.toList ++ rest) M1) : sw_W G K nL pc lo st M := by
  refine sw_run X (fun H locs ls hP hL => va_runVN (As := As) (rest := rest) (C := m.1.cls) ⟨X.1, X.2.1, X.2.2.1, sv_X_own X, X.2.2.2.2.1⟩ hM ⟨sv_N X hm hn hl hdd, sv_X_word X hin, sv_X_word X hse⟩ ⟨sv_blind, ?_, sv_pre X hP⟩ rfl hAs hL.1 hst (lv_room hw) hd ⟨(sv_X_R X).2.2.1, (sv_X_R X).2.2.2⟩) kk
  rw [← hrc]
  exact va_recv (sv_X_K X) hP (q0 := sv_off k i j) hc ((sv_cells_at hv).trans (by rw [he]))
theorem sw_callS (X : sv_X G K cc own nL d) (hm : sv_MW m) (hn : (parseMethodDescriptor m.1.desc).map (fun q => q.parameters.length) = some n) (hAs : As.length = n) (hl : Cond.methodLink own index m.1 ∈ lw_g) (hs : Cond.static m.1 ∈ lw_g) (hdd : d2 + 1 ≤ d)
    (hd : decode cc pc = .ok (.invokestatic index, 3)) (hw : (rest.map fun v => v.category).sum ≤ 8) {st : List Value} (hst : st = As.reverse ++ rest) (hM : sv_Ct G m d2 As M ret M1) (kk : sw_W G K nL (pc + 3) lo (ret.toList ++ rest) M1) : sw_W G K nL pc lo st M :=
  sw_run X (fun H locs ls hP hL => va_runS (As := As) (rest := rest) ⟨X.1, X.2.1, X.2.2.1, sv_X_own X, X.2.2.2.2.1⟩ hM ⟨sv_B X hm hn hl hdd, sv_X_word X hs⟩ ⟨sv_blind, sv_pre X hP⟩ rfl hAs hL.1 hst (lv_room hw) hd ⟨(sv_X_R X).2.2.1, (sv_X_R X).2.2.2⟩) kk
theorem sw_callSN (X : sv_X G K cc own nL d) {host : String} (hm : sv_MW m) (hn : (parseMethodDescriptor m.1.desc).map (fun q => q.parameters.length) = some n) (hAs : As.length = n) (hl : Cond.methodLinkNest own index m.1 host ∈ lw_n) (hs : Cond.static m.1 ∈ lw_g) (hdd : d2 + 1 ≤ d)
    (hd : decode cc pc = .ok (.invokestatic index, 3)) (hw : (rest.map fun v => v.category).sum ≤ 8) {st : List Value} (hst : st = As.reverse ++ rest) (hM : sv_Ct G m d2 As M ret M1) (kk : sw_W G K nL (pc + 3) lo (ret.toList ++ rest) M1) : sw_W G K nL pc lo st M :=
  sw_run X (fun H locs ls hP hL => va_runSN (As := As) (rest := rest) ⟨X.1, X.2.1, X.2.2.1, sv_X_own X, X.2.2.2.2.1⟩ hM ⟨sv_N X hm hn hl hdd, sv_X_word X hs, trivial⟩ ⟨sv_blind, sv_pre X hP⟩ rfl hAs hL.1 hst (lv_room hw) hd ⟨(sv_X_R X).2.2.1, (sv_X_R X).2.2.2⟩) kk
end SWC
section SWR
variable {G : sv_G} {K : sv_K} {cc : ByteArray} {own : String} {nL d : Nat} {M M1 : sv_Mem} {pc : Nat} {lo : List (Option Value)} {ret : Option Value}
theorem sv_post {rt : Option FieldType} (Y : sv_Y G K rt ret M1) {H : Heap} {locs : List Loc} (hM : M1 = M) (hP : va_P G.2.2.1 vwCl (sv_cells G M) H) (hS : va_S (kA K) (kH K) H locs) {v : Option Value} (hr : ret = v) : ∀ t : State, t.heap = H → (ks K).WarmedH t.vm → sv_Qc G ret M1 (kargs K) (ks K) (.returned v) t := by
  intro t ht hW
  obtain ⟨-, -, -, hH, hA⟩ := Y
  rw [hH, hA] at hS
  subst hM
  exact ⟨by rw [hr], by rw [ht]; exact hP, va_S.F hS ht⟩
theorem sv_free {rt : Option FieldType} (Y : sv_Y G K rt ret M1) {H : Heap} {locs : List Loc} (hS : va_S (kA K) (kH K) H locs) : ∀ q ∈ locs, G.2.1 ≤ q.base := by
  obtain ⟨-, -, -, hH, hA⟩ := Y
  rw [hA] at hS
  exact hS.2.2
theorem sw_iret (X : sv_X G K cc own nL d) (Y : sv_Y G K (some .int) ret M1) {v : Int32} (hd : decode cc pc = .ok (.ireturn, 1)) (hr : ret = some (.int v)) (hM : M1 = M) : sw_W G K nL pc lo [.int v] M := by
  intro H locs ls hP hS hL
  rw [Y.1]
  exact W.iret X.1 X.2.1 Y.2.1 (sv_post Y hM hP hS hr) (sv_free Y hS) hd Y.2.2.1
theorem sw_zret (X : sv_X G K cc own nL d) {ty : FieldType} (Y : sv_Y G K (some ty) ret M1) {v : Int32} (hd : decode cc pc = .ok (.ireturn, 1)) (hn : narrow ty (.int v) = .int v) (hr : ret = some (.int v)) (hM : M1 = M) : sw_W G K nL pc lo [.int v] M := by
  intro H locs ls hP hS hL
  rw [Y.1]
  exact W.zret X.1 X.2.1 Y.2.1 hn (sv_post Y hM hP hS hr) (sv_free Y hS) hd Y.2.2.1
theorem sw_vret (X : sv_X G K cc own nL d) (Y : sv_Y G K none ret M1) (hd : decode cc pc = .ok (.return_, 1)) (hr : ret = none) (hM : M1 = M) : sw_W G K nL pc lo [] M := by
  intro H locs ls hP hS hL
  rw [Y.1]
  exact W.vret X.1 X.2.1 Y.2.1 (sv_post Y hM hP hS hr) (sv_free Y hS) hd Y.2.2.1
theorem sw_dret (X : sv_X G K cc own nL d) (Y : sv_Y G K (some .double) ret M1) {v : UInt64} (hd : decode cc pc = .ok (.dreturn, 1)) (hr : ret = some (.double v)) (hM : M1 = M) : sw_W G K nL pc lo [.double v] M := by
  intro H locs ls hP hS hL
  rw [Y.1]
  exact W.dret X.1 X.2.1 Y.2.1 (sv_post Y hM hP hS hr) (sv_free Y hS) hd Y.2.2.1
/-- all arguments of one slot -/
def sv_cat1 (vs : List Value) : Bool := vs.all (fun v => match v with
  | .double _ => false
  | .long _ => false
  | _ => true)
theorem sv_sl1 : ∀ {vs : List Value}, sv_cat1 vs = true → lg_sl vs = vs.map Slot.val
  | [], _ => rfl
  | v :: vs, h => by
    have h2 : sv_cat1 vs = true := by
      unfold sv_cat1 at h ⊢
      rw [List.all_cons] at h
      exact (Bool.and_eq_true_iff.mp h).2
    have h1 : ¬ v.category = 2 := by
      intro hc
      unfold sv_cat1 at h
      rw [List.all_cons] at h
      have := (Bool.and_eq_true_iff.mp h).1
      cases v <;> simp [Value.category] at hc this
    have e : lg_sl (v :: vs) = (if v.category = 2 then [.val v, .second] else [.val v]) ++ lg_sl vs := rfl
    rw [e, if_neg h1, sv_sl1 h2]
    rfl
theorem sv_entry {vs : List Value} {nL : Nat} {lo : List (Option Value)} (h1 : sv_cat1 vs = true) (hn : vs.length ≤ nL) (hlo : vs.map some ++ List.replicate (nL - vs.length) none = lo) : sv_L ((lg_sl vs ++ List.replicate (nL - (lg_sl vs).length) Slot.unset).toArray) nL lo := by
  have e := sv_sl1 h1
  have el : (lg_sl vs).length = vs.length := by rw [e, List.length_map]
  obtain ⟨a, b, -⟩ := lv_entry vs (n := nL) (by rw [el]; exact hn)
  refine ⟨a, b, by rw [← hlo]; simp; omega, fun q v hq => ?_⟩
  rw [← hlo] at hq
  rw [List.getElem?_toArray]
  by_cases hl : q < vs.length
  · rw [List.getElem?_append_left (by rw [List.length_map]; exact hl), List.getElem?_map] at hq
    rw [List.getElem?_append_left (by rw [el]; exact hl), e, List.getElem?_map]
    cases hz : vs[q]? with
    | none => rw [hz] at hq; cases hq
    | some w =>
      rw [hz] at hq
      simp only [Option.map_some, Option.some.injEq] at hq
      rw [hq]
      rfl
  · rw [List.getElem?_append_right (by rw [List.length_map]; omega)] at hq
    have := List.mem_of_getElem? hq
    rw [List.mem_replicate] at this
    cases this.2
/-- a method's contract, out of the walk of its body -/
theorem sv_Ct_of {m : sv_M} {d : Nat} {vs : List Value} {lo : List (Option Value)} (hp : plainName m.1.cls = true) (h1 : sv_cat1 vs = true) (hn : vs.length ≤ m.2.2.1) (hlo : vs.map some ++ List.replicate (m.2.2.1 - vs.length) none = lo)
    (body : ∀ K : sv_K, sv_X G K m.2.1 m.1.cls m.2.2.1 d → sv_Y G K m.2.2.2 ret M1 → sw_W G K m.2.2.1 0 lo [] M) : sv_Ct G m d vs M ret M1 := by
  refine Met.ofW (cc := m.2.1) (maxL := m.2.2.1) (ret := m.2.2.2) (ws' := lw_g) hp rfl ?_
  intro p e s mm args below meth c s₁ B hml hv
  obtain ⟨rfl, hP, hK, hN⟩ := hv
  have hts := atoms_spec (ws := sv_ws m) B.pre
  have hown : s.vm.findClass m.1.cls = some mm.cls := findClass_of_methodNamed B.named
  have hb := body (p, e, (headSpec (sv_ws m) (sv_room d)).room, s, mm, vs.toArray, below, meth, c, s.heap, (fun q => G.2.1 ≤ q), 0, 0, MQ below (sv_Qc G ret M1) vs.toArray s 0 0 (fun q => G.2.1 ≤ q))
    ⟨B.exec, B.bytes, hml, hown, fun w hw => hts w (List.mem_cons_of_mem _ hw), hK, fun q h => h, Nat.le_refl _, Nat.le_refl _, Nat.zero_le _, Nat.zero_le _, hN⟩ ⟨rfl, B.returns, B.notSynchronized, rfl, rfl⟩
  rw [lg_entry_eq]
  exact hb s.heap [] _ hP va_S.rf (sv_entry h1 hn hlo)
end SWR
