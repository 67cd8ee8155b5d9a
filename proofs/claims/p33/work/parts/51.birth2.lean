theorem sv_seg_app (G : sv_G) (M : sv_Mem) (lo n m : Nat) : sv_seg G M lo n ++ sv_seg G M (lo + n) m = sv_seg G M lo (n + m) := by
  unfold sv_seg
  rw [List.range_add, List.map_append, List.map_map]
  congr 1
  apply List.map_congr_left
  intro a _
  simp only [Function.comp, Nat.add_assoc]
theorem sv_seg_nil (G : sv_G) (M : sv_Mem) (lo : Nat) : sv_seg G M lo 0 = [] := rfl
theorem sv_dec_at {k i j o : Nat} (h : sv_V0 k i j) (e : o = sv_off k i j) : sv_dec o = (k, i, j) := by
  rw [e]
  exact (of_decide_eq_true (List.all_eq_true.mp (List.all_eq_true.mp (List.all_eq_true.mp sv_off_fin k (List.mem_range.mpr (by omega))) i (List.mem_range.mpr (by omega))) j (List.mem_range.mpr (by omega))) h).2.1
/-- worlds with the same cells, in another order -/
theorem sb_nodup {A : Nat → Prop} {ws : va_W} (h : va_D A ws) : (ws.map Prod.fst).Nodup := by
  rw [List.nodup_iff_pairwise_ne, List.pairwise_iff_getElem]
  intro i j hi hj hij e
  rw [List.getElem_map, List.getElem_map] at e
  rw [List.length_map] at hi hj
  have := h.1 i j _ _ (List.getElem?_eq_getElem hi) (List.getElem?_eq_getElem hj) e
  omega
theorem sb_of_nodup {A : Nat → Prop} {ws : va_W} (h : (ws.map Prod.fst).Nodup) (hA : ∀ q ∈ ws, A q.1) : va_D A ws := by
  refine ⟨fun i j p q hp hq e => ?_, fun k q hk => hA q (List.mem_of_getElem? hk)⟩
  rw [List.nodup_iff_pairwise_ne, List.pairwise_iff_getElem] at h
  obtain ⟨hi, ei⟩ := List.getElem?_eq_some_iff.mp hp
  obtain ⟨hj, ej⟩ := List.getElem?_eq_some_iff.mp hq
  have key : ∀ a b : Nat, ∀ ha : a < ws.length, ∀ hb : b < ws.length, a < b → ws[a].1 ≠ ws[b].1 := by
    intro a b ha hb hab
    have := h a b (by rw [List.length_map]; exact ha) (by rw [List.length_map]; exact hb) hab
    rwa [List.getElem_map, List.getElem_map] at this
  rcases Nat.lt_trichotomy i j with g | g | g
  · exact absurd (by rw [ei, ej]; exact e) (key i j hi hj g)
  · exact g
  · exact absurd (by rw [ei, ej]; exact e.symm) (key j i hj hi g)
theorem sb_D_perm {A : Nat → Prop} {ws ws2 : va_W} (h : va_D A ws) (hp : ws.Perm ws2) : va_D A ws2 := by
  refine sb_of_nodup ((hp.map Prod.fst).nodup_iff.mp (sb_nodup h)) (fun q hq => ?_)
  obtain ⟨k, hk⟩ := List.getElem?_of_mem (hp.symm.subset hq)
  exact h.2 k q hk
theorem sb_P_perm {D : va_G} {cl : List vw_C} {ws ws2 : va_W} {H : Heap} (h : va_P D cl ws H) (hp : ws.Perm ws2) : va_P D cl ws2 H := by
  intro k q hk
  obtain ⟨k2, hk2⟩ := List.getElem?_of_mem (hp.symm.subset (List.mem_of_getElem? hk))
  exact h k2 q hk2
/-- a constructor's contract: the object at b is new; behind it stand the cells that it makes -/
def sb_Pc (G : sv_G) (b : Nat) (e0 : va_E) : Array Value → State → Prop := va_Pc [.ref (G.2.1 + b)] (fun U => U.heap.size = G.2.1 + b + 1 ∧ va_P G.2.2.1 vwCl [(G.2.1 + b, e0)] U.heap ∧ va_K G.2.2.1 vwCl (sv_tys G) U ∧ sv_Nw U ∧ va_AO sb_TT U ∧ va_AO sb_SS U)
def sb_Qc (G : sv_G) (b N : Nat) (M : sv_Mem) : Array Value → State → Outcome → State → Prop := fun _ st oc t => oc = .returned none ∧ t.heap.size = G.2.1 + b + N ∧ va_P G.2.2.1 vwCl (sv_seg G M b N) t.heap ∧ va_F (fun q => G.2.1 + b ≤ q) st t
def sb_room (d N sl : Nat) : Room := { frames := d, cells := N - 1, slots := sl, locals := 36 * d }
def sb_Ct (G : sv_G) (m : sv_M) (d b : Nat) (e0 : va_E) (N sl : Nat) (M : sv_Mem) : Prop := Met G.1 m.1 (sv_ws m) (sb_room d N sl) (sb_Pc G b e0) (sb_Qc G b N M) (N - 1) sl (fun q => G.2.1 + b ≤ q)
def sb_Y (G : sv_G) (K : sv_K) (b N : Nat) (M : sv_Mem) : Prop :=
  kQ K = MQ (kbelow K) (sb_Qc G b N M) (kargs K) (ks K) (kcells K) (kslots K) (fun q => G.2.1 + b ≤ q) ∧ (kmeth K).sig.returnType = none ∧ (kmeth K).locks = false ∧ kH K = (ks K).heap ∧ kA K = (fun q => G.2.1 + b ≤ q)
theorem sb_blind {G : sv_G} {b : Nat} {e0 : va_E} : FrameBlind (sb_Pc G b e0) := fun a U g mk q => ⟨q.1, q.2.1, q.2.2.1, va_K.moved (u := U) (U := U.calling g mk a) (Vm.Alike.refl U.vm) q.2.2.2.1, fun w hw => va_Nw.same (u := U) (U := U.calling g mk a) (by have h2 := (List.mem_filter.mp hw).2; cases w <;> first | rfl | (simp [lw_nest] at h2)) rfl (q.2.2.2.2.1 w hw), va_AO.moved (u := U) (U := U.calling g mk a) (Vm.Alike.refl U.vm) q.2.2.2.2.2.1, va_AO.moved (u := U) (U := U.calling g mk a) (Vm.Alike.refl U.vm) q.2.2.2.2.2.2⟩
section SBC
variable {G : sv_G} {K : sv_K} {cc : ByteArray} {own : String} {nL d : Nat} {pc : Nat} {lo : List (Option Value)} {rest : List Value} {ws : va_W} {h k n : Nat} {M : sv_Mem}
theorem sb_run (X : sb_X G K cc own nL d) {b N sl : Nat} {e0 : va_E} {st : List Value} {a : Array Value} (hb : h = G.2.1 + b) (hA : (kH K).size ≤ h) (hN : 1 ≤ N)
    (hr : ∀ H locs ls, va_P G.2.2.1 vwCl (ws ++ [(h, e0)]) H → H.size = h + 1 → sv_L ls nL lo → va_Run (kp K) G.1 (ke K) (kR K) (ks K) (km K) (kargs K) (kbelow K) (kmeth K) (kc K) H locs k n (N - 1) sl (F0 (km K) pc ls st) rest (sb_Qc G b N M a) (fun q => G.2.1 + b ≤ q))
    (kk : sb_W G K nL (pc + 3) lo rest (ws ++ sv_seg G M b N) (h + N) (k + (N - 1)) (n + sl)) : sb_W G K nL pc lo st (ws ++ [(h, e0)]) (h + 1) k n := by
  intro H locs ls hP hD hz hS hL T hT XX
  obtain ⟨v, st₀, t, T', L, h0, X', hLf, e1, e2, ⟨hv, hsz, hp, hzz, hk⟩, stp⟩ := hr H locs ls hP hz hL T hT XX
  cases hv
  rw [h0] at hzz hk
  have hlt : ∀ (i : Nat) (q : Nat × va_E), ws[i]? = some q → q.1 < h := by
    intro i q hq
    have hl := (List.getElem?_eq_some_iff.mp hq).1
    have hq2 : (ws ++ [(h, e0)])[i]? = some q := by rw [List.getElem?_append_left hl]; exact hq
    have hx : (ws ++ [(h, e0)])[ws.length]? = some (h, e0) := by rw [List.getElem?_append_right (Nat.le_refl _), Nat.sub_self]; rfl
    have h1 := (hP i q hq2).lt
    have h2 : q.1 ≠ h := fun e => by have := hD.1 i ws.length q (h, e0) hq2 hx e; omega
    omega
  have hws : va_D (kA K) ws := ⟨fun i j p q hp hq e => hD.1 i j p q (by rw [List.getElem?_append_left (List.getElem?_eq_some_iff.mp hp).1]; exact hp) (by rw [List.getElem?_append_left (List.getElem?_eq_some_iff.mp hq).1]; exact hq) e, fun i q hq => hD.2 i q (by rw [List.getElem?_append_left (List.getElem?_eq_some_iff.mp hq).1]; exact hq)⟩
  obtain ⟨t2, a1, b1⟩ := kk T'.heap (locs ++ L) ls
    (va_P.app (va_P.kept (H := H) (fun i q hq => hP i q (by rw [List.getElem?_append_left (List.getElem?_eq_some_iff.mp hq).1]; exact hq)) (fun i q hq => by
      have h1 := hlt i q hq
      rw [e1]
      exact hk q.1 (by omega) (by omega))) (by rw [e1]; exact hp))
    (hws.app (sv_seg_D (fun q hq => sb_A X q (by omega))) (fun i j p q hp hq e => by
      have h1 := hlt i p hp
      rw [(sv_seg_get hq).2] at e
      have e : p.1 = G.2.1 + (b + j) := e
      omega))
    (by rw [e1, hsz]; omega)
    ⟨by rw [e1, hsz]; omega, fun q h1 h2 => by
      rw [e1, hk q (by omega) (by omega)]
      exact hS.2.1 q h1 h2, fun q hq => by
      rcases List.mem_append.mp hq with g | g
      · exact hS.2.2 q g
      · exact sb_A X _ (by have := hLf q g; omega)⟩ hL T' rfl X'
  exact ⟨t2, stp t2 a1, b1⟩
theorem sb_pre (X : sb_X G K cc own nL d) {b : Nat} {e0 : va_E} {H : Heap} (hb : h = G.2.1 + b) (hP : va_P G.2.2.1 vwCl (ws ++ [(h, e0)]) H) (hz : H.size = h + 1) : ∀ U : State, U.heap = H → (ks K).WarmedH U.vm → sb_Pc G b e0 [Value.ref h].toArray U := by
  intro U hU hW
  subst hb
  refine ⟨rfl, by rw [hU]; exact hz, ?_, va_K.moved hW.alike (sb_K X), sv_Nw_warm hW (sb_nw X), va_AO.moved hW.alike (sb_aoT X), va_AO.moved hW.alike (sb_aoS X)⟩
  rw [hU]
  intro i q hq
  have hx : (ws ++ [(G.2.1 + b, e0)])[ws.length]? = some (G.2.1 + b, e0) := by rw [List.getElem?_append_right (Nat.le_refl _), Nat.sub_self]; rfl
  have hi : i < 1 := (List.getElem?_eq_some_iff.mp hq).1
  rw [show i = 0 by omega] at hq
  cases hq
  exact hP _ _ hx
variable {m : sv_M} {d2 index b N sl : Nat} {e0 : va_E}
theorem sb_fit (X : sb_X G K cc own nL d) (hm : sv_MW m) (hdd : d2 + 1 ≤ d) : (sb_room d2 N sl).frames + 1 ≤ (kR K).frames ∧ 8 + (m.2.2.1 + 11) + (sb_room d2 N sl).locals ≤ (kR K).locals := by
  obtain ⟨⟨r0, r1⟩, r2, r3⟩ := sb_fr X
  obtain ⟨-, -, h3, -⟩ := hm
  unfold sb_room
  constructor
  · show d2 + 1 ≤ _
    omega
  · show 8 + (m.2.2.1 + 11) + 36 * d2 ≤ _
    omega
/-- new T(..): the nest mate's, or another class's, constructor without parameters -/
theorem sb_callN (X : sb_X G K cc own nL d) {host : String} (hm : sv_MW m) (hy : m.1.name = "<init>") (hr : m.2.2.2 = none) (hn : (parseMethodDescriptor m.1.desc).map (fun q => q.parameters.length) = some 0) (hl : Cond.methodLinkNest own index m.1 host ∈ lw_n) (hin : Cond.instanceMethod m.1 ∈ lw_g) (hdd : d2 + 1 ≤ d)
    (hd : decode cc pc = .ok (.invokespecial index, 3)) (hw : (rest.map fun v => v.category).sum ≤ 8) (hM : sb_Ct G m d2 b e0 N sl M) (hb : h = G.2.1 + b) (hA : (kH K).size ≤ h) (hN : 1 ≤ N) (hk : k + (N - 1) ≤ kcells K) (hn2 : n + sl ≤ kslots K)
    (kk : sb_W G K nL (pc + 3) lo rest (ws ++ sv_seg G M b N) (h + N) (k + (N - 1)) (n + sl)) : sb_W G K nL pc lo (.ref h :: rest) (ws ++ [(h, e0)]) (h + 1) k n := by
  obtain ⟨mn, mc, ml, mr⟩ := m
  cases hr
  exact sb_run X hb hA hN (fun H locs ls hP hz hL => va_runIN (As := []) (rest := rest) ⟨X.1, X.2.1, X.2.2.1, sb_own X, sb_words X⟩ hM ⟨⟨⟨rfl, rfl, (sb_fit X hm hdd).1, (sb_fit X hm hdd).2, pay_in (sb_words X) (sv_good hm), List.mem_cons_self⟩, sb_word X hm.1, sb_word X hm.2.1, hm.2.2.2, sv_cnt (m := (mn, mc, ml, none)) hn, va_Nw.use rfl (sb_nw X _ hl)⟩, hy, sb_word X hin⟩ ⟨sb_blind, sb_pre X hb hP hz⟩ rfl rfl hL.1 rfl (lv_room hw) hd ⟨Nat.le_trans hk (sb_cells X), Nat.le_trans hn2 (sb_slots X)⟩) kk
theorem sb_callI (X : sb_X G K cc own nL d) (hm : sv_MW m) (hy : m.1.name = "<init>") (hr : m.2.2.2 = none) (hn : (parseMethodDescriptor m.1.desc).map (fun q => q.parameters.length) = some 0) (hl : Cond.methodLink own index m.1 ∈ lw_g) (hin : Cond.instanceMethod m.1 ∈ lw_g) (hdd : d2 + 1 ≤ d)
    (hd : decode cc pc = .ok (.invokespecial index, 3)) (hw : (rest.map fun v => v.category).sum ≤ 8) (hM : sb_Ct G m d2 b e0 N sl M) (hb : h = G.2.1 + b) (hA : (kH K).size ≤ h) (hN : 1 ≤ N) (hk : k + (N - 1) ≤ kcells K) (hn2 : n + sl ≤ kslots K)
    (kk : sb_W G K nL (pc + 3) lo rest (ws ++ sv_seg G M b N) (h + N) (k + (N - 1)) (n + sl)) : sb_W G K nL pc lo (.ref h :: rest) (ws ++ [(h, e0)]) (h + 1) k n := by
  obtain ⟨mn, mc, ml, mr⟩ := m
  cases hr
  exact sb_run X hb hA hN (fun H locs ls hP hz hL => va_runI (As := []) (rest := rest) ⟨X.1, X.2.1, X.2.2.1, sb_own X, sb_words X⟩ hM ⟨callB_of (ws' := lw_g) 0 (sb_words X) (sv_good hm) rfl rfl rfl (sb_word X hm.2.1) (sb_word X hl) ⟨hm.2.2.2.1, hm.2.2.2.2, hn⟩ (sb_fit X hm hdd), hy, sb_word X hin⟩ ⟨sb_blind, sb_pre X hb hP hz⟩ rfl rfl hL.1 rfl (lv_room hw) hd ⟨Nat.le_trans hk (sb_cells X), Nat.le_trans hn2 (sb_slots X)⟩) kk
theorem sb_vret (X : sb_X G K cc own nL d) (Y : sb_Y G K b N M) (hd : decode cc pc = .ok (.return_, 1)) (hh : h = G.2.1 + b + N) (hkn : k = kcells K ∧ n = kslots K) (hw : ∀ H : Heap, va_P G.2.2.1 vwCl ws H → va_P G.2.2.1 vwCl (sv_seg G M b N) H) : sb_W G K nL pc lo [] ws h k n := by
  intro H locs ls hP hD hz hS hL
  obtain ⟨rfl, rfl⟩ := hkn
  obtain ⟨y1, y2, y3, y4, y5⟩ := Y
  rw [y1]
  rw [y4, y5] at hS
  exact W.vret X.1 X.2.1 y2 (fun t ht hW => ⟨rfl, by rw [ht, hz, hh], by rw [ht]; exact hw H hP, va_S.F hS ht⟩) hS.2.2 hd y3
theorem sb_Ct_of {lo : List (Option Value)} (hp : plainName m.1.cls = true) (hy : m.1.name = "<init>") (hr : m.2.2.2 = none) (hn : 1 ≤ m.2.2.1) (hd1 : 1 ≤ d2) (hlo : some (.ref (G.2.1 + b)) :: List.replicate (m.2.2.1 - 1) none = lo)
    (body : ∀ K : sv_K, sb_X G K m.2.1 m.1.cls m.2.2.1 d2 → sb_Y G K b N M → (kmeth K).name = "<init>" → kcells K = N - 1 → kslots K = sl → (kH K).size = G.2.1 + b + 1 → sb_W G K m.2.2.1 0 lo [] [(G.2.1 + b, e0)] (G.2.1 + b + 1) 0 0) : sb_Ct G m d2 b e0 N sl M := by
  refine Met.ofW (cc := m.2.1) (maxL := m.2.2.1) (ret := m.2.2.2) (ws' := lw_g) hp rfl ?_
  intro p e s mm args below meth c s₁ B hml hv
  obtain ⟨rfl, hz, hP, hK, hN, hT, hS⟩ := hv
  have hts := atoms_spec (ws := sv_ws m) B.pre
  have hown : s.vm.findClass m.1.cls = some mm.cls := findClass_of_methodNamed B.named
  have hb := body (p, e, (headSpec (sv_ws m) (sb_room d2 N sl)).room, s, mm, [Value.ref (G.2.1 + b)].toArray, below, meth, c, s.heap, (fun q => G.2.1 + b ≤ q), N - 1, sl, MQ below (sb_Qc G b N M) [Value.ref (G.2.1 + b)].toArray s (N - 1) sl (fun q => G.2.1 + b ≤ q))
    ⟨B.exec, B.bytes, hml, hown, fun w hw => hts w (List.mem_cons_of_mem _ hw), hK, fun q h => by have h : s.heap.size ≤ q := h; show G.2.1 + b ≤ q; omega, ⟨hd1, Nat.le_refl _⟩, ⟨by show 36 ≤ 36 * d2; omega, Nat.le_refl _⟩, Nat.le_refl _, Nat.le_refl _, hN, hT, hS⟩ ⟨rfl, hr ▸ B.returns, B.notSynchronized, rfl, rfl⟩ (((name_of_methodNamed B.named B.method).1).trans hy) rfl rfl hz
  rw [lg_entry_eq]
  refine hb s.heap [] _ hP ⟨fun i j p q hp hq _ => ?_, fun i q hq => ?_⟩ hz va_S.rf (sv_entry (vs := [.ref (G.2.1 + b)]) rfl hn hlo)
  · have h1 : i < 1 := (List.getElem?_eq_some_iff.mp hp).1
    have h2 : j < 1 := (List.getElem?_eq_some_iff.mp hq).1
    omega
  · have h1 : i < 1 := (List.getElem?_eq_some_iff.mp hq).1
    rw [show i = 0 by omega] at hq
    cases hq
    exact Nat.le_refl _
end SBC
/-- the memory at the start -/
def sv_M0 : sv_Mem := fun i k _ n => if k = 11 then (if n < 16 then -5 else 0) else if k = 5 ∧ i = 9 ∧ 8 ≤ n ∧ n < 24 then -1 else 0
theorem sv_M0_0 {i k j : Nat} (h1 : k ≠ 11) (h2 : k ≠ 5) : sv_M0 i k j = fun _ => 0 := by
  funext n
  unfold sv_M0
  rw [if_neg h1, if_neg (fun z => h2 z.1)]
theorem sv_M0_11 {i j : Nat} : sv_M0 i 11 j = fun n => if n < 16 then -5 else 0 := by
  funext n
  unfold sv_M0
  rw [if_pos rfl]
theorem sv_M0_5 {j : Nat} : sv_M0 9 5 j = fun n => if 8 ≤ n ∧ n < 24 then -1 else 0 := by
  funext n
  unfold sv_M0
  rw [if_neg (by decide)]
  by_cases h : 8 ≤ n ∧ n < 24
  · rw [if_pos ⟨rfl, rfl, h⟩, if_pos h]
  · rw [if_neg (fun z => h z.2.2), if_neg h]
