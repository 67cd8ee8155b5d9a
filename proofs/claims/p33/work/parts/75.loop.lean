/-! rows that read the script; cell; the law's loop -/
section LWR
variable {G : sv_G} {K : sv_K} {cc : ByteArray} {own : String} {nL d : Nat} {M M1 : sv_Mem} {pc : Nat} {lo : List (Option Value)} {rest : List Value} {ret : Option Value}
theorem sw_sld (X : sv_X G K cc own nL d) {b L : Nat} {xs : Nat → Int32} (hX : va_X b L xs (ks K) (kH K)) (hbl : b < (kH K).size) (hbA : ¬ kA K b) {x : Int32} {i : Nat} (hx : x = nI i) (hi : i < L) (hL : L ≤ 5000) (hd : decode cc pc = .ok (.iaload, 1)) (kk : sw_W G K nL (pc + 1) lo (.int (xs i) :: rest) M) : sw_W G K nL pc lo (.int x :: .ref b :: rest) M := by
  intro H locs ls hP hS hl
  obtain ⟨h1, h2⟩ := sv_in hx hi hL
  refine va_sld X.1 X.2.1 hX hbl hbA hS h1 hd ?_
  rw [h2]
  exact kk H locs ls hP hS hl
theorem sw_slen (X : sv_X G K cc own nL d) {b L : Nat} {xs : Nat → Int32} (hX : va_X b L xs (ks K) (kH K)) (hbl : b < (kH K).size) (hbA : ¬ kA K b) (hd : decode cc pc = .ok (.arraylength, 1)) (kk : sw_W G K nL (pc + 1) lo (.int (nI L) :: rest) M) : sw_W G K nL pc lo (.ref b :: rest) M := fun H locs ls hP hS hl => va_slen X.1 X.2.1 hX hbl hbA hS hd (kk H locs ls hP hS hl)
def sv_PcX (G : sv_G) (b L : Nat) (xs : Nat → Int32) (args : List Value) (M : sv_Mem) : Array Value → State → Prop := va_Pc args (fun U => va_P G.2.2.1 vwCl (sv_cells G M) U.heap ∧ va_K G.2.2.1 vwCl (sv_tys G) U ∧ sv_Nw U ∧ va_X b L xs U U.heap)
/-- a contract of a method that reads the script too -/
def sv_CtX (G : sv_G) (b L : Nat) (xs : Nat → Int32) (m : sv_M) (d : Nat) (args : List Value) (M : sv_Mem) (ret : Option Value) (M' : sv_Mem) : Prop :=
  Met G.1 m.1 (sv_ws m) (sv_room d) (sv_PcX G b L xs args M) (sv_Qc G ret M') 0 0 (fun q => G.2.1 ≤ q)
theorem sv_CtX_of {b L : Nat} {xs : Nat → Int32} (hb : b < G.2.1) {m : sv_M} {d : Nat} {vs : List Value} {lo : List (Option Value)} (hp : plainName m.1.cls = true) (h1 : sv_cat1 vs = true) (hn : vs.length ≤ m.2.2.1) (hlo : vs.map some ++ List.replicate (m.2.2.1 - vs.length) none = lo)
    (body : ∀ K : sv_K, sv_X G K m.2.1 m.1.cls m.2.2.1 d → sv_Y G K m.2.2.2 ret M1 → va_X b L xs (ks K) (kH K) → b < (kH K).size → ¬ kA K b → sw_W G K m.2.2.1 0 lo [] M) : sv_CtX G b L xs m d vs M ret M1 := by
  refine Met.ofW (cc := m.2.1) (maxL := m.2.2.1) (ret := m.2.2.2) (ws' := lw_g) hp rfl ?_
  intro p e s mm args below meth c s₁ B hml hv
  obtain ⟨rfl, hP, hK, hN, hX⟩ := hv
  have hbl : b < s.heap.size := by
    obtain ⟨scr, h1, -⟩ := hX
    exact (Array.getElem?_eq_some_iff.mp h1).1
  have hts := atoms_spec (ws := sv_ws m) B.pre
  have hown : s.vm.findClass m.1.cls = some mm.cls := findClass_of_methodNamed B.named
  have hb2 := body (p, e, (headSpec (sv_ws m) (sv_room d)).room, s, mm, vs.toArray, below, meth, c, s.heap, (fun q => G.2.1 ≤ q), 0, 0, MQ below (sv_Qc G ret M1) vs.toArray s 0 0 (fun q => G.2.1 ≤ q))
    ⟨B.exec, B.bytes, hml, hown, fun w hw => hts w (List.mem_cons_of_mem _ hw), hK, fun q h => h, Nat.le_refl _, Nat.le_refl _, Nat.zero_le _, Nat.zero_le _, hN⟩ ⟨rfl, B.returns, B.notSynchronized, rfl, rfl⟩ hX hbl (Nat.not_le.mpr hb)
  rw [lg_entry_eq]
  exact hb2 s.heap [] _ hP va_S.rf (sv_entry h1 hn hlo)
theorem sv_blindX {b L : Nat} {xs : Nat → Int32} {args : List Value} : FrameBlind (sv_PcX G b L xs args M) := fun a U g mk q => ⟨q.1, q.2.1, va_K.moved (u := U) (U := U.calling g mk a) (Vm.Alike.refl U.vm) q.2.2.1, fun w hw => va_Nw.same (u := U) (U := U.calling g mk a) (by have h2 := (List.mem_filter.mp hw).2; cases w <;> first | rfl | (simp [lw_nest] at h2)) rfl (q.2.2.2.1 w hw), va_X.moved (u := U) (U := U.calling g mk a) (Vm.Alike.refl U.vm) q.2.2.2.2⟩
theorem sw_runX (X : sv_X G K cc own nL d) {st : List Value} {a : Array Value} (hr : ∀ H locs ls, va_P G.2.2.1 vwCl (sv_cells G M) H → va_S (kA K) (kH K) H locs → sv_L ls nL lo → va_Run (kp K) G.1 (ke K) (kR K) (ks K) (km K) (kargs K) (kbelow K) (kmeth K) (kc K) H locs (kcells K) (kslots K) 0 0 (F0 (km K) pc ls st) rest (sv_Qc G ret M1 a) (fun q => G.2.1 ≤ q))
    (kk : sw_W G K nL (pc + 3) lo (ret.toList ++ rest) M1) : sw_W G K nL pc lo st M := by
  intro H locs ls hP hS hL T hT XX
  obtain ⟨v, st₀, t, T', L, h0, X', hLf, e1, e2, ⟨hv, hp, hz, hk⟩, stp⟩ := hr H locs ls hP hS hL T hT XX
  cases hv
  rw [h0] at hz hk
  obtain ⟨t2, a1, b1⟩ := kk T'.heap (locs ++ L) ls (by rw [e1]; exact hp) ⟨Nat.le_trans hS.1 (by rw [e1]; exact hz), fun q h1 h2 => by rw [e1, hk q (Nat.lt_of_lt_of_le h1 hS.1) (fun z => h2 (sv_X_A X q z))]; exact hS.2.1 q h1 h2, fun q hq => by
      rcases List.mem_append.mp hq with h | h
      · exact hS.2.2 q h
      · exact sv_X_A X _ (hLf q h)⟩ hL T' rfl X'
  exact ⟨t2, stp t2 a1, b1⟩
theorem sv_preX (X : sv_X G K cc own nL d) {b L : Nat} {xs : Nat → Int32} (hX : va_X b L xs (ks K) (kH K)) (hbl : b < (kH K).size) (hbA : ¬ kA K b) {H : Heap} {locs : List Loc} {as : List Value} (hP : va_P G.2.2.1 vwCl (sv_cells G M) H) (hS : va_S (kA K) (kH K) H locs) : ∀ U : State, U.heap = H → (ks K).WarmedH U.vm → sv_PcX G b L xs as M as.toArray U := fun U hU hW => ⟨rfl, by rw [hU]; exact hP, va_K.moved hW.alike (sv_X_K X), sv_Nw_warm hW X.2.2.2.2.2.2.2.2.2.2.2, by rw [hU]; exact (hX.moved hW.alike).kept (hS.2.1 b hbl hbA)⟩
theorem sw_callSX (X : sv_X G K cc own nL d) {b L : Nat} {xs : Nat → Int32} (hX : va_X b L xs (ks K) (kH K)) (hbl : b < (kH K).size) (hbA : ¬ kA K b) {m : sv_M} {d2 n index : Nat} {As : List Value} (hm : sv_MW m) (hn : (parseMethodDescriptor m.1.desc).map (fun q => q.parameters.length) = some n) (hAs : As.length = n) (hl : Cond.methodLink own index m.1 ∈ lw_g) (hs : Cond.static m.1 ∈ lw_g) (hdd : d2 + 1 ≤ d)
    (hd : decode cc pc = .ok (.invokestatic index, 3)) (hw : (rest.map fun v => v.category).sum ≤ 8) {st : List Value} (hst : st = As.reverse ++ rest) (hM : sv_CtX G b L xs m d2 As M ret M1) (kk : sw_W G K nL (pc + 3) lo (ret.toList ++ rest) M1) : sw_W G K nL pc lo st M :=
  sw_runX X (fun H locs ls hP hS hL => va_runS (As := As) (rest := rest) ⟨X.1, X.2.1, X.2.2.1, sv_X_own X, X.2.2.2.2.1⟩ hM ⟨sv_B X hm hn hl hdd, sv_X_word X hs⟩ ⟨sv_blindX, sv_preX X hX hbl hbA hP hS⟩ rfl hAs hL.1 hst (lv_room hw) hd ⟨(sv_X_R X).2.2.1, (sv_X_R X).2.2.2⟩) kk
end LWR
/-- what cell answers -/
def celN (xs : Nat → Int32) (L k : Nat) : Int32 := if k < L then xs k else 935717297 * (nI k + nI 5) + 713888759
set_option maxHeartbeats 4000000 in
set_option maxRecDepth 100000 in
theorem c_L_cell {G : sv_G} {M : sv_Mem} {b L k : Nat} {xs : Nat → Int32} (hb : b < G.2.1) (hL : L ≤ 260) (hk : k ≤ 200) : sv_CtX G b L xs M_L_cell 0 [.ref b, .int (nI k)] M (some (.int (celN xs L k))) M := by
  refine sv_CtX_of (lo := [some (.ref b), some (.int (nI k))]) hb pn_L rfl (Nat.le_of_ble_eq_true rfl) rfl (fun K X Y hX hbl hbA => ?_)
  replace X : sv_X G K cL_cell RL 2 0 := X
  replace Y : sv_Y G K (some .int) _ _ := Y
  show sw_W G K 2 0 _ _ _
  refine sw_iload_1 X dL_cell_0 ?_
  refine sw_aload_0 X dL_cell_1 ?_
  refine sw_slen X hX hbl hbA dL_cell_2 ?_
  refine sw_icmp_ge X 12 dL_cell_3 (by decide) (fun h => ?_) (fun h => ?_)
  · refine sw_ldc X wk_L_7 dL_cell_12 ?_
    refine sw_iload_1 X dL_cell_14 ?_
    refine sw_iconst X (nI 5) dL_cell_15 (by decide) ?_
    refine sw_iadd X dL_cell_16 ?_
    refine sw_imul X dL_cell_17 ?_
    refine sw_ldc X wk_L_8 dL_cell_18 ?_
    refine sw_iadd X dL_cell_20 ?_
    refine sw_iret X Y dL_cell_21 ?_ rfl
    have := (nI_leI (by omega) (by omega)).mp h
    unfold celN
    rw [if_neg (by omega)]
  · have hkL : k < L := by
      have := mt (nI_leI (a := L) (b := k) (by omega) (by omega)).mpr h
      omega
    refine sw_aload_0 X dL_cell_6 ?_
    refine sw_iload_1 X dL_cell_7 ?_
    refine sw_sld X hX hbl hbA (i := k) rfl hkL (by omega) dL_cell_8 ?_
    refine sw_goto X 21 dL_cell_9 (by decide) ?_
    refine sw_iret X Y dL_cell_21 ?_ rfl
    unfold celN
    rw [if_pos hkL]
def lw_lo (G : sv_G) (b e : Nat) : List (Option Value) := [some (.ref b), some (.ref (sv_ad G 0 8 0)), some (.ref (sv_ad G 4 9 0)), some (.int (nI e)), none]
set_option maxHeartbeats 4000000 in
set_option maxRecDepth 100000 in
theorem law_loop {G : sv_G} {K : sv_K} (XK : sv_X G K cL_law RL 5 9) (hg : gn G = 1) (hkc : kcells K = 307) (hks : kslots K = 11616) {b L : Nat} {xs : Nat → Int32} (hL : L ≤ 260) (hX : va_X b L xs (ks K) (kH K)) (hbl : b < (kH K).size) (hbA : ¬ kA K b) (hb0 : b < G.2.1) (hend : ∀ lo M, sw_W G K 5 91 lo [] M) : ∀ m e, e + m = 50 → ∀ M, LI M → sw_W G (sv_Kn K (157 + 3 * e) (6816 + 96 * e)) 5 23 (lw_lo G b e) [] M := by
  intro m
  induction m with
  | zero =>
      intro e he M I
      have X : sv_X G (sv_Kn K (157 + 3 * e) (6816 + 96 * e)) cL_law RL 5 9 := X_n XK (by omega) (by omega)
      refine sw_iload_3 X dL_law_23 ?_
      refine sw_bipush X (nI 50) dL_law_24 (by decide) ?_
      refine sw_icmp_ge X 91 dL_law_26 (by decide) (fun _ => sw_widen (by omega) (by omega) (hend _ _)) (fun h => absurd ((nI_leI (a := 50) (b := e) (by omega) (by omega)).mpr (by omega)) h)
  | succ m ih =>
      intro e he M I
      have X : sv_X G (sv_Kn K (157 + 3 * e) (6816 + 96 * e)) cL_law RL 5 9 := X_n XK (by omega) (by omega)
      have H55 : ∀ v : Int32, sw_W G (sv_Kn K (157 + 3 * e) (6816 + 96 * e)) 5 55 (lw_lo G b e) [.int v] M := by
        intro v
        obtain ⟨M2, cA, I2⟩ := act_all I v (celN xs L (2 * e + 1))
        obtain ⟨cs2, hI2⟩ := I2.1
        refine sw_istore_4 X dL_law_55 trivial ?_
        refine sw_aload_1 X dL_law_57 ?_
        refine sw_iload_4 X dL_law_58 ?_
        refine sw_aload_0 X dL_law_60 ?_
        refine sw_iconst X (nI 2) dL_law_61 (by decide) ?_
        refine sw_iload_3 X dL_law_62 ?_
        refine sw_imul X dL_law_63 ?_
        refine sw_tope (pk_mul _ _) ?_
        refine sw_iconst X (nI 1) dL_law_64 (by decide) ?_
        refine sw_iadd X dL_law_65 ?_
        refine sw_tope (nI_add _ _) ?_
        refine sw_callSX (As := [.ref b, .int (nI (2 * e + 1))]) (n := 2) X hX hbl hbA mw_L_cell (by decide +kernel) rfl wl_L_130 ws_L_cell (by decide) dL_law_66 (Nat.le_of_ble_eq_true rfl) rfl (c_L_cell (k := 2 * e + 1) hb0 hL (by omega)) ?_
        refine sw_aload_2 X dL_law_69 ?_
        refine sw_callSA (As := [.ref (sv_ad G 0 8 0), .int v, .int (celN xs L (2 * e + 1)), .ref (sv_ad G 4 9 0)]) (n := 4) XK mw_L_act (by decide +kernel) rfl wl_L_134 ws_L_act (by decide) dL_law_70 (Nat.le_of_ble_eq_true rfl) rfl (cA G hg) (by omega) (by omega) ?_
        rw [show 157 + 3 * e + 3 = 157 + 3 * (e + 1) by omega, show 6816 + 96 * e + 96 = 6816 + 96 * (e + 1) by omega]
        have X2 : sv_X G (sv_Kn K (157 + 3 * (e + 1)) (6816 + 96 * (e + 1))) cL_law RL 5 9 := X_n XK (by omega) (by omega)
        refine sw_if_eq X2 83 dL_law_73 (by decide) (fun h => absurd h (by decide)) (fun _ => ?_)
        refine sw_aload_1 X2 dL_law_76 ?_
        refine ca_L_126 X2 (by decide) dL_law_77 (Nat.le_of_ble_eq_true rfl) (c_L_holds hI2) ?_
        refine sw_if_ne X2 85 dL_law_80 (by decide) (fun _ => ?_) (fun h => absurd h (by decide))
        refine sw_inc1_3 X2 dL_law_85 trivial ?_
        refine sw_goto X2 23 dL_law_88 (by decide) ?_
        refine sw_drop_4 ?_
        exact ih (e + 1) (by omega) M2 I2
      refine sw_iload_3 X dL_law_23 ?_
      refine sw_bipush X (nI 50) dL_law_24 (by decide) ?_
      refine sw_icmp_ge X 91 dL_law_26 (by decide) (fun _ => sw_widen (by omega) (by omega) (hend _ _)) (fun _ => ?_)
      refine sw_iload_3 X dL_law_29 ?_
      refine sw_if_ne X 38 dL_law_30 (by decide) (fun _ => ?_) (fun _ => ?_)
      · refine sw_iload_3 X dL_law_38 ?_
        refine sw_iconst X (nI 1) dL_law_39 (by decide) ?_
        refine sw_icmp_ne X 48 dL_law_40 (by decide) (fun _ => ?_) (fun _ => ?_)
        · refine sw_aload_0 X dL_law_48 ?_
          refine sw_iconst X (nI 2) dL_law_49 (by decide) ?_
          refine sw_iload_3 X dL_law_50 ?_
          refine sw_imul X dL_law_51 ?_
          refine sw_tope (pk_mul _ _) ?_
          refine sw_callSX (As := [.ref b, .int (nI (2 * e))]) (n := 2) X hX hbl hbA mw_L_cell (by decide +kernel) rfl wl_L_130 ws_L_cell (by decide) dL_law_52 (Nat.le_of_ble_eq_true rfl) rfl (c_L_cell (k := 2 * e) hb0 hL (by omega)) ?_
          exact H55 _
        · refine sw_bipush X (nI 57) dL_law_43 (by decide) ?_
          refine sw_goto X 55 dL_law_45 (by decide) ?_
          exact H55 _
      · refine sw_bipush X (nI 17) dL_law_33 (by decide) ?_
        refine sw_goto X 55 dL_law_35 (by decide) ?_
        exact H55 _
