/-! the store's actions, from a store whose present State keeps the invariant -/
def HM (M : sv_Mem) : Prop := ∃ o t, M 8 0 0 4 = nI o ∧ o < 6 ∧ M 8 0 0 5 = nI t ∧ t ≤ 5
theorem SI_cs {T : sv_T} {cs : Nat → Nat} (h : SI T cs) : csOk T cs 13 := fun j hj => ⟨(h.2.2.1 j hj).2.1.1, (h.2.2.1 j hj).1⟩
theorem hs_of {M : sv_Mem} {cs : Nat → Nat} (h : SI (M 0) cs) (hm : HM M) : ∃ o t, hsOk M o t cs := by
  obtain ⟨o, t, a, b, c, d⟩ := hm
  exact ⟨o, t, a, b, c, d, SI_cs h, h.1⟩
/-- a call that answers r and leaves the State T2 -/
def AC (m : sv_M) (d : Nat) (args : List Value) (M : sv_Mem) (r : Int32) (T2 : sv_T) : Prop := ∃ M2 : sv_Mem, (∀ G : sv_G, sv_Ct G m d (.ref (sv_ad G 0 8 0) :: args) M (some (.int r)) M2) ∧ M2 0 = T2 ∧ M2 9 = M 9 ∧ HM M2
theorem ac_y {m : sv_M} {d : Nat} {args : List Value} {M : sv_Mem} {r : Int32} {T2 : sv_T} {o t : Nat} {cs : Nat → Nat} (hH : hsOk M o t cs) (c : ∀ G : sv_G, sv_Ct G m d (.ref (sv_ad G 0 8 0) :: args) M (some (.int r)) (rcY (sT (rmM M o t cs) 0 T2) o t)) : AC m d args M r T2 := by
  obtain ⟨h4, ho, h5, ht, -, -⟩ := hH
  have e8 : sT (rmM M o t cs) 0 T2 8 0 0 = M 8 0 0 := T8 ..
  have e9 : sT (rmM M o t cs) 0 T2 9 = M 9 := by
    rw [sT_ne _ _ (by omega)]
    exact sT_ne _ _ (by omega)
  by_cases h : t < 5
  · have e : rcY (sT (rmM M o t cs) 0 T2) o t = mY (sT (rmM M o t cs) 0 T2) 5 (nI (t + 1)) := if_pos h
    rw [e] at c
    refine ⟨_, c, by rw [mY_i _ _ _ (by omega), sT_at], by rw [mY_i _ _ _ (by omega), e9], o, t + 1, ?_, ho, ?_, by omega⟩
    · rw [mY_y, va_up_ne _ _ (by omega), e8, h4]
    · rw [mY_y, va_up_self]
  · have e : rcY (sT (rmM M o t cs) 0 T2) o t = mY (sT (rmM M o t cs) 0 T2) 4 (nI ((o + 1) % 6)) := if_neg h
    rw [e] at c
    refine ⟨_, c, by rw [mY_i _ _ _ (by omega), sT_at], by rw [mY_i _ _ _ (by omega), e9], (o + 1) % 6, t, ?_, by omega, ?_, ht⟩
    · rw [mY_y, va_up_self]
    · rw [mY_y, va_up_ne _ _ (by omega), e8, h5]
theorem ac_e {m : sv_M} {d : Nat} {args : List Value} {M : sv_Mem} {r : Int32} {o t : Nat} {cs : Nat → Nat} (hH : hsOk M o t cs) (c : ∀ G : sv_G, sv_Ct G m d (.ref (sv_ad G 0 8 0) :: args) M (some (.int r)) (rmM M o t cs)) : AC m d args M r (M 0) := by
  obtain ⟨h4, ho, h5, ht, -, -⟩ := hH
  exact ⟨_, c, rmM_0 .., sT_ne _ _ (by omega), o, t, by rw [rmM_8]; exact h4, ho, by rw [rmM_8]; exact h5, ht⟩
section ACS
variable {M : sv_Mem} {cs : Nat → Nat} {q : Nat}
theorem ac_keep (h : SI (M 0) cs) (hm : HM M) (b : Prop) [Decidable b] : AC M_X3_keep 4 [.int (bI b)] M (M 0 10 0 0) (tu (M 0) 10 0 0 (bI b)) := by
  obtain ⟨o, t, hH⟩ := hs_of h hm
  exact ac_y hH (fun G => c_X3_keep hH)
theorem ac_begin_y (h : SI (M 0) cs) (hm : HM M) (hq : q < 3) (hc : cs q = 0) : AC M_X3_begin 4 [.int (nI q)] M (nI (cnt (fun j => va_up cs q 1 j ≠ 0) 3)) (aM (M 0) q 0) := by
  obtain ⟨o, t, hH⟩ := hs_of h hm
  have hc0 := (h.2.2.1 q hq).2.1.1
  exact ac_y hH (fun G => c_X3_begin_y hH (OpS.rm (opS_open_y hq (SI_cs h) (by rw [hc0, hc]))) (er_n _ (by have := cnt_le (fun j => va_up cs q 1 j ≠ 0) 3; omega)) (T8 ..))
theorem ac_begin_n (h : SI (M 0) cs) (hm : HM M) (hq : q < 3) (hc : cs q ≠ 0) : AC M_X3_begin 4 [.int (nI q)] M (-4) (M 0) := by
  obtain ⟨o, t, hH⟩ := hs_of h hm
  obtain ⟨hl, hs, -⟩ := h.2.2.1 q hq
  exact ac_e hH (fun G => c_X3_begin_e hH (OpS.re (opS_open_n hq hs.1 hl hc)) er_c.2.2.2)
theorem ac_commit_y (h : SI (M 0) cs) (hm : HM M) (hq : q < 3) (hc : cs q ≠ 0) : AC M_X3_commit 4 [.int (nI q)] M (nI (cnt (difP (M 0) q 0 (cs q)) 16)) (inc (clT (M 0) q) 0) := by
  obtain ⟨o, t, hH⟩ := hs_of h hm
  obtain ⟨hl, hs, -⟩ := h.2.2.1 q hq
  exact ac_y hH (fun G => c_X3_commit_y hH (OpS.rm (opS_commit_y hq hs.1 hl hc)) (er_n _ (by have := cnt_le (difP (M 0) q 0 (cs q)) 16; omega)) (T8 ..))
theorem ac_commit_n (h : SI (M 0) cs) (hm : HM M) (hq : q < 3) (hc : cs q = 0) : AC M_X3_commit 4 [.int (nI q)] M (-4) (M 0) := by
  obtain ⟨o, t, hH⟩ := hs_of h hm
  obtain ⟨hl, hs, -⟩ := h.2.2.1 q hq
  exact ac_e hH (fun G => c_X3_commit_e hH (OpS.re (opS_commit_n hq hs.1 hl hc)) er_c.2.2.2)
theorem ac_roll_y (h : SI (M 0) cs) (hm : HM M) (hq : q < 3) (hc : cs q ≠ 0) : AC M_X3_rollback 4 [.int (nI q)] M (nI (cnt (difP (M 0) q 0 (cs q)) 16)) (inc (clT (unT (M 0) q 0 (cs q)) q) 1) := by
  obtain ⟨o, t, hH⟩ := hs_of h hm
  obtain ⟨hl, hs, -⟩ := h.2.2.1 q hq
  exact ac_y hH (fun G => c_X3_rollback_y hH (OpS.rm (opS_roll_y hq hs.1 hl hc)) (er_n _ (by have := cnt_le (difP (M 0) q 0 (cs q)) 16; omega)) (T8 ..))
theorem ac_roll_n (h : SI (M 0) cs) (hm : HM M) (hq : q < 3) (hc : cs q = 0) : AC M_X3_rollback 4 [.int (nI q)] M (-4) (M 0) := by
  obtain ⟨o, t, hH⟩ := hs_of h hm
  obtain ⟨hl, hs, -⟩ := h.2.2.1 q hq
  exact ac_e hH (fun G => c_X3_rollback_e hH (OpS.re (opS_roll_n hq hs.1 hl hc)) er_c.2.2.2)
theorem nm_in {a : Nat} (ha : a < 8) : inR (nI a) (nI 0) (nI 7) := inR_lt (by omega) (by omega)
theorem ac_save_y (h : SI (M 0) cs) (hm : HM M) (hq : q < 3) {mq a : Nat} (hc : cs q = mq + 1) (hmq : mq < 12) (ha : a < 8) : AC M_X3_savepoint 4 [.int (nI q), .int (nI a)] M (nI mq) (inc (aM (tu (M 0) 16 q mq (nI a)) q (mq + 1)) 6) := by
  obtain ⟨o, t, hH⟩ := hs_of h hm
  obtain ⟨hl, hs, -⟩ := h.2.2.1 q hq
  exact ac_y hH (fun G => c_X3_savepoint_y hH (OpS.rm (opS_save_y hq (by rw [hs.1, hc]) hmq (nm_in ha))) (er_n _ (by omega)) (T8 ..))
theorem ac_save_n (h : SI (M 0) cs) (hm : HM M) (hq : q < 3) {a : Nat} (hc : cs q = 0) (ha : a < 8) : AC M_X3_savepoint 4 [.int (nI q), .int (nI a)] M (-4) (M 0) := by
  obtain ⟨o, t, hH⟩ := hs_of h hm
  obtain ⟨hl, hs, -⟩ := h.2.2.1 q hq
  exact ac_e hH (fun G => c_X3_savepoint_e hH (OpS.re (opS_save_n hq hs.1 hl (nm_in ha) hc)) er_c.2.2.2)
theorem ac_save_f (h : SI (M 0) cs) (hm : HM M) (hq : q < 3) {a : Nat} (hc : cs q = 13) (ha : a < 8) : AC M_X3_savepoint 4 [.int (nI q), .int (nI a)] M (-3) (M 0) := by
  obtain ⟨o, t, hH⟩ := hs_of h hm
  obtain ⟨hl, hs, -⟩ := h.2.2.1 q hq
  exact ac_e hH (fun G => c_X3_savepoint_e hH (OpS.re (opS_save_f hq (by rw [hs.1, hc]) (nm_in ha))) er_c.2.2.1)
/-- the savepoint that undoTo, release and ifUndone find -/
theorem spo_of {G : sv_G} (h : SI (M 0) cs) (hq : q < 3) {a p : Nat} (ha : a < 8) (hp : nrR (M 0 16 q) (nI a) (cs q - 1) = nI p) (hp2 : p < cs q - 1) : ∀ N : sv_Mem, N 0 = M 0 → sv_Ct G M_X1_savepointOrError 3 [.ref (sv_ad G 10 0 0), .int (nI q), .int (nI a)] N (some (.int (nI p))) N := by
  obtain ⟨hl, hs, -⟩ := h.2.2.1 q hq
  exact spo_y hq hs.1 hl (nm_in ha) (by omega) hp (by omega)
theorem spo_no {G : sv_G} (h : SI (M 0) cs) (hq : q < 3) {a : Nat} (ha : a < 8) (hp : nrR (M 0 16 q) (nI a) (cs q - 1) = -5) : ∀ N : sv_Mem, N 0 = M 0 → sv_Ct G M_X1_savepointOrError 3 [.ref (sv_ad G 10 0 0), .int (nI q), .int (nI a)] N (some (.int (-4))) N := by
  obtain ⟨hl, hs, -⟩ := h.2.2.1 q hq
  by_cases hz : cs q = 0
  · exact spo_n hq hs.1 hl (nm_in ha) hz
  · exact spo_0 hq hs.1 hl (nm_in ha) hz hp
theorem ac_undo_n (h : SI (M 0) cs) (hm : HM M) (hq : q < 3) {a : Nat} (ha : a < 8) (hp : nrR (M 0 16 q) (nI a) (cs q - 1) = -5) : AC M_X3_undoTo 5 [.int (nI q), .int (nI a)] M (-4) (M 0) := by
  obtain ⟨o, t, hH⟩ := hs_of h hm
  exact ac_e hH (fun G => c_X3_undoTo_e hH (OpS.re (opS_undo_e (by decide) (spo_no h hq ha hp))) er_c.2.2.2)
theorem ac_rel_n (h : SI (M 0) cs) (hm : HM M) (hq : q < 3) {a : Nat} (ha : a < 8) (hp : nrR (M 0 16 q) (nI a) (cs q - 1) = -5) : AC M_X3_release 5 [.int (nI q), .int (nI a)] M (-4) (M 0) := by
  obtain ⟨o, t, hH⟩ := hs_of h hm
  exact ac_e hH (fun G => c_X3_release_e hH (OpS.re (opS_rel_e (by decide) (spo_no h hq ha hp))) er_c.2.2.2)
theorem ac_undo_y (h : SI (M 0) cs) (hm : HM M) (hq : q < 3) {a p : Nat} (ha : a < 8) (hp : nrR (M 0 16 q) (nI a) (cs q - 1) = nI p) (hp2 : p < cs q - 1) : AC M_X3_undoTo 5 [.int (nI q), .int (nI a)] M (nI (cnt (difP (M 0) q (p + 1) (cs q)) 16)) (inc (drT (unT (M 0) q (p + 1) (cs q)) q (p + 1) (cs q)) 5) := by
  obtain ⟨o, t, hH⟩ := hs_of h hm
  obtain ⟨hl, hs, -⟩ := h.2.2.1 q hq
  exact ac_y hH (fun G => c_X3_undoTo_y hH (OpS.rm (opS_undo_y hq hs.1 hl (by omega) (spo_of h hq ha hp hp2))) (er_n _ (by have := cnt_le (difP (M 0) q (p + 1) (cs q)) 16; omega)) (T8 ..))
theorem ac_rel_y (h : SI (M 0) cs) (hm : HM M) (hq : q < 3) {a p : Nat} (ha : a < 8) (hp : nrR (M 0 16 q) (nI a) (cs q - 1) = nI p) (hp2 : p < cs q - 1) : AC M_X3_release 5 [.int (nI q), .int (nI a)] M (nI (cs q - 1 - p)) (drT (M 0) q p (cs q)) := by
  obtain ⟨o, t, hH⟩ := hs_of h hm
  obtain ⟨hl, hs, -⟩ := h.2.2.1 q hq
  exact ac_y hH (fun G => c_X3_release_y hH (OpS.rm (opS_rel_y hq hs.1 hl (by omega) (spo_of h hq ha hp hp2))) (er_n _ (by omega)) (T8 ..))
/-- what the law's statement does and answers: sort 0 reads, 1 erases, 2 and 3 write, others shift and move -/
def DB (T D : sv_T) (cs : Nat → Nat) (q sort key : Nat) (nv r : Int32) : Prop := (cs q = 0 ∧ r = -4 ∧ D = T) ∨ (cs q ≠ 0 ∧ StR T D cs q r ∧ (sort < 4 → r ≠ -7 ∧ (r = -6 ↔ busyC T q key (nI (if sort = 0 then 1 else 2)))) ∧ (sort = 0 → r ≠ -6 → r = T 11 0 key ∧ (∀ k, D 11 0 k = T 11 0 k) ∧ 0 < mm (D 14 q 1) key) ∧ (1 ≤ sort → sort < 4 → r ≠ -6 → r = T 11 0 key ∧ D 11 0 key = nv ∧ mm (D 14 q 1) key = 2))
theorem ac_read (h : SI (M 0) cs) (hm : HM M) (hq : q < 3) {k : Nat} (hk : k < 16) (nv : Int32) : ∃ r D, AC M_X3_read 5 [.int (nI q), .int (nI k)] M r D ∧ DB (M 0) D cs q 0 k nv r := by
  obtain ⟨o, t, hH⟩ := hs_of h hm
  obtain ⟨hl, hs, -⟩ := h.2.2.1 q hq
  by_cases hz : cs q = 0
  · exact ⟨-4, M 0, ac_e hH (fun G => c_X3_read_e hH (OpS.re (opS_read_n hq hs.1 hl hk hz)) er_c.2.2.2), Or.inl ⟨hz, rfl, rfl⟩⟩
  · obtain ⟨mq, hmq⟩ : ∃ mq, cs q = mq + 1 := ⟨cs q - 1, by omega⟩
    obtain ⟨a1, a2, a3, a4⟩ := read_R h hq hmq hk _ rfl _ rfl
    exact ⟨_, _, ac_y hH (fun G => c_X3_read_y hH (OpS.rm (opS_read_y (mq := mq) hq (by rw [hs.1, hmq]) (by omega) hk)) a1.2.2.2.2.1 (T8 ..)), Or.inr ⟨hz, a1, fun _ => ⟨a2, a3⟩, fun _ => a4, fun z => absurd z (by decide)⟩⟩
theorem ac_erase (h : SI (M 0) cs) (hm : HM M) (hq : q < 3) {k : Nat} (hk : k < 16) : ∃ r D, AC M_X3_erase 5 [.int (nI q), .int (nI k)] M r D ∧ DB (M 0) D cs q 1 k (-5) r := by
  obtain ⟨o, t, hH⟩ := hs_of h hm
  obtain ⟨hl, hs, -⟩ := h.2.2.1 q hq
  by_cases hz : cs q = 0
  · exact ⟨-4, M 0, ac_e hH (fun G => c_X3_erase_e hH (OpS.re (opS_erase_n hq hs.1 hl hk hz)) er_c.2.2.2), Or.inl ⟨hz, rfl, rfl⟩⟩
  · obtain ⟨mq, hmq⟩ : ∃ mq, cs q = mq + 1 := ⟨cs q - 1, by omega⟩
    obtain ⟨a1, a2, a3, a4⟩ := write_R h hq hmq hk (v := -5) (Or.inl rfl) _ rfl _ rfl
    exact ⟨_, _, ac_y hH (fun G => c_X3_erase_y hH (OpS.rm (opS_erase_y (mq := mq) hq (by rw [hs.1, hmq]) (by omega) hk)) a1.2.2.2.2.1 (T8 ..)), Or.inr ⟨hz, a1, fun _ => ⟨a2, a3⟩, fun z => absurd z (by decide), fun _ _ => a4⟩⟩
theorem ac_write (h : SI (M 0) cs) (hm : HM M) (hq : q < 3) {k u sort : Nat} (hk : k < 16) (hu : u ≤ 9999) (hs0 : 1 ≤ sort) (hs4 : sort < 4) : ∃ r D, AC M_X3_write 5 [.int (nI q), .int (nI k), .int (nI u)] M r D ∧ DB (M 0) D cs q sort k (nI u) r := by
  obtain ⟨o, t, hH⟩ := hs_of h hm
  obtain ⟨hl, hs, -⟩ := h.2.2.1 q hq
  have hin : inR (nI u) (nI 0) (nI 9999) := inR_lt hu (by omega)
  by_cases hz : cs q = 0
  · exact ⟨-4, M 0, ac_e hH (fun G => c_X3_write_e hH (OpS.re (opS_write_n hq hs.1 hl hk hin hz)) er_c.2.2.2), Or.inl ⟨hz, rfl, rfl⟩⟩
  · obtain ⟨mq, hmq⟩ : ∃ mq, cs q = mq + 1 := ⟨cs q - 1, by omega⟩
    obtain ⟨a1, a2, a3, a4⟩ := write_R h hq hmq hk (v := nI u) (Or.inr hin) _ rfl _ rfl
    refine ⟨_, _, ac_y hH (fun G => c_X3_write_y hH (OpS.rm (opS_write_y (mq := mq) hq (by rw [hs.1, hmq]) (by omega) hk hin)) a1.2.2.2.2.1 (T8 ..)), Or.inr ⟨hz, a1, fun _ => ⟨a2, ?_⟩, fun z => absurd z (by omega), fun _ _ => a4⟩⟩
    rw [if_neg (by omega)]
    exact a3
theorem ac_shift (h : SI (M 0) cs) (hm : HM M) (hq : q < 3) {kn key sort : Nat} {d nv : Int32} (hk1 : 1 ≤ kn) (hk2 : kn < 65536) (hd : inR d (-9999) (nI 9999)) (hs4 : 4 ≤ sort) : ∃ r D, AC M_X3_shift 5 [.int (nI q), .int (nI kn), .int d] M r D ∧ DB (M 0) D cs q sort key nv r := by
  obtain ⟨o, t, hH⟩ := hs_of h hm
  obtain ⟨hl, hs, -⟩ := h.2.2.1 q hq
  have hb : inR (nI kn) (nI 1) 65535 ∧ inR d (-9999) (nI 9999) := ⟨⟨fun z => by have := (nI_ltI (a := kn) (b := 1) (by omega) (by omega)).mp z; omega, fun z => by
    rw [show (65535 : Int32) = nI 65535 by decide] at z
    have := (nI_ltI (a := 65535) (b := kn) (by omega) (by omega)).mp z
    omega⟩, hd⟩
  by_cases hz : cs q = 0
  · exact ⟨-4, M 0, ac_e hH (fun G => c_X3_shift_e hH (OpS.re (opS_shift_n hq hs.1 hl hb hz)) er_c.2.2.2), Or.inl ⟨hz, rfl, rfl⟩⟩
  · obtain ⟨mq, hmq⟩ : ∃ mq, cs q = mq + 1 := ⟨cs q - 1, by omega⟩
    have hp := pcn_le (nI kn)
    obtain ⟨b1, b2⟩ := sh_R (keys := nI kn) (d := d) (a0 := nI (pcn (nI kn))) (st_begin h hq hmq) hq (Or.inr (Or.inr (nI_pos (by omega)))) 16 (Nat.le_refl _)
    have her := okA_er b2
    obtain ⟨a1, -⟩ := st_end h b1 hq hmq _ her
    exact ⟨_, _, ac_y hH (fun G => c_X3_shift_y hH (OpS.rm (opS_shift_y (mq := mq) hq (by rw [hs.1, hmq]) (by omega) rfl hk2 hb)) her (T8 ..)), Or.inr ⟨hz, a1, fun z => by omega, fun z => by omega, fun _ z => by omega⟩⟩
theorem ac_move (h : SI (M 0) cs) (hm : HM M) (hq : q < 3) {ka kb am key sort : Nat} {nv : Int32} (hka : ka < 16) (hkb : kb < 16) (hne : ka ≠ kb) (ha1 : 1 ≤ am) (ha2 : am ≤ 9999) (hs4 : 4 ≤ sort) : ∃ r D, AC M_X3_move 5 [.int (nI q), .int (nI ka), .int (nI kb), .int (nI am)] M r D ∧ DB (M 0) D cs q sort key nv r := by
  obtain ⟨o, t, hH⟩ := hs_of h hm
  obtain ⟨hl, hs, -⟩ := h.2.2.1 q hq
  have ha : inR (nI ka) (nI 0) (nI 15) ∧ inR (nI kb) (nI 0) (nI 15) := ⟨inR_lt (by omega) (by omega), inR_lt (by omega) (by omega)⟩
  have hb : inR (nI am) (nI 1) (nI 9999) ∧ nI ka ≠ nI kb := ⟨⟨fun z => by have := (nI_ltI (a := am) (b := 1) (by omega) (by omega)).mp z; omega, fun z => by have := (nI_ltI (a := 9999) (b := am) (by omega) (by omega)).mp z; omega⟩, fun z => hne (nJ (by omega) (by omega) z)⟩
  by_cases hz : cs q = 0
  · exact ⟨-4, M 0, ac_e hH (fun G => c_X3_move_e hH (OpS.re (opS_move_n hq hs.1 hl ha hb hz)) er_c.2.2.2), Or.inl ⟨hz, rfl, rfl⟩⟩
  · obtain ⟨mq, hmq⟩ : ∃ mq, cs q = mq + 1 := ⟨cs q - 1, by omega⟩
    obtain ⟨b1, b2⟩ := mv_R (amt := nI am) (st_begin h hq hmq) hq hka hkb
    have her := okA_er b2
    obtain ⟨a1, -⟩ := st_end h b1 hq hmq _ her
    exact ⟨_, _, ac_y hH (fun G => c_X3_move_y hH (OpS.rm (opS_move_y (mq := mq) hq (by rw [hs.1, hmq]) (by omega) hka hkb hb)) her (T8 ..)), Or.inr ⟨hz, a1, fun z => by omega, fun z => by omega, fun _ z => by omega⟩⟩
end ACS
