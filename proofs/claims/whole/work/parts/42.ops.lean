/-- a method of the class's State, from any memory whose present State is T -/
def OpS (G : sv_G) (op : sv_M) (d : Nat) (args : List Value) (T T2 : sv_T) (r : Int32) : Prop := ∀ N : sv_Mem, N 0 = T → sv_Ct G op d (.ref (sv_ad G 10 0 0) :: args) N (some (.int r)) (sT N 0 T2)
theorem opS_e {G : sv_G} {op : sv_M} {d : Nat} {args : List Value} {T : sv_T} {r : Int32} (h : ∀ N : sv_Mem, N 0 = T → sv_Ct G op d (.ref (sv_ad G 10 0 0) :: args) N (some (.int r)) N) : OpS G op d args T T r := fun N h0 => by
  have := h N h0
  subst h0
  rw [sT_id]
  exact this
theorem OpS.err {G : sv_G} {op : sv_M} {d : Nat} {args : List Value} {N : sv_Mem} {r : Int32} {T : sv_T} (h : OpS G op d args T T r) (h0 : N 0 = T) : sv_Ct G op d (.ref (sv_ad G 10 0 0) :: args) N (some (.int r)) N := by
  have := h N h0
  subst h0
  rw [sT_id] at this
  exact this
theorem ses_o {T : sv_T} {s : Nat → Int32} {q c : Nat} (h : sesB T s q c) (h0 : c ≠ 0) : ∃ mq, c = mq + 1 ∧ mq ≤ 12 ∧ s (24 + q) = nI 1 ∧ s (27 + q) = nI mq := by
  obtain ⟨a1, a2, a3, a4, -⟩ := h
  refine ⟨c - 1, by omega, by omega, ?_, a4⟩
  rw [a3, if_neg h0]
theorem ses_c {T : sv_T} {s : Nat → Int32} {q c : Nat} (h : sesB T s q c) (h0 : c = 0) : s (24 + q) = nI 0 ∧ ¬ s (24 + q) = nI 1 := by
  have e : s (24 + q) = nI 0 := by rw [h.2.2.1, if_pos h0]
  exact ⟨e, by rw [e]; decide⟩

theorem opS_open_x {G : sv_G} {T : sv_T} {v : Int32} (hv : ¬ inR v (nI 0) (nI 2)) : OpS G M_X1_openTransaction 1 [.int v] T (T) (-1) := opS_e (fun N h0 => c_X1_openTransaction_x (i := 0) hv)
theorem opS_open_n {G : sv_G} {T : sv_T} {q c : Nat} (hq : q < 3) (hc : T 14 q 0 = nI c) (hc2 : c ≤ 13) (h0 : c ≠ 0) : OpS G M_X1_openTransaction 1 [.int (nI q)] T (T) (-4) := opS_e (fun N hN => c_X1_openTransaction_n (i := 0) (by decide) hq (by rw [hN]; exact hc) (by omega) (by assumption))
theorem opS_open_y {G : sv_G} {T : sv_T} {q : Nat} {cs : Nat → Nat} (hq : q < 3) (hcs : csOk T cs 13) (hz : T 14 q 0 = nI 0) : OpS G M_X1_openTransaction 1 [.int (nI q)] T (aM T q 0) (nI (cnt (fun j => va_up cs q 1 j ≠ 0) 3)) := fun N h0 => by
  subst h0
  exact c_X1_openTransaction_y (i := 0) (by decide) hq hcs hz
theorem opS_commit_x {G : sv_G} {T : sv_T} {v : Int32} (hv : ¬ inR v (nI 0) (nI 2)) : OpS G M_X1_commitTransaction 2 [.int v] T (T) (-1) := opS_e (fun N h0 => c_X1_commitTransaction_e (i := 0) (by decide) ne_c.1 (why_x hv))
theorem opS_commit_n {G : sv_G} {T : sv_T} {q c : Nat} (hq : q < 3) (hc : T 14 q 0 = nI c) (hc2 : c ≤ 13) (hz : c = 0) : OpS G M_X1_commitTransaction 2 [.int (nI q)] T (T) (-4) := opS_e (fun N h0 => c_X1_commitTransaction_e (i := 0) (by decide) ne_c.2.2.2 (why_tt hq (by rw [h0]; exact hc) hc2 (if_neg (fun z => z hz))))
theorem opS_roll_x {G : sv_G} {T : sv_T} {v : Int32} (hv : ¬ inR v (nI 0) (nI 2)) : OpS G M_X1_rollTransactionBack 3 [.int v] T (T) (-1) := opS_e (fun N h0 => c_X1_rollTransactionBack_e (i := 0) (by decide) ne_c.1 (why_x hv))
theorem opS_roll_n {G : sv_G} {T : sv_T} {q c : Nat} (hq : q < 3) (hc : T 14 q 0 = nI c) (hc2 : c ≤ 13) (hz : c = 0) : OpS G M_X1_rollTransactionBack 3 [.int (nI q)] T (T) (-4) := opS_e (fun N h0 => c_X1_rollTransactionBack_e (i := 0) (by decide) ne_c.2.2.2 (why_tt hq (by rw [h0]; exact hc) hc2 (if_neg (fun z => z hz))))
theorem opS_commit_y {G : sv_G} {T : sv_T} {q c : Nat} (hq : q < 3) (hc : T 14 q 0 = nI c) (hc2 : c ≤ 13) (hz : c ≠ 0) : OpS G M_X1_commitTransaction 2 [.int (nI q)] T (inc (clT T q) 0) (nI (cnt (difP T q 0 c) 16)) := fun N h0 => by
  subst h0
  exact c_X1_commitTransaction_y (i := 0) (by decide) hq hc (by omega) (why_tt hq hc hc2 (if_pos hz))
theorem opS_roll_y {G : sv_G} {T : sv_T} {q c : Nat} (hq : q < 3) (hc : T 14 q 0 = nI c) (hc2 : c ≤ 13) (hz : c ≠ 0) : OpS G M_X1_rollTransactionBack 3 [.int (nI q)] T (inc (clT (unT T q 0 c) q) 1) (nI (cnt (difP T q 0 c) 16)) := fun N h0 => by
  subst h0
  exact c_X1_rollTransactionBack_y (i := 0) (by decide) hq hc (by omega) hz (why_tt hq hc hc2 (if_pos hz))
theorem opS_save_x {G : sv_G} {T : sv_T} {v nm : Int32} (hv : ¬ inR v (nI 0) (nI 2)) : OpS G M_X1_setSavepoint 2 [.int v, .int nm] T (T) (-1) := opS_e (fun N h0 => c_X1_setSavepoint_e (i := 0) (by decide) ne_c.1 (why_x hv))
theorem opS_save_b {G : sv_G} {T : sv_T} {nm : Int32} {q c : Nat} (hq : q < 3) (hc : T 14 q 0 = nI c) (hc2 : c ≤ 13) (hn : ¬ inR nm (nI 0) (nI 7)) : OpS G M_X1_setSavepoint 2 [.int (nI q), .int nm] T (T) (-2) := opS_e (fun N h0 => c_X1_setSavepoint_e (i := 0) (by decide) ne_c.2.1 (why_tb hq (by rw [h0]; exact hc) hc2 (if_neg hn)))
theorem opS_save_n {G : sv_G} {T : sv_T} {nm : Int32} {q c : Nat} (hq : q < 3) (hc : T 14 q 0 = nI c) (hc2 : c ≤ 13) (hn : inR nm (nI 0) (nI 7)) (hz : c = 0) : OpS G M_X1_setSavepoint 2 [.int (nI q), .int nm] T (T) (-4) := opS_e (fun N h0 => c_X1_setSavepoint_e (i := 0) (by decide) ne_c.2.2.2 (why_tb hq (by rw [h0]; exact hc) hc2 ((if_pos hn).trans (if_neg (fun z => z hz)))))
theorem opS_save_f {G : sv_G} {T : sv_T} {q : Nat} {nm : Int32} (hq : q < 3) (hc : T 14 q 0 = nI 13) (hn : inR nm (nI 0) (nI 7)) : OpS G M_X1_setSavepoint 2 [.int (nI q), .int nm] T (T) (-3) := opS_e (fun N h0 => c_X1_setSavepoint_f (i := 0) (by decide) hq (by rw [h0]; exact hc) (why_tb hq (by rw [h0]; exact hc) (by omega) ((if_pos hn).trans (if_pos (by omega)))))
theorem opS_save_y {G : sv_G} {T : sv_T} {q mq : Nat} {nm : Int32} (hq : q < 3) (hc : T 14 q 0 = nI (mq + 1)) (hmq : mq < 12) (hn : inR nm (nI 0) (nI 7)) : OpS G M_X1_setSavepoint 2 [.int (nI q), .int nm] T (inc (aM (tu T 16 q mq nm) q (mq + 1)) 6) (nI mq) := fun N h0 => by
  subst h0
  exact c_X1_setSavepoint_y (i := 0) (by decide) hq hc hmq (why_tb hq hc (by omega) ((if_pos hn).trans (if_pos (by omega))))
theorem spo_x {G : sv_G} {T : sv_T} {v nm : Int32} (hv : ¬ inR v (nI 0) (nI 2)) : ∀ N : sv_Mem, N 0 = T → sv_Ct G M_X1_savepointOrError 3 [.ref (sv_ad G 10 0 0), .int v, .int nm] N (some (.int (-1))) N := fun N h0 => c_X1_savepointOrError_e (i := 0) (by decide) ne_c.1 (why_x hv)
theorem spo_b {G : sv_G} {T : sv_T} {nm : Int32} {q c : Nat} (hq : q < 3) (hc : T 14 q 0 = nI c) (hc2 : c ≤ 13) (hn : ¬ inR nm (nI 0) (nI 7)) : ∀ N : sv_Mem, N 0 = T → sv_Ct G M_X1_savepointOrError 3 [.ref (sv_ad G 10 0 0), .int (nI q), .int nm] N (some (.int (-2))) N := fun N h0 => c_X1_savepointOrError_e (i := 0) (by decide) ne_c.2.1 (why_tb hq (by rw [h0]; exact hc) hc2 (if_neg hn))
theorem spo_n {G : sv_G} {T : sv_T} {nm : Int32} {q c : Nat} (hq : q < 3) (hc : T 14 q 0 = nI c) (hc2 : c ≤ 13) (hn : inR nm (nI 0) (nI 7)) (hz : c = 0) : ∀ N : sv_Mem, N 0 = T → sv_Ct G M_X1_savepointOrError 3 [.ref (sv_ad G 10 0 0), .int (nI q), .int nm] N (some (.int (-4))) N := fun N h0 => c_X1_savepointOrError_e (i := 0) (by decide) ne_c.2.2.2 (why_tb hq (by rw [h0]; exact hc) hc2 ((if_pos hn).trans (if_neg (fun z => z hz))))
theorem spo_0 {G : sv_G} {T : sv_T} {nm : Int32} {q c : Nat} (hq : q < 3) (hc : T 14 q 0 = nI c) (hc2 : c ≤ 13) (hn : inR nm (nI 0) (nI 7)) (hz : c ≠ 0) (hp : nrR (T 16 q) nm (c - 1) = -5) : ∀ N : sv_Mem, N 0 = T → sv_Ct G M_X1_savepointOrError 3 [.ref (sv_ad G 10 0 0), .int (nI q), .int nm] N (some (.int (-4))) N := fun N h0 => c_X1_savepointOrError_n (i := 0) (by decide) hq (by rw [h0]; exact hc) hc2 (by rw [h0]; exact hp) (why_tb hq (by rw [h0]; exact hc) hc2 ((if_pos hn).trans (if_pos hz)))
theorem spo_y {G : sv_G} {T : sv_T} {nm : Int32} {p : Nat} {q c : Nat} (hq : q < 3) (hc : T 14 q 0 = nI c) (hc2 : c ≤ 13) (hn : inR nm (nI 0) (nI 7)) (hz : c ≠ 0) (hp : nrR (T 16 q) nm (c - 1) = nI p) (hp2 : p < 2 ^ 30) : ∀ N : sv_Mem, N 0 = T → sv_Ct G M_X1_savepointOrError 3 [.ref (sv_ad G 10 0 0), .int (nI q), .int nm] N (some (.int (nI p))) N := fun N h0 => c_X1_savepointOrError_y (i := 0) (by decide) hq (by rw [h0]; exact hc) hc2 (by rw [h0]; exact hp) hp2 (why_tb hq (by rw [h0]; exact hc) hc2 ((if_pos hn).trans (if_pos hz)))
theorem opS_undo_e {G : sv_G} {T : sv_T} {v nm e : Int32} (he : e < 0) (hS : ∀ N : sv_Mem, N 0 = T → sv_Ct G M_X1_savepointOrError 3 [.ref (sv_ad G 10 0 0), .int v, .int nm] N (some (.int (e))) N) : OpS G M_X1_undoToName 4 [.int v, .int nm] T (T) (e) := opS_e (fun N h0 => c_X1_undoToName_e (i := 0) (by decide) he (hS N h0))
theorem opS_rel_e {G : sv_G} {T : sv_T} {v nm e : Int32} (he : e < 0) (hS : ∀ N : sv_Mem, N 0 = T → sv_Ct G M_X1_savepointOrError 3 [.ref (sv_ad G 10 0 0), .int v, .int nm] N (some (.int (e))) N) : OpS G M_X1_releaseName 4 [.int v, .int nm] T (T) (e) := opS_e (fun N h0 => c_X1_releaseName_e (i := 0) (by decide) he (hS N h0))
theorem opS_undo_y {G : sv_G} {T : sv_T} {nm : Int32} {p : Nat} {q c : Nat} (hq : q < 3) (hc : T 14 q 0 = nI c) (hc2 : c ≤ 13) (hp : p + 1 < c) (hS : ∀ N : sv_Mem, N 0 = T → sv_Ct G M_X1_savepointOrError 3 [.ref (sv_ad G 10 0 0), .int (nI q), .int nm] N (some (.int (nI p))) N) : OpS G M_X1_undoToName 4 [.int (nI q), .int nm] T (inc (drT (unT T q (p + 1) c) q (p + 1) c) 5) (nI (cnt (difP T q (p + 1) c) 16)) := fun N h0 => by
  have z := hS N h0
  subst h0
  exact c_X1_undoToName_y (i := 0) (by decide) hq hc (by omega) hp z
theorem opS_rel_y {G : sv_G} {T : sv_T} {nm : Int32} {p : Nat} {q c : Nat} (hq : q < 3) (hc : T 14 q 0 = nI c) (hc2 : c ≤ 13) (hp : p + 1 < c) (hS : ∀ N : sv_Mem, N 0 = T → sv_Ct G M_X1_savepointOrError 3 [.ref (sv_ad G 10 0 0), .int (nI q), .int nm] N (some (.int (nI p))) N) : OpS G M_X1_releaseName 4 [.int (nI q), .int nm] T (drT T q p c) (nI (c - 1 - p)) := fun N h0 => by
  have z := hS N h0
  subst h0
  exact c_X1_releaseName_y (i := 0) (by decide) hq hc (by omega) hp z
theorem opS_read_x {G : sv_G} {T : sv_T} {v w : Int32} (h : ¬ inR v (nI 0) (nI 2) ∨ (∃ q c, q < 3 ∧ v = nI q ∧ T 14 q 0 = nI c ∧ c ≤ 13 ∧ ¬ inR w (nI 0) (nI 15))) : OpS G M_X1_readKey 4 [.int v, .int w] T (T) (-1) := opS_e (fun N h0 => by
  rcases h with hv | ⟨q, c, hq, rfl, hc, hc2, hw⟩
  · exact c_X1_readKey_e (i := 0) (by decide) ne_c.1 (why_x hv)
  · exact c_X1_readKey_e (i := 0) (by decide) ne_c.1 (why_at hq (by rw [h0]; exact hc) hc2 (if_neg hw)))
theorem opS_read_n {G : sv_G} {T : sv_T} {k : Nat} {q c : Nat} (hq : q < 3) (hc : T 14 q 0 = nI c) (hc2 : c ≤ 13) (hk : k < 16) (hz : c = 0) : OpS G M_X1_readKey 4 [.int (nI q), .int (nI k)] T (T) (-4) := opS_e (fun N h0 => c_X1_readKey_e (i := 0) (by decide) ne_c.2.2.2 (why_at hq (by rw [h0]; exact hc) hc2 ((if_pos (inR_lt (by omega) (by omega))).trans (if_neg (fun z => z hz)))))
theorem opS_erase_x {G : sv_G} {T : sv_T} {v w : Int32} (h : ¬ inR v (nI 0) (nI 2) ∨ (∃ q c, q < 3 ∧ v = nI q ∧ T 14 q 0 = nI c ∧ c ≤ 13 ∧ ¬ inR w (nI 0) (nI 15))) : OpS G M_X1_eraseKey 4 [.int v, .int w] T (T) (-1) := opS_e (fun N h0 => by
  rcases h with hv | ⟨q, c, hq, rfl, hc, hc2, hw⟩
  · exact c_X1_eraseKey_e (i := 0) (by decide) ne_c.1 (why_x hv)
  · exact c_X1_eraseKey_e (i := 0) (by decide) ne_c.1 (why_at hq (by rw [h0]; exact hc) hc2 (if_neg hw)))
theorem opS_erase_n {G : sv_G} {T : sv_T} {k : Nat} {q c : Nat} (hq : q < 3) (hc : T 14 q 0 = nI c) (hc2 : c ≤ 13) (hk : k < 16) (hz : c = 0) : OpS G M_X1_eraseKey 4 [.int (nI q), .int (nI k)] T (T) (-4) := opS_e (fun N h0 => c_X1_eraseKey_e (i := 0) (by decide) ne_c.2.2.2 (why_at hq (by rw [h0]; exact hc) hc2 ((if_pos (inR_lt (by omega) (by omega))).trans (if_neg (fun z => z hz)))))
theorem opS_read_y {G : sv_G} {T : sv_T} {q mq k : Nat} (hq : q < 3) (hc : T 14 q 0 = nI (mq + 1)) (hmq : mq ≤ 12) (hk : k < 16) : OpS G M_X1_readKey 4 [.int (nI q), .int (nI k)] T (enT (tkT (bsT T q mq) q k (nI 1)) q mq (rdC (bsT T q mq) q k)) (rdC (bsT T q mq) q k) := fun N h0 => by
  subst h0
  exact c_X1_readKey_y (i := 0) (by decide) hq hc hmq hk (why_at hq hc (by omega) ((if_pos (inR_lt (by omega) (by omega))).trans (if_pos (by omega))))
theorem opS_erase_y {G : sv_G} {T : sv_T} {q mq k : Nat} (hq : q < 3) (hc : T 14 q 0 = nI (mq + 1)) (hmq : mq ≤ 12) (hk : k < 16) : OpS G M_X1_eraseKey 4 [.int (nI q), .int (nI k)] T (enT (rvT (bsT T q mq) q k (mq + 1) (-5)) q mq (rvC (bsT T q mq) q k)) (rvC (bsT T q mq) q k) := fun N h0 => by
  subst h0
  exact c_X1_eraseKey_y (i := 0) (by decide) hq hc hmq hk (why_at hq hc (by omega) ((if_pos (inR_lt (by omega) (by omega))).trans (if_pos (by omega))))
theorem opS_write_x {G : sv_G} {T : sv_T} {v w u : Int32} (h : ¬ inR v (nI 0) (nI 2) ∨ (∃ q c, q < 3 ∧ v = nI q ∧ T 14 q 0 = nI c ∧ c ≤ 13 ∧ ¬ inR w (nI 0) (nI 15))) : OpS G M_X1_writeKey 4 [.int v, .int w, .int u] T (T) (-1) := opS_e (fun N h0 => by
  rcases h with hv | ⟨q, c, hq, rfl, hc, hc2, hw⟩
  · exact c_X1_writeKey_e (i := 0) (by decide) ne_c.1 (why_x hv)
  · exact c_X1_writeKey_e (i := 0) (by decide) ne_c.1 (why_ab hq (by rw [h0]; exact hc) hc2 (if_neg hw)))
theorem opS_write_b {G : sv_G} {T : sv_T} {k : Nat} {u : Int32} {q c : Nat} (hq : q < 3) (hc : T 14 q 0 = nI c) (hc2 : c ≤ 13) (hk : k < 16) (hu : ¬ inR u (nI 0) (nI 9999)) : OpS G M_X1_writeKey 4 [.int (nI q), .int (nI k), .int u] T (T) (-2) := opS_e (fun N h0 => c_X1_writeKey_e (i := 0) (by decide) ne_c.2.1 (why_ab hq (by rw [h0]; exact hc) hc2 ((if_pos (inR_lt (by omega) (by omega))).trans (if_neg hu))))
theorem opS_write_n {G : sv_G} {T : sv_T} {k : Nat} {u : Int32} {q c : Nat} (hq : q < 3) (hc : T 14 q 0 = nI c) (hc2 : c ≤ 13) (hk : k < 16) (hu : inR u (nI 0) (nI 9999)) (hz : c = 0) : OpS G M_X1_writeKey 4 [.int (nI q), .int (nI k), .int u] T (T) (-4) := opS_e (fun N h0 => c_X1_writeKey_e (i := 0) (by decide) ne_c.2.2.2 (why_ab hq (by rw [h0]; exact hc) hc2 ((if_pos (inR_lt (by omega) (by omega))).trans ((if_pos hu).trans (if_neg (fun z => z hz))))))
theorem opS_write_y {G : sv_G} {T : sv_T} {q mq k : Nat} (hq : q < 3) (hc : T 14 q 0 = nI (mq + 1)) (hmq : mq ≤ 12) (hk : k < 16) {u : Int32} (hu : inR u (nI 0) (nI 9999)) : OpS G M_X1_writeKey 4 [.int (nI q), .int (nI k), .int u] T (enT (rvT (bsT T q mq) q k (mq + 1) u) q mq (rvC (bsT T q mq) q k)) (rvC (bsT T q mq) q k) := fun N h0 => by
  subst h0
  exact c_X1_writeKey_y (i := 0) (by decide) hq hc hmq hk (why_ab hq hc (by omega) ((if_pos (inR_lt (by omega) (by omega))).trans ((if_pos hu).trans (if_pos (by omega)))))
theorem opS_shift_x {G : sv_G} {T : sv_T} {v keys d : Int32} (hv : ¬ inR v (nI 0) (nI 2)) : OpS G M_X1_shiftKeys 4 [.int v, .int keys, .int d] T (T) (-1) := opS_e (fun N h0 => c_X1_shiftKeys_e (i := 0) (b := (inR keys (nI 1) 65535 ∧ inR d (-9999) (nI 9999))) (by decide) Iff.rfl ne_c.1 (why_x hv))
theorem opS_shift_b {G : sv_G} {T : sv_T} {keys d : Int32} {q c : Nat} (hq : q < 3) (hc : T 14 q 0 = nI c) (hc2 : c ≤ 13) (hb : ¬ (inR keys (nI 1) 65535 ∧ inR d (-9999) (nI 9999))) : OpS G M_X1_shiftKeys 4 [.int (nI q), .int keys, .int d] T (T) (-2) := opS_e (fun N h0 => c_X1_shiftKeys_e (i := 0) (b := (inR keys (nI 1) 65535 ∧ inR d (-9999) (nI 9999))) (by decide) Iff.rfl ne_c.2.1 (why_tb hq (by rw [h0]; exact hc) hc2 (if_neg hb)))
theorem opS_shift_n {G : sv_G} {T : sv_T} {keys d : Int32} {q c : Nat} (hq : q < 3) (hc : T 14 q 0 = nI c) (hc2 : c ≤ 13) (hb : (inR keys (nI 1) 65535 ∧ inR d (-9999) (nI 9999))) (hz : c = 0) : OpS G M_X1_shiftKeys 4 [.int (nI q), .int keys, .int d] T (T) (-4) := opS_e (fun N h0 => c_X1_shiftKeys_e (i := 0) (b := (inR keys (nI 1) 65535 ∧ inR d (-9999) (nI 9999))) (by decide) Iff.rfl ne_c.2.2.2 (why_tb hq (by rw [h0]; exact hc) hc2 ((if_pos hb).trans (if_neg (fun z => z hz)))))
theorem opS_shift_y {G : sv_G} {T : sv_T} {q mq kn : Nat} {keys d : Int32} (hq : q < 3) (hc : T 14 q 0 = nI (mq + 1)) (hmq : mq ≤ 12) (hkn : keys = nI kn) (hkl : kn < 65536) (hb : (inR keys (nI 1) 65535 ∧ inR d (-9999) (nI 9999))) : OpS G M_X1_shiftKeys 4 [.int (nI q), .int keys, .int d] T (enT (shT (bsT T q mq) q (mq + 1) keys d (nI (pcn keys)) 16).1 q mq (shT (bsT T q mq) q (mq + 1) keys d (nI (pcn keys)) 16).2) ((shT (bsT T q mq) q (mq + 1) keys d (nI (pcn keys)) 16).2) := fun N h0 => by
  subst h0
  exact c_X1_shiftKeys_y (i := 0) (b := (inR keys (nI 1) 65535 ∧ inR d (-9999) (nI 9999))) (by decide) hq hc hmq hkn hkl Iff.rfl (why_tb hq hc (by omega) ((if_pos hb).trans (if_pos (by omega))))
theorem opS_move_x {G : sv_G} {T : sv_T} {v f t amt : Int32} (h : ¬ inR v (nI 0) (nI 2) ∨ (∃ q c, q < 3 ∧ v = nI q ∧ T 14 q 0 = nI c ∧ c ≤ 13 ∧ ¬ (inR f (nI 0) (nI 15) ∧ inR t (nI 0) (nI 15)))) : OpS G M_X1_moveAmount 4 [.int v, .int f, .int t, .int amt] T (T) (-1) := opS_e (fun N h0 => by
  rcases h with hv | ⟨q, c, hq, rfl, hc, hc2, hw⟩
  · exact c_X1_moveAmount_e (i := 0) (a := (inR f (nI 0) (nI 15) ∧ inR t (nI 0) (nI 15))) (b := (inR amt (nI 1) (nI 9999) ∧ f ≠ t)) (by decide) Iff.rfl Iff.rfl ne_c.1 (why_x hv)
  · exact c_X1_moveAmount_e (i := 0) (a := (inR f (nI 0) (nI 15) ∧ inR t (nI 0) (nI 15))) (b := (inR amt (nI 1) (nI 9999) ∧ f ≠ t)) (by decide) Iff.rfl Iff.rfl ne_c.1 (why_ab hq (by rw [h0]; exact hc) hc2 (if_neg hw)))
theorem opS_move_b {G : sv_G} {T : sv_T} {f t amt : Int32} {q c : Nat} (hq : q < 3) (hc : T 14 q 0 = nI c) (hc2 : c ≤ 13) (ha : (inR f (nI 0) (nI 15) ∧ inR t (nI 0) (nI 15))) (hb : ¬ (inR amt (nI 1) (nI 9999) ∧ f ≠ t)) : OpS G M_X1_moveAmount 4 [.int (nI q), .int f, .int t, .int amt] T (T) (-2) := opS_e (fun N h0 => c_X1_moveAmount_e (i := 0) (a := (inR f (nI 0) (nI 15) ∧ inR t (nI 0) (nI 15))) (b := (inR amt (nI 1) (nI 9999) ∧ f ≠ t)) (by decide) Iff.rfl Iff.rfl ne_c.2.1 (why_ab hq (by rw [h0]; exact hc) hc2 ((if_pos ha).trans (if_neg hb))))
theorem opS_move_n {G : sv_G} {T : sv_T} {f t amt : Int32} {q c : Nat} (hq : q < 3) (hc : T 14 q 0 = nI c) (hc2 : c ≤ 13) (ha : (inR f (nI 0) (nI 15) ∧ inR t (nI 0) (nI 15))) (hb : (inR amt (nI 1) (nI 9999) ∧ f ≠ t)) (hz : c = 0) : OpS G M_X1_moveAmount 4 [.int (nI q), .int f, .int t, .int amt] T (T) (-4) := opS_e (fun N h0 => c_X1_moveAmount_e (i := 0) (a := (inR f (nI 0) (nI 15) ∧ inR t (nI 0) (nI 15))) (b := (inR amt (nI 1) (nI 9999) ∧ f ≠ t)) (by decide) Iff.rfl Iff.rfl ne_c.2.2.2 (why_ab hq (by rw [h0]; exact hc) hc2 ((if_pos ha).trans ((if_pos hb).trans (if_neg (fun z => z hz))))))
theorem opS_move_y {G : sv_G} {T : sv_T} {q mq ka kb : Nat} {amt : Int32} (hq : q < 3) (hc : T 14 q 0 = nI (mq + 1)) (hmq : mq ≤ 12) (hka : ka < 16) (hkb : kb < 16) (hb : (inR amt (nI 1) (nI 9999) ∧ nI ka ≠ nI kb)) : OpS G M_X1_moveAmount 4 [.int (nI q), .int (nI ka), .int (nI kb), .int amt] T (enT (mvT (bsT T q mq) q (mq + 1) ka kb amt).1 q mq (mvT (bsT T q mq) q (mq + 1) ka kb amt).2) ((mvT (bsT T q mq) q (mq + 1) ka kb amt).2) := fun N h0 => by
  subst h0
  exact c_X1_moveAmount_y (i := 0) (a := (inR (nI ka) (nI 0) (nI 15) ∧ inR (nI kb) (nI 0) (nI 15))) (b := (inR amt (nI 1) (nI 9999) ∧ nI ka ≠ nI kb)) (by decide) hq hc hmq hka hkb Iff.rfl Iff.rfl (why_ab hq hc (by omega) ((if_pos ⟨(inR_lt (by omega) (by omega)), (inR_lt (by omega) (by omega))⟩).trans ((if_pos hb).trans (if_pos (by omega)))))
