theorem act_ok2 {G : sv_G} {m1 m2 : sv_M} {d1 d2 : Nat} {args : List Value} {M : sv_Mem} {cs cs2 : Nat → Nat} {o t n : Nat} {r r2 : Int32} {T2 : sv_T} {s2 n2 : Nat → Int32} (I : INVp M cs o t n) (h : RR T2 s2 cs2) (hr : r = r2) (h1 : sv_Ct G m1 d1 (.ref (sv_ad G 0 8 0) :: args) M (some (.int r)) (rcY (sT (rmM M o t cs) 0 T2) o t)) (h2 : ∀ N : sv_Mem, N 9 = M 9 → sv_Ct G m2 d2 (.ref (sv_ad G 4 9 0) :: args) N (some (.int r2)) (mS (mN (rcM N t) n2) s2)) : ActOk G m1 d1 m2 d2 args M := act_ok I h hr h1 (h2 _ N9)
theorem T8 (M : sv_Mem) (cs : Nat → Nat) (o t : Nat) (T2 : sv_T) : sT (rmM M o t cs) 0 T2 8 0 0 = M 8 0 0 := by rw [sT_ne _ _ (by omega), rmM_8]
theorem OpS.rm {G : sv_G} {op : sv_M} {d : Nat} {args : List Value} {M : sv_Mem} {cs : Nat → Nat} {o t : Nat} {r : Int32} {T2 : sv_T} (h : OpS G op d args (M 0) T2 r) : sv_Ct G op d (.ref (sv_ad G 10 0 0) :: args) (rmM M o t cs) (some (.int r)) (sT (rmM M o t cs) 0 T2) := h _ (rmM_0 M o t cs)
theorem OpS.re {G : sv_G} {op : sv_M} {d : Nat} {args : List Value} {M : sv_Mem} {cs : Nat → Nat} {o t : Nat} {r : Int32} (h : OpS G op d args (M 0) (M 0) r) : sv_Ct G op d (.ref (sv_ad G 10 0 0) :: args) (rmM M o t cs) (some (.int r)) (rmM M o t cs) := h.err (rmM_0 M o t cs)
theorem mN_add2 (N : sv_Mem) (t : Nat) (s2 n2 : Nat → Int32) (h : N 9 9 0 = n2) : mS (rcM N t) s2 = mS (mN (rcM N t) n2) s2 := by rw [mN_add, h]
theorem n9 {N M : sv_Mem} (h : N 9 = M 9) (k j n : Nat) : N 9 k j n = M 9 k j n := by rw [h]
theorem n9f {N M : sv_Mem} (h : N 9 = M 9) (k j : Nat) : N 9 k j = M 9 k j := by rw [h]
theorem spE_b {s : Nat → Int32} {q : Nat} {nm : Int32} (h : ¬ inR nm (nI 0) (nI 7)) : spE s q nm = -2 := if_neg h
theorem spE_n {s : Nat → Int32} {q : Nat} {nm : Int32} (h : inR nm (nI 0) (nI 7)) (ho : ¬ s (24 + q) = nI 1) : spE s q nm = -4 := (if_pos h).trans (if_neg ho)
theorem spE_f {s : Nat → Int32} {q : Nat} {nm : Int32} (h : inR nm (nI 0) (nI 7)) (ho : s (24 + q) = nI 1) (h12 : s (27 + q) = nI 12) : spE s q nm = -3 := (if_pos h).trans ((if_pos ho).trans (if_pos h12))
theorem spE_y {s : Nat → Int32} {q : Nat} {nm : Int32} (h : inR nm (nI 0) (nI 7)) (ho : s (24 + q) = nI 1) (h12 : ¬ s (27 + q) = nI 12) : spE s q nm = nI 0 := (if_pos h).trans ((if_pos ho).trans (if_neg h12))
theorem nmE_b {s : Nat → Int32} {q mq : Nat} {nm : Int32} (h : ¬ inR nm (nI 0) (nI 7)) : nmE s q nm mq = -2 := if_neg h
theorem nmE_n {s : Nat → Int32} {q mq : Nat} {nm : Int32} (h : inR nm (nI 0) (nI 7)) (ho : ¬ s (24 + q) = nI 1) : nmE s q nm mq = -4 := (if_pos h).trans (if_neg ho)
theorem nmE_0 {s : Nat → Int32} {q mq : Nat} {nm : Int32} (h : inR nm (nI 0) (nI 7)) (hp : nmR s q nm mq = -5) : nmE s q nm mq = -4 := by
  by_cases ho : s (24 + q) = nI 1
  · exact (if_pos h).trans ((if_pos ho).trans (if_pos hp))
  · exact (if_pos h).trans (if_neg ho)
theorem nmE_y {s : Nat → Int32} {q mq p : Nat} {nm : Int32} (h : inR nm (nI 0) (nI 7)) (ho : s (24 + q) = nI 1) (hp : nmR s q nm mq = nI p) (hp2 : p < 2 ^ 31) : nmE s q nm mq = nI 0 := (if_pos h).trans ((if_pos ho).trans (if_neg (fun z => nI_pos hp2 (by rw [← hp, z]; decide))))
theorem nm_rel {T : sv_T} {s : Nat → Int32} {q mq : Nat} {nm : Int32} (h : sesB T s q (mq + 1)) : nrR (T 16 q) nm mq = nmR s q nm mq := nrR_congr (fun p hp => h.2.2.2.2.2.2.1 p (by omega))

set_option maxHeartbeats 1000000 in
theorem act_begin {G : sv_G} {M : sv_Mem} (I : INV M) (v : Int32) : ActOk G M_X3_begin 4 M_X4_begin 3 [.int v] M := by
  obtain ⟨cs, o, t, n, I⟩ := I
  have hkp := I.2.2.2.2.2.1
  have ht5 := I.2.2.1
  by_cases hv : inR v (nI 0) (nI 2)
  · obtain ⟨q, hq, rfl⟩ := inR_ex (by omega) hv
    have hq3 : q < 3 := by omega
    have hs := I.1.2.2.2 q hq3
    have hc : M 0 14 q 0 = nI (cs q) := hs.2.1
    have hc13 := hs.1
    by_cases hz : cs q = 0
    · obtain ⟨hR, hret⟩ := open_sim I.1 hq3 hz
      exact act_ok2 I hR hret (c_X3_begin_y I.hs (OpS.rm (opS_open_y hq3 (RR_cs I.1).1 (by rw [hc, hz]))) (er_n _ (by have := cnt_le (fun j => va_up cs q 1 j ≠ 0) 3; omega)) (T8 ..)) (fun N hN => by
        have z := c_X4_begin_y (G := G) (M := N) (q := q) (t := t) hq3 (by rw [hN]; exact (ses_c hs hz).2) (by rw [hN]; exact hkp) ht5
        rw [mN_add] at z
        simp only [hN] at z
        exact z)
    · obtain ⟨mq, hm, hm12, ho, hmq⟩ := ses_o hs hz
      exact act_err I (c_X3_begin_e I.hs (OpS.re (opS_open_n hq3 hc hc13 hz)) er_c.2.2.2) (c_X4_begin_n hq3 (by rw [R9]; exact ho))
  · exact act_err I (c_X3_begin_e I.hs (OpS.re (opS_open_x hv)) er_c.1) (c_X4_begin_x hv)
set_option maxHeartbeats 1000000 in
theorem act_commit {G : sv_G} {M : sv_Mem} (I : INV M) (v : Int32) : ActOk G M_X3_commit 4 M_X4_commit 4 [.int v] M := by
  obtain ⟨cs, o, t, n, I⟩ := I
  have hkp := I.2.2.2.2.2.1
  have ht5 := I.2.2.1
  by_cases hv : inR v (nI 0) (nI 2)
  · obtain ⟨q, hq, rfl⟩ := inR_ex (by omega) hv
    have hq3 : q < 3 := by omega
    have hs := I.1.2.2.2 q hq3
    have hc : M 0 14 q 0 = nI (cs q) := hs.2.1
    have hc13 := hs.1
    by_cases hz : cs q = 0
    · exact act_err I (c_X3_commit_e I.hs (OpS.re (opS_commit_n hq3 hc hc13 hz)) er_c.2.2.2) (c_X4_commit_n hq3 (by rw [R9]; exact (ses_c hs hz).2))
    · obtain ⟨mq, hm, hm12, ho, hmq⟩ := ses_o hs hz
      have hc1 : M 0 14 q 0 = nI (mq + 1) := by rw [hc, hm]
      obtain ⟨hR, hret⟩ := commit_sim I.1 hq3 hm
      exact act_ok2 I hR (congrArg nI hret) (c_X3_commit_y I.hs (OpS.rm (opS_commit_y hq3 hc1 (by omega) (by omega))) (er_n _ (by have := cnt_le (difP (M 0) q 0 (mq + 1)) 16; omega)) (T8 ..)) (fun N hN => by
        have z := c_X4_commit_y (G := G) (M := N) (q := q) (t := t) (mq := mq) (by rw [hN]; exact hmq) hm12 hq3 (by rw [hN]; exact ho) (by rw [hN]; exact hkp) ht5
        rw [mN_add] at z
        simp only [hN] at z
        exact z)
  · exact act_err I (c_X3_commit_e I.hs (OpS.re (opS_commit_x hv)) er_c.1) (c_X4_commit_x hv)
set_option maxHeartbeats 1000000 in
theorem act_rollback {G : sv_G} {M : sv_Mem} (I : INV M) (v : Int32) : ActOk G M_X3_rollback 4 M_X4_rollback 4 [.int v] M := by
  obtain ⟨cs, o, t, n, I⟩ := I
  have hkp := I.2.2.2.2.2.1
  have ht5 := I.2.2.1
  by_cases hv : inR v (nI 0) (nI 2)
  · obtain ⟨q, hq, rfl⟩ := inR_ex (by omega) hv
    have hq3 : q < 3 := by omega
    have hs := I.1.2.2.2 q hq3
    have hc : M 0 14 q 0 = nI (cs q) := hs.2.1
    have hc13 := hs.1
    by_cases hz : cs q = 0
    · exact act_err I (c_X3_rollback_e I.hs (OpS.re (opS_roll_n hq3 hc hc13 hz)) er_c.2.2.2) (c_X4_rollback_n hq3 (by rw [R9]; exact (ses_c hs hz).2))
    · obtain ⟨mq, hm, hm12, ho, hmq⟩ := ses_o hs hz
      have hc1 : M 0 14 q 0 = nI (mq + 1) := by rw [hc, hm]
      obtain ⟨hR, hret⟩ := roll_sim I.1 hq3 hm
      exact act_ok2 I hR (congrArg nI hret) (c_X3_rollback_y I.hs (OpS.rm (opS_roll_y hq3 hc1 (by omega) (by omega))) (er_n _ (by have := cnt_le (difP (M 0) q 0 (mq + 1)) 16; omega)) (T8 ..)) (fun N hN => by
        have z := c_X4_rollback_y (G := G) (M := N) (q := q) (t := t) (mq := mq) (by rw [hN]; exact hmq) hm12 hq3 (by rw [hN]; exact ho) (by rw [hN]; exact hkp) ht5
        rw [mN_add] at z
        simp only [hN] at z
        exact z)
  · exact act_err I (c_X3_rollback_e I.hs (OpS.re (opS_roll_x hv)) er_c.1) (c_X4_rollback_x hv)
set_option maxHeartbeats 1000000 in
theorem act_savepoint {G : sv_G} {M : sv_Mem} (I : INV M) (v w : Int32) : ActOk G M_X3_savepoint 4 M_X4_savepoint 3 [.int v, .int w] M := by
  obtain ⟨cs, o, t, n, I⟩ := I
  have hkp := I.2.2.2.2.2.1
  have ht5 := I.2.2.1
  by_cases hv : inR v (nI 0) (nI 2)
  · obtain ⟨q, hq, rfl⟩ := inR_ex (by omega) hv
    have hq3 : q < 3 := by omega
    have hs := I.1.2.2.2 q hq3
    have hc : M 0 14 q 0 = nI (cs q) := hs.2.1
    have hc13 := hs.1
    by_cases hn : inR w (nI 0) (nI 7)
    · by_cases hz : cs q = 0
      · exact act_err I (c_X3_savepoint_e I.hs (OpS.re (opS_save_n hq3 hc hc13 hn hz)) er_c.2.2.2) (by
        have z := c_X4_savepoint_n (G := G) (M := rmM M o t cs) (q := q) (nm := w) (mq := cs q - 1) (by rw [R9]; exact (show M 9 5 0 (27 + q) = nI (cs q - 1) from hs.2.2.2.1)) (by omega) hq3 (by rw [R9, spE_n hn (ses_c hs hz).2]; decide)
        rw [R9, spE_n hn (ses_c hs hz).2] at z
        exact z)
      · obtain ⟨mq, hm, hm12, ho, hmq⟩ := ses_o hs hz
        have hc1 : M 0 14 q 0 = nI (mq + 1) := by rw [hc, hm]
        by_cases h12 : mq = 12
        · subst h12
          exact act_err I (c_X3_savepoint_e I.hs (OpS.re (opS_save_f hq3 hc1 hn)) er_c.2.2.1) (by
        have z := c_X4_savepoint_n (G := G) (M := rmM M o t cs) (q := q) (nm := w) (mq := 12) (by rw [R9]; exact hmq) (by omega) hq3 (by rw [R9, spE_f hn ho hmq]; decide)
        rw [R9, spE_f hn ho hmq] at z
        exact z)
        · have h12b : ¬ M 9 5 0 (27 + q) = nI 12 := fun z => h12 ((nI_eq (by omega) (by omega)).mp (hmq.symm.trans z))
          exact act_ok2 I (save_sim (nm := w) I.1 hq3 hm (by omega)) rfl (c_X3_savepoint_y I.hs (OpS.rm (opS_save_y hq3 hc1 (by omega) hn)) (er_n _ (by omega)) (T8 ..)) (fun N hN => by
        have z := c_X4_savepoint_y (G := G) (M := N) (q := q) (t := t) (mq := mq) (nm := w) (by rw [hN]; exact hmq) hm12 hq3 (by rw [hN]; exact spE_y hn ho h12b) h12 (by rw [hN]; exact hkp) ht5
        rw [mN_add] at z
        simp only [hN] at z
        exact z)
    · exact act_err I (c_X3_savepoint_e I.hs (OpS.re (opS_save_b hq3 hc hc13 hn)) er_c.2.1) (by
        have z := c_X4_savepoint_n (G := G) (M := rmM M o t cs) (q := q) (nm := w) (mq := cs q - 1) (by rw [R9]; exact (show M 9 5 0 (27 + q) = nI (cs q - 1) from hs.2.2.2.1)) (by omega) hq3 (by rw [R9, spE_b hn]; decide)
        rw [R9, spE_b hn] at z
        exact z)
  · exact act_err I (c_X3_savepoint_e I.hs (OpS.re (opS_save_x hv)) er_c.1) (c_X4_savepoint_x hv)
set_option maxHeartbeats 1000000 in
theorem act_undoTo {G : sv_G} {M : sv_Mem} (I : INV M) (v w : Int32) : ActOk G M_X3_undoTo 5 M_X4_undoTo 4 [.int v, .int w] M := by
  obtain ⟨cs, o, t, n, I⟩ := I
  have hkp := I.2.2.2.2.2.1
  have ht5 := I.2.2.1
  by_cases hv : inR v (nI 0) (nI 2)
  · obtain ⟨q, hq, rfl⟩ := inR_ex (by omega) hv
    have hq3 : q < 3 := by omega
    have hs := I.1.2.2.2 q hq3
    have hc : M 0 14 q 0 = nI (cs q) := hs.2.1
    have hc13 := hs.1
    by_cases hn : inR w (nI 0) (nI 7)
    · by_cases hz : cs q = 0
      · exact act_err I (c_X3_undoTo_e I.hs (OpS.re (opS_undo_e (by decide) (spo_n hq3 hc hc13 hn hz))) er_c.2.2.2) (by
        have z := c_X4_undoTo_n (G := G) (M := rmM M o t cs) (q := q) (nm := w) (mq := cs q - 1) (by rw [R9]; exact (show M 9 5 0 (27 + q) = nI (cs q - 1) from hs.2.2.2.1)) (by omega) hq3 (by rw [R9, nmE_n hn (ses_c hs hz).2]; decide)
        rw [R9, nmE_n hn (ses_c hs hz).2] at z
        exact z)
      · obtain ⟨mq, hm, hm12, ho, hmq⟩ := ses_o hs hz
        have hc1 : M 0 14 q 0 = nI (mq + 1) := by rw [hc, hm]
        have hs1 : sesB (M 0) (M 9 5 0) q (mq + 1) := hm ▸ hs
        have hnr := nm_rel (nm := w) hs1
        rcases nrR_or (M 0 16 q) w mq with hp | ⟨p, hp1, hp⟩
        · exact act_err I (c_X3_undoTo_e I.hs (OpS.re (opS_undo_e (by decide) (spo_0 hq3 hc1 (by omega) hn (by omega) hp))) er_c.2.2.2) (by
        have z := c_X4_undoTo_n (G := G) (M := rmM M o t cs) (q := q) (nm := w) (mq := mq) (by rw [R9]; exact hmq) hm12 hq3 (by rw [R9, nmE_0 hn (hnr.symm.trans hp)]; decide)
        rw [R9, nmE_0 hn (hnr.symm.trans hp)] at z
        exact z)
        · have hp9 := hnr.symm.trans hp
          have hS := spo_y (G := G) (T := M 0) (p := p) hq3 hc1 (by omega) hn (by omega) hp (by omega)
          obtain ⟨hR, hret⟩ := undo_sim I.1 hq3 hm (m := p + 1) (by omega)
          exact act_ok2 I hR (congrArg nI hret) (c_X3_undoTo_y I.hs (OpS.rm (opS_undo_y hq3 hc1 (by omega) (by omega) hS)) (er_n _ (by have := cnt_le (difP (M 0) q (p + 1) (mq + 1)) 16; omega)) (T8 ..)) (fun N hN => by
        have z := c_X4_undoTo_y (G := G) (M := N) (q := q) (t := t) (mq := mq) (nm := w) (by rw [hN]; exact hmq) hm12 hq3 (by rw [hN]; exact nmE_y hn ho hp9 (by omega)) (p := p) (by rw [hN]; exact hp9) hp1 (by rw [hN]; exact hkp) ht5
        rw [mN_add] at z
        simp only [hN] at z
        exact z)
    · exact act_err I (c_X3_undoTo_e I.hs (OpS.re (opS_undo_e (by decide) (spo_b hq3 hc hc13 hn))) er_c.2.1) (by
        have z := c_X4_undoTo_n (G := G) (M := rmM M o t cs) (q := q) (nm := w) (mq := cs q - 1) (by rw [R9]; exact (show M 9 5 0 (27 + q) = nI (cs q - 1) from hs.2.2.2.1)) (by omega) hq3 (by rw [R9, nmE_b hn]; decide)
        rw [R9, nmE_b hn] at z
        exact z)
  · exact act_err I (c_X3_undoTo_e I.hs (OpS.re (opS_undo_e (by decide) (spo_x hv))) er_c.1) (c_X4_undoTo_x hv)
set_option maxHeartbeats 1000000 in
theorem act_release {G : sv_G} {M : sv_Mem} (I : INV M) (v w : Int32) : ActOk G M_X3_release 5 M_X4_release 3 [.int v, .int w] M := by
  obtain ⟨cs, o, t, n, I⟩ := I
  have hkp := I.2.2.2.2.2.1
  have ht5 := I.2.2.1
  by_cases hv : inR v (nI 0) (nI 2)
  · obtain ⟨q, hq, rfl⟩ := inR_ex (by omega) hv
    have hq3 : q < 3 := by omega
    have hs := I.1.2.2.2 q hq3
    have hc : M 0 14 q 0 = nI (cs q) := hs.2.1
    have hc13 := hs.1
    by_cases hn : inR w (nI 0) (nI 7)
    · by_cases hz : cs q = 0
      · exact act_err I (c_X3_release_e I.hs (OpS.re (opS_rel_e (by decide) (spo_n hq3 hc hc13 hn hz))) er_c.2.2.2) (by
        have z := c_X4_release_n (G := G) (M := rmM M o t cs) (q := q) (nm := w) (mq := cs q - 1) (by rw [R9]; exact (show M 9 5 0 (27 + q) = nI (cs q - 1) from hs.2.2.2.1)) (by omega) hq3 (by rw [R9, nmE_n hn (ses_c hs hz).2]; decide)
        rw [R9, nmE_n hn (ses_c hs hz).2] at z
        exact z)
      · obtain ⟨mq, hm, hm12, ho, hmq⟩ := ses_o hs hz
        have hc1 : M 0 14 q 0 = nI (mq + 1) := by rw [hc, hm]
        have hs1 : sesB (M 0) (M 9 5 0) q (mq + 1) := hm ▸ hs
        have hnr := nm_rel (nm := w) hs1
        rcases nrR_or (M 0 16 q) w mq with hp | ⟨p, hp1, hp⟩
        · exact act_err I (c_X3_release_e I.hs (OpS.re (opS_rel_e (by decide) (spo_0 hq3 hc1 (by omega) hn (by omega) hp))) er_c.2.2.2) (by
        have z := c_X4_release_n (G := G) (M := rmM M o t cs) (q := q) (nm := w) (mq := mq) (by rw [R9]; exact hmq) hm12 hq3 (by rw [R9, nmE_0 hn (hnr.symm.trans hp)]; decide)
        rw [R9, nmE_0 hn (hnr.symm.trans hp)] at z
        exact z)
        · have hp9 := hnr.symm.trans hp
          have hS := spo_y (G := G) (T := M 0) (p := p) hq3 hc1 (by omega) hn (by omega) hp (by omega)
          exact act_ok2 I (rel_sim I.1 hq3 hm (p := p) (by omega)) (show nI (mq + 1 - 1 - p) = nI (mq - p) from rfl) (c_X3_release_y I.hs (OpS.rm (opS_rel_y hq3 hc1 (by omega) (by omega) hS)) (er_n _ (by omega)) (T8 ..)) (fun N hN => by
        have z := c_X4_release_y (G := G) (M := N) (q := q) (t := t) (mq := mq) (nm := w) (by rw [hN]; exact hmq) hm12 hq3 (by rw [hN]; exact nmE_y hn ho hp9 (by omega)) (p := p) (by rw [hN]; exact hp9) hp1 (by rw [hN]; exact hkp) ht5
        rw [mN_add] at z
        simp only [hN] at z
        exact z)
    · exact act_err I (c_X3_release_e I.hs (OpS.re (opS_rel_e (by decide) (spo_b hq3 hc hc13 hn))) er_c.2.1) (by
        have z := c_X4_release_n (G := G) (M := rmM M o t cs) (q := q) (nm := w) (mq := cs q - 1) (by rw [R9]; exact (show M 9 5 0 (27 + q) = nI (cs q - 1) from hs.2.2.2.1)) (by omega) hq3 (by rw [R9, nmE_b hn]; decide)
        rw [R9, nmE_b hn] at z
        exact z)
  · exact act_err I (c_X3_release_e I.hs (OpS.re (opS_rel_e (by decide) (spo_x hv))) er_c.1) (c_X4_release_x hv)
set_option maxHeartbeats 1000000 in
theorem act_read {G : sv_G} {M : sv_Mem} (I : INV M) (v w : Int32) : ActOk G M_X3_read 5 M_X4_read 4 [.int v, .int w] M := by
  obtain ⟨cs, o, t, n, I⟩ := I
  have hkp := I.2.2.2.2.2.1
  have ht5 := I.2.2.1
  by_cases hv : inR v (nI 0) (nI 2)
  · obtain ⟨q, hq, rfl⟩ := inR_ex (by omega) hv
    have hq3 : q < 3 := by omega
    have hs := I.1.2.2.2 q hq3
    have hc : M 0 14 q 0 = nI (cs q) := hs.2.1
    have hc13 := hs.1
    by_cases hw : inR w (nI 0) (nI 15)
    · obtain ⟨k, hk, rfl⟩ := inR_ex (by omega) hw
      have hk16 : k < 16 := by omega
      by_cases hz : cs q = 0
      · exact act_err I (c_X3_read_e I.hs (OpS.re (opS_read_n hq3 hc hc13 hk16 hz)) er_c.2.2.2) (c_X4_read_n hq3 hk16 (by rw [R9]; exact (ses_c hs hz).2))
      · obtain ⟨mq, hm, hm12, ho, hmq⟩ := ses_o hs hz
        have hc1 : M 0 14 q 0 = nI (mq + 1) := by rw [hc, hm]
        obtain ⟨hR, hret, her⟩ := read_sim (n := M 9 9 0) (k := k) I.1 hq3 hk16 hm
        exact act_ok2 I hR hret (c_X3_read_y I.hs (OpS.rm (opS_read_y hq3 hc1 hm12 hk16)) her (T8 ..)) (fun N hN => by
        have z := c_X4_read_y (G := G) (M := N) (q := q) (k := k) (t := t) (mq := mq) (by rw [hN]; exact hmq) hm12 hq3 hk16 (by rw [hN]; exact ho) (by rw [hN]; exact hkp) ht5
        simp only [hN] at z
        exact z)
    · exact act_err I (c_X3_read_e I.hs (OpS.re (opS_read_x (Or.inr ⟨q, cs q, hq3, rfl, hc, hc13, hw⟩))) er_c.1) (c_X4_read_x (Or.inr hw))
  · exact act_err I (c_X3_read_e I.hs (OpS.re (opS_read_x (Or.inl hv))) er_c.1) (c_X4_read_x (Or.inl hv))
set_option maxHeartbeats 1000000 in
theorem act_erase {G : sv_G} {M : sv_Mem} (I : INV M) (v w : Int32) : ActOk G M_X3_erase 5 M_X4_erase 4 [.int v, .int w] M := by
  obtain ⟨cs, o, t, n, I⟩ := I
  have hkp := I.2.2.2.2.2.1
  have ht5 := I.2.2.1
  by_cases hv : inR v (nI 0) (nI 2)
  · obtain ⟨q, hq, rfl⟩ := inR_ex (by omega) hv
    have hq3 : q < 3 := by omega
    have hs := I.1.2.2.2 q hq3
    have hc : M 0 14 q 0 = nI (cs q) := hs.2.1
    have hc13 := hs.1
    by_cases hw : inR w (nI 0) (nI 15)
    · obtain ⟨k, hk, rfl⟩ := inR_ex (by omega) hw
      have hk16 : k < 16 := by omega
      by_cases hz : cs q = 0
      · exact act_err I (c_X3_erase_e I.hs (OpS.re (opS_erase_n hq3 hc hc13 hk16 hz)) er_c.2.2.2) (c_X4_erase_n hq3 hk16 (by rw [R9]; exact (ses_c hs hz).2))
      · obtain ⟨mq, hm, hm12, ho, hmq⟩ := ses_o hs hz
        have hc1 : M 0 14 q 0 = nI (mq + 1) := by rw [hc, hm]
        obtain ⟨hR, hret, her⟩ := write_sim (v := -1) (n := M 9 9 0) (k := k) I.1 hq3 hk16 hm vok_c
        exact act_ok2 I hR hret (c_X3_erase_y I.hs (OpS.rm (opS_erase_y hq3 hc1 hm12 hk16)) her (T8 ..)) (fun N hN => by
        have z := c_X4_erase_y (G := G) (M := N) (q := q) (k := k) (t := t) (mq := mq) (by rw [hN]; exact hmq) hm12 hq3 hk16 (by rw [hN]; exact ho) (by rw [hN]; exact hkp) ht5
        simp only [hN] at z
        exact z)
    · exact act_err I (c_X3_erase_e I.hs (OpS.re (opS_erase_x (Or.inr ⟨q, cs q, hq3, rfl, hc, hc13, hw⟩))) er_c.1) (c_X4_erase_x (Or.inr hw))
  · exact act_err I (c_X3_erase_e I.hs (OpS.re (opS_erase_x (Or.inl hv))) er_c.1) (c_X4_erase_x (Or.inl hv))
set_option maxHeartbeats 1000000 in
theorem act_write {G : sv_G} {M : sv_Mem} (I : INV M) (v w u : Int32) : ActOk G M_X3_write 5 M_X4_write 4 [.int v, .int w, .int u] M := by
  obtain ⟨cs, o, t, n, I⟩ := I
  have hkp := I.2.2.2.2.2.1
  have ht5 := I.2.2.1
  by_cases hv : inR v (nI 0) (nI 2)
  · obtain ⟨q, hq, rfl⟩ := inR_ex (by omega) hv
    have hq3 : q < 3 := by omega
    have hs := I.1.2.2.2 q hq3
    have hc : M 0 14 q 0 = nI (cs q) := hs.2.1
    have hc13 := hs.1
    by_cases hw : inR w (nI 0) (nI 15)
    · obtain ⟨k, hk, rfl⟩ := inR_ex (by omega) hw
      have hk16 : k < 16 := by omega
      by_cases hu : inR u (nI 0) (nI 9999)
      · by_cases hz : cs q = 0
        · exact act_err I (c_X3_write_e I.hs (OpS.re (opS_write_n hq3 hc hc13 hk16 hu hz)) er_c.2.2.2) (c_X4_write_n hq3 hk16 hu (by rw [R9]; exact (ses_c hs hz).2))
        · obtain ⟨mq, hm, hm12, ho, hmq⟩ := ses_o hs hz
          have hc1 : M 0 14 q 0 = nI (mq + 1) := by rw [hc, hm]
          obtain ⟨hR, hret, her⟩ := write_sim (n := M 9 9 0) (k := k) (v := u) I.1 hq3 hk16 hm (Or.inr hu)
          rw [outs_v hu] at hR
          exact act_ok2 I hR hret (c_X3_write_y I.hs (OpS.rm (opS_write_y hq3 hc1 hm12 hk16 hu)) her (T8 ..)) (fun N hN => by
        have z := c_X4_write_y (G := G) (M := N) (q := q) (k := k) (t := t) (mq := mq) (w := u) (by rw [hN]; exact hmq) hm12 hq3 hk16 hu (by rw [hN]; exact ho) (by rw [hN]; exact hkp) ht5
        simp only [hN] at z
        exact z)
      · exact act_err I (c_X3_write_e I.hs (OpS.re (opS_write_b hq3 hc hc13 hk16 hu)) er_c.2.1) (c_X4_write_b hq3 hk16 hu)
    · exact act_err I (c_X3_write_e I.hs (OpS.re (opS_write_x (Or.inr ⟨q, cs q, hq3, rfl, hc, hc13, hw⟩))) er_c.1) (c_X4_write_x (Or.inr hw))
  · exact act_err I (c_X3_write_e I.hs (OpS.re (opS_write_x (Or.inl hv))) er_c.1) (c_X4_write_x (Or.inl hv))
set_option maxHeartbeats 1000000 in
theorem act_shift {G : sv_G} {M : sv_Mem} (I : INV M) (v w u : Int32) : ActOk G M_X3_shift 5 M_X4_shift 4 [.int v, .int w, .int u] M := by
  obtain ⟨cs, o, t, n, I⟩ := I
  have hkp := I.2.2.2.2.2.1
  have ht5 := I.2.2.1
  by_cases hv : inR v (nI 0) (nI 2)
  · obtain ⟨q, hq, rfl⟩ := inR_ex (by omega) hv
    have hq3 : q < 3 := by omega
    have hs := I.1.2.2.2 q hq3
    have hc : M 0 14 q 0 = nI (cs q) := hs.2.1
    have hc13 := hs.1
    by_cases hb : (inR w (nI 1) 65535 ∧ inR u (-9999) (nI 9999))
    · by_cases hz : cs q = 0
      · exact act_err I (c_X3_shift_e I.hs (OpS.re (opS_shift_n hq3 hc hc13 hb hz)) er_c.2.2.2) (c_X4_shift_n hq3 hb.1 hb.2 (by rw [R9]; exact (ses_c hs hz).2))
      · obtain ⟨mq, hm, hm12, ho, hmq⟩ := ses_o hs hz
        have hc1 : M 0 14 q 0 = nI (mq + 1) := by rw [hc, hm]
        obtain ⟨kn, hkn, hke⟩ : ∃ kn, kn ≤ 65535 ∧ w = nI kn := nI_of2 (M := 65535) (by decide) (fun z => hb.1.1 (Int32.lt_trans z (by decide))) (Int32.not_lt.mp hb.1.2)
        obtain ⟨hR, hret, her⟩ := shift_sim (n := M 9 9 0) (keys := w) (d := u) I.1 hq3 hm
        exact act_ok2 I hR hret (c_X3_shift_y I.hs (OpS.rm (opS_shift_y hq3 hc1 hm12 hke (by omega) hb)) (by rw [hret]; exact her) (T8 ..)) (fun N hN => by
        have z := c_X4_shift_y (G := G) (M := N) (q := q) (t := t) (mq := mq) (keys := w) (delta := u) (by rw [hN]; exact hmq) hm12 hq3 hb.1 hb.2 (by rw [hN]; exact ho) (by rw [hN]; exact hkp) ht5
        simp only [hN] at z
        exact z)
    · exact act_err I (c_X3_shift_e I.hs (OpS.re (opS_shift_b hq3 hc hc13 hb)) er_c.2.1) (c_X4_shift_b hq3 (Decidable.not_and_iff_or_not.mp hb))
  · exact act_err I (c_X3_shift_e I.hs (OpS.re (opS_shift_x hv)) er_c.1) (c_X4_shift_x hv)
set_option maxHeartbeats 1000000 in
theorem act_move {G : sv_G} {M : sv_Mem} (I : INV M) (v w u z : Int32) : ActOk G M_X3_move 5 M_X4_move 4 [.int v, .int w, .int u, .int z] M := by
  obtain ⟨cs, o, t, n, I⟩ := I
  have hkp := I.2.2.2.2.2.1
  have ht5 := I.2.2.1
  by_cases hv : inR v (nI 0) (nI 2)
  · obtain ⟨q, hq, rfl⟩ := inR_ex (by omega) hv
    have hq3 : q < 3 := by omega
    have hs := I.1.2.2.2 q hq3
    have hc : M 0 14 q 0 = nI (cs q) := hs.2.1
    have hc13 := hs.1
    by_cases ha : (inR w (nI 0) (nI 15) ∧ inR u (nI 0) (nI 15))
    · by_cases hb : (inR z (nI 1) (nI 9999) ∧ w ≠ u)
      · by_cases hz : cs q = 0
        · obtain ⟨ka, hka, rfl⟩ := inR_ex (by omega) ha.1
          obtain ⟨kb, hkb, rfl⟩ := inR_ex (by omega) ha.2
          exact act_err I (c_X3_move_e I.hs (OpS.re (opS_move_n hq3 hc hc13 ha hb hz)) er_c.2.2.2) (c_X4_move_n hq3 (by omega) (by omega) (fun e => hb.2 (by rw [e])) hb.1 (by rw [R9]; exact (ses_c hs hz).2))
        · obtain ⟨mq, hm, hm12, ho, hmq⟩ := ses_o hs hz
          have hc1 : M 0 14 q 0 = nI (mq + 1) := by rw [hc, hm]
          obtain ⟨ka, hka, rfl⟩ := inR_ex (by omega) ha.1
          obtain ⟨kb, hkb, rfl⟩ := inR_ex (by omega) ha.2
          obtain ⟨hR, hret, her⟩ := move_sim (n := M 9 9 0) (a := ka) (b := kb) (amt := z) I.1 hq3 hm (by omega) (by omega)
          exact act_ok2 I hR hret (c_X3_move_y I.hs (OpS.rm (opS_move_y hq3 hc1 hm12 (by omega) (by omega) hb)) (by rw [hret]; exact her) (T8 ..)) (fun N hN => by
            have y := c_X4_move_y (G := G) (M := N) (q := q) (t := t) (mq := mq) (a := ka) (b := kb) (amt := z) (by rw [hN]; exact hmq) hm12 hq3 (by omega) (by omega) (fun e => hb.2 (by rw [e])) hb.1 (by rw [hN]; exact ho) (by rw [hN]; exact hkp) ht5
            simp only [hN] at y
            exact y)
      · obtain ⟨ka, hka, rfl⟩ := inR_ex (by omega) ha.1
        obtain ⟨kb, hkb, rfl⟩ := inR_ex (by omega) ha.2
        exact act_err I (c_X3_move_e I.hs (OpS.re (opS_move_b hq3 hc hc13 ha hb)) er_c.2.1) (c_X4_move_b hq3 (by omega) (by omega) (by by_cases e : inR z (nI 1) (nI 9999); exact Or.inr (Decidable.of_not_not (fun g => hb ⟨e, fun y => g ((nI_eq (by omega) (by omega)).mp y)⟩)); exact Or.inl e))
    · exact act_err I (c_X3_move_e I.hs (OpS.re (opS_move_x (Or.inr ⟨q, cs q, hq3, rfl, hc, hc13, ha⟩))) er_c.1) (c_X4_move_x (Or.inr (Decidable.not_and_iff_or_not.mp ha)))
  · exact act_err I (c_X3_move_e I.hs (OpS.re (opS_move_x (Or.inl hv))) er_c.1) (c_X4_move_x (Or.inl hv))
