/-! one act of the law, from any state that its loop keeps -/
theorem keep_bit {l : Nat} (h : l < 2) : nI l = bI (l = 1) := by
  have hh : l = 0 ∨ l = 1 := by omega
  rcases hh with rfl | rfl
  · exact (bI_f (by decide)).symm
  · exact (bI_t rfl).symm
theorem RS_9 {M M2 : sv_Mem} (h : ∃ cs2, SI (M2 0) cs2) (h8 : HM M2) (e9 : M2 9 = M 9) (e : M2 0 10 = M 0 10) : RS M M2 := ⟨h, h8, by rw [e9], by rw [e]⟩
set_option maxHeartbeats 1000000 in
theorem act_all {M : sv_Mem} (h : LI M) (v w : Int32) : ∃ M2 : sv_Mem, (∀ G : sv_G, gn G = 1 → sv_CtA G M_L_act 8 [.ref (sv_ad G 0 8 0), .int v, .int w, .ref (sv_ad G 4 9 0)] M (some (.int (nI 1))) M2 3 96) ∧ LI M2 := by
  obtain ⟨⟨cs, hI⟩, hm, hkv⟩ := h
  have hcs := SI_cs hI
  obtain ⟨q, hqa⟩ : ∃ q, lowN (sh5 v) 3 = q := ⟨_, rfl⟩
  have hq : q < 3 := by rw [← hqa]; exact lowN_lt _ (by decide)
  obtain ⟨s, hsa⟩ : ∃ s, lowN v 20 = s := ⟨_, rfl⟩
  have hs20 : s < 20 := by rw [← hsa]; exact lowN_lt _ (by decide)
  have hw3 := lowN_lt w (n := 3) (by decide)
  have hw2 := lowN_lt w (n := 2) (by decide)
  have hI2 : SI (acM M cs 0) cs := hI
  have hm2 : HM (acM M cs) := acM_HM hm
  have hB2 : BM (acM M cs) (acM M cs 0) cs := acM_BM M cs
  obtain ⟨hl, hS, hN⟩ := hI.2.2.1 q hq
  have hcase : s < 10 ∨ (10 ≤ s ∧ s < 13) ∨ s = 13 ∨ s = 14 ∨ s = 15 ∨ s = 16 ∨ 17 ≤ s := by omega
  rcases hcase with h10 | ⟨h10, h13⟩ | h13 | h14 | h15 | h16 | h17
  · obtain ⟨M2, c, r⟩ := states_all (M := acM M cs) hI2 hm2 hB2 hq (s := if s < 6 then s else s - 4) (by split <;> omega) w
    exact ⟨M2, fun G hg => c_L_act_st hg hcs hkv hq hqa hsa h10 (fun z => if_pos z) (fun z => if_neg (by omega)) c, RS_LI hkv r⟩
  · by_cases hz : cs q = 0
    · obtain ⟨M2, c, e0, e9, e8⟩ := ac_save_n (M := acM M cs) hI2 hm2 hq (a := lowN w 3) hz (by omega)
      exact ⟨M2, fun G hg => c_L_act_sp hg hcs hkv hq hqa hsa hS.1 hl h10 h13 c (fun _ => rfl) (fun z => absurd hz z) (fun z => absurd hz z) (BM_V hB2 e9 (fun k _ => by rw [e0])) (BM_M hB2 e9 (fun j _ => by rw [e0])), RS_LI hkv (RS_9 ⟨cs, by rw [e0]; exact hI⟩ e8 e9 (by rw [e0]))⟩
    · by_cases hf : cs q = 13
      · obtain ⟨M2, c, e0, e9, e8⟩ := ac_save_f (M := acM M cs) hI2 hm2 hq (a := lowN w 3) hf (by omega)
        exact ⟨M2, fun G hg => c_L_act_sp hg hcs hkv hq hqa hsa hS.1 hl h10 h13 c (fun z => absurd z hz) (fun _ _ => rfl) (fun _ z => absurd (by omega) z) (BM_V hB2 e9 (fun k _ => by rw [e0])) (BM_M hB2 e9 (fun j _ => by rw [e0])), RS_LI hkv (RS_9 ⟨cs, by rw [e0]; exact hI⟩ e8 e9 (by rw [e0]))⟩
      · obtain ⟨mq, hmq⟩ : ∃ mq, cs q = mq + 1 := ⟨cs q - 1, by omega⟩
        obtain ⟨M2, c, e0, e9, e8⟩ := ac_save_y (M := acM M cs) hI2 hm2 hq (mq := mq) (a := lowN w 3) hmq (by omega) (by omega)
        obtain ⟨a1, a2, a3, a4⟩ := save_R hI2 hq hmq (by omega) (a := lowN w 3) (by omega) (M2 0) e0
        exact ⟨M2, fun G hg => c_L_act_sp hg hcs hkv hq hqa hsa hS.1 hl h10 h13 c (fun z => absurd z hz) (fun _ z => absurd z (by omega)) (fun _ _ => by rw [hmq]; rfl) (BM_V hB2 e9 (fun k _ => a2 k)) (BM_M hB2 e9 (fun j _ => a3 j)), RS_LI hkv (RS_9 ⟨_, a1⟩ e8 e9 a4)⟩
  · obtain ⟨M2, c, r⟩ := undoes_all (M := acM M cs) hI2 hm2 hB2 hq (a := lowN w 3) (by omega)
    exact ⟨M2, fun G hg => c_L_act_un hg hcs hkv hq hqa hsa h13 c, RS_LI hkv r⟩
  · rcases nrR_or (M 0 16 q) (nI (lowN w 3)) (cs q - 1) with hnr | ⟨p, hp, hnr⟩
    · obtain ⟨M2, c, e0, e9, e8⟩ := ac_rel_n (M := acM M cs) hI2 hm2 hq (a := lowN w 3) (by omega) hnr
      exact ⟨M2, fun G hg => c_L_act_rn hg hcs hkv hq hqa hsa hS.1 hl h14 (by omega) hnr c (by rw [e0]; exact hS.1) (BM_V hB2 e9 (fun k _ => by rw [e0])) (BM_M hB2 e9 (fun j _ => by rw [e0])), RS_LI hkv (RS_9 ⟨cs, by rw [e0]; exact hI⟩ e8 e9 (by rw [e0]))⟩
    · obtain ⟨M2, c, e0, e9, e8⟩ := ac_rel_y (M := acM M cs) hI2 hm2 hq (a := lowN w 3) (by omega) hnr hp
      obtain ⟨a1, a2, a3, a4, a5⟩ := rel_R hI2 hq rfl (p := p) (by omega)
      rw [← e0] at a1 a2 a3 a4 a5
      exact ⟨M2, fun G hg => c_L_act_ry hg hcs hkv hq hqa hsa hS.1 hl h14 (by omega) hnr hp c a4 (BM_V hB2 e9 (fun k _ => a2 k)) (BM_M hB2 e9 (fun j _ => a3 j)), RS_LI hkv (RS_9 ⟨_, a1⟩ e8 e9 a5)⟩
  · have hk9 : ∀ k, k < 16 → sv_up (acM M cs) 9 4 0 0 (nI (lowN w 2)) 9 5 0 k = M 0 11 0 k := fun k hk => by
      rw [sv_up_ne _ _ _ _ _ _ _ _ _ (by omega)]
      exact hB2.1 k hk
    obtain ⟨M2, c, e0, e9, e8⟩ := ac_keep (M := sv_up (acM M cs) 9 4 0 0 (nI (lowN w 2))) (cs := cs) hI hm2 (lowN w 2 = 1)
    obtain ⟨a1, a2, a3⟩ := keep_R hI (lowN w 2 = 1)
    have e0 : M2 0 = tu (M 0) 10 0 0 (bI (lowN w 2 = 1)) := e0
    rw [← e0] at a1 a2 a3
    refine ⟨M2, fun G hg => c_L_act_kp hg hcs hkv hq hqa hsa h15 c (fun k hk => ?_), ⟨cs, a1⟩, e8, ?_⟩
    · rw [a2 k, e9, hk9 k hk]
    · rw [a3, e9, sv_up_at, va_up_self]
      exact keep_bit hw2
  · obtain ⟨M2, c, r⟩ := closes_all (M := acM M cs) hI2 hm2 hB2 hq (i := if lowN w 2 = 0 then 1 else 0) (by split <;> omega)
    exact ⟨M2, fun G hg => c_L_act_cl hg hcs hkv hq hqa hsa h16 (fun z => if_neg z) (fun z => if_pos z) c, RS_LI hkv r⟩
  · by_cases hz : cs q = 0
    · obtain ⟨M2, c, e0, e9, e8⟩ := ac_begin_y (M := acM M cs) hI2 hm2 hq hz
      obtain ⟨a1, a2, a3, a4⟩ := begin_R hI2 hq hz
      rw [← e0] at a1 a2 a3 a4
      exact ⟨M2, fun G hg => c_L_act_by hg hcs hkv hq hqa hsa h17 hz c (by rw [e0]; exact aM_14 ..) (BM_V hB2 e9 (fun k _ => a2 k)) (BM_M hB2 e9 (fun j _ => a3 j)), RS_LI hkv (RS_9 ⟨_, a1⟩ e8 e9 a4)⟩
    · obtain ⟨M2, c, e0, e9, e8⟩ := ac_begin_n (M := acM M cs) hI2 hm2 hq hz
      exact ⟨M2, fun G hg => c_L_act_bn hg hcs hkv hq hqa hsa h17 hz c (by rw [e0]; exact hS.1) (BM_V hB2 e9 (fun k _ => by rw [e0])) (BM_M hB2 e9 (fun j _ => by rw [e0])), RS_LI hkv (RS_9 ⟨cs, by rw [e0]; exact hI⟩ e8 e9 (by rw [e0]))⟩
