/-- the reference's history, snapshot, single ints -/
def mH (M : sv_Mem) (h : Nat → Int32) : sv_Mem := sv_upA M 9 6 0 h
def mF (M : sv_Mem) (n : Nat) (v : Int32) : sv_Mem := sv_upA M 9 4 0 (va_up (M 9 4 0) n v)
theorem up6 (M : sv_Mem) (n : Nat) (v : Int32) : sv_up M 9 6 0 n v = mH M (va_up (M 9 6 0) n v) := rfl
theorem up4 (M : sv_Mem) (n : Nat) (v : Int32) : sv_up M 9 4 0 n v = mF M n v := rfl
theorem mH_h (M : sv_Mem) (h : Nat → Int32) : mH M h 9 6 0 = h := sv_upA_at ..
theorem mH_H (M : sv_Mem) (s t : Nat → Int32) : mH (mH M s) t = mH M t := sv_upA_upA ..
theorem mH_s (M : sv_Mem) (h : Nat → Int32) : mH M h 9 5 0 = M 9 5 0 := sv_upA_get M h (by omega)
theorem mH_n (M : sv_Mem) (h : Nat → Int32) : mH M h 9 9 0 = M 9 9 0 := sv_upA_get M h (by omega)
theorem mH_f (M : sv_Mem) (h : Nat → Int32) : mH M h 9 4 0 = M 9 4 0 := sv_upA_get M h (by omega)
theorem mH_id (M : sv_Mem) : mH M (M 9 6 0) = M := sv_upA_id ..
theorem mF_s (M : sv_Mem) (n : Nat) (v : Int32) : mF M n v 9 5 0 = M 9 5 0 := sv_upA_get M _ (by omega)
theorem mF_n (M : sv_Mem) (n : Nat) (v : Int32) : mF M n v 9 9 0 = M 9 9 0 := sv_upA_get M _ (by omega)
theorem mF_h (M : sv_Mem) (n : Nat) (v : Int32) : mF M n v 9 6 0 = M 9 6 0 := sv_upA_get M _ (by omega)
theorem mF_f (M : sv_Mem) (n : Nat) (v : Int32) : mF M n v 9 4 0 = va_up (M 9 4 0) n v := sv_upA_at ..
theorem mF_F (M : sv_Mem) (n : Nat) (v w : Int32) : mF (mF M n v) n w = mF M n w := by
  unfold mF
  rw [sv_upA_upA, sv_upA_at, va_up_up]
theorem mF_H (M : sv_Mem) (n : Nat) (v : Int32) (h : Nat → Int32) : mH (mF M n v) h = mF (mH M h) n v := by
  unfold mF
  rw [mH_f]
  exact sv_upA_comm M _ h (by omega)
theorem mF_id (M : sv_Mem) (n : Nat) (v : Int32) (h : M 9 4 0 n = v) : mF M n v = M := by
  unfold mF
  subst h
  rw [va_up_id, sv_upA_id]
def rcS (h : Nat → Int32) (k : Nat) : Nat → Int32 := fun n => if n < k then h (n + 810) else h n
def rcC (h s : Nat → Int32) (t k : Nat) : Nat → Int32 := fun n => if 810 * t ≤ n ∧ n < 810 * t + k then s (n - 810 * t) else h n
def rcH (h s : Nat → Int32) (t : Nat) : Nat → Int32 := if t = 5 then rcC (rcS h 3240) s 4 810 else rcC h s t 810
def rcM (M : sv_Mem) (t : Nat) : sv_Mem := mF (mH M (rcH (M 9 6 0) (M 9 5 0) t)) 2 (nI (if t = 5 then 5 else t + 1))
theorem rc_s (M : sv_Mem) (t : Nat) : rcM M t 9 5 0 = M 9 5 0 := by unfold rcM; rw [mF_s, mH_s]
theorem rc_n (M : sv_Mem) (t : Nat) : rcM M t 9 9 0 = M 9 9 0 := by unfold rcM; rw [mF_n, mH_n]
theorem rcS_0 (h : Nat → Int32) : rcS h 0 = h := by
  funext n
  unfold rcS
  rw [if_neg (by omega)]
theorem rcC_0 (h s : Nat → Int32) (t : Nat) : rcC h s t 0 = h := by
  funext n
  unfold rcC
  rw [if_neg (by omega)]
theorem rcS_step (h : Nat → Int32) (k : Nat) : rcS h (k + 1) = va_up (rcS h k) k (h (k + 810)) := by
  funext n
  unfold rcS va_up
  by_cases h1 : n = k
  · rw [if_pos (by omega), if_pos h1, h1]
  · rw [if_neg h1]
    by_cases h2 : n < k
    · rw [if_pos (by omega)]; exact (if_pos h2).symm
    · rw [if_neg (by omega)]; exact (if_neg h2).symm
theorem rcS_hi (h : Nat → Int32) (k n : Nat) (hn : k ≤ n) : rcS h k n = h n := by
  unfold rcS
  rw [if_neg (by omega)]
theorem rcC_step (h s : Nat → Int32) (t k : Nat) : rcC h s t (k + 1) = va_up (rcC h s t k) (810 * t + k) (s k) := by
  funext n
  unfold rcC va_up
  by_cases h1 : n = 810 * t + k
  · rw [if_pos (by omega), if_pos h1, h1, show 810 * t + k - 810 * t = k by omega]
  · rw [if_neg h1]
    by_cases h2 : 810 * t ≤ n ∧ n < 810 * t + k
    · rw [if_pos (by omega)]; exact (if_pos h2).symm
    · rw [if_neg (by omega)]; exact (if_neg h2).symm

set_option maxHeartbeats 4000000 in
set_option maxRecDepth 100000 in
theorem c_X4_record {G : sv_G} {M : sv_Mem} {t : Nat} (hkp : M 9 4 0 2 = nI t) (ht : t ≤ 5) : sv_Ct G M_X4_record 0 [.ref (sv_ad G 4 9 0)] M (none) (rcM M t) := by
  refine sv_Ct_of (lo := [some (.ref (sv_ad G 4 9 0)), none]) (pn_X4) rfl (Nat.le_of_ble_eq_true rfl) rfl (fun K X Y => ?_)
  replace X : sv_X G K cX4_record RX4 2 0 := X
  replace Y : sv_Y G K none _ _ := Y
  show sw_W G K 2 0 _ _ _
  have L2 : ∀ t2, ∀ M2, M2 9 4 0 2 = nI t2 → M2 9 5 0 = (M 9 5 0) → t2 ≤ 4 → mF (mH M2 (rcC (M2 9 6 0) (M 9 5 0) t2 810)) 2 (nI (t2 + 1)) = rcM M t → ∀ r, r ≤ 810 → (fun r => sw_W G K 2 51 [some (.ref (sv_ad G 4 9 0)), some (.int (nI r))] [] (mH M2 (rcC (M2 9 6 0) (M 9 5 0) t2 r))) r := by
    intro t2 M2 hk2 hs2 ht2 hfin
    refine up_ind (N := 810) (P := fun r => sw_W G K 2 51 [some (.ref (sv_ad G 4 9 0)), some (.int (nI r))] [] (mH M2 (rcC (M2 9 6 0) (M 9 5 0) t2 r))) ?_
    intro r hr ih
    show sw_W _ _ _ _ _ _ _
    refine sw_iload_1 X dX4_record_51 ?_
    refine sw_sipush X (nI 810) dX4_record_52 (by decide) ?_
    refine sw_icmp_ge X 85 dX4_record_55 (by decide) (fun h55 => ?_) (fun h55 => ?_)
    ·
      have e : r = 810 := by have := (nI_leI (by omega) (by omega)).mp h55; omega
      subst e
      refine sw_aload_0 X dX4_record_85 ?_
      refine sw_dup X dX4_record_86 rfl ?_
      refine gf_X4_29 X dX4_record_87 ?_
      refine sw_tope (v2 := nI t2) (by rw [mH_f]; exact hk2) ?_
      refine sw_iconst X (nI 1) dX4_record_90 (by decide) ?_
      refine sw_iadd X dX4_record_91 ?_
      try refine sw_tope (nI_add _ _) ?_
      refine pf_X4_29 X dX4_record_92 ?_
      exact sw_vret X Y dX4_record_95 rfl (by rw [← hfin, up4])
    ·
      have hr3 : r < 810 := by have := mt (nI_leI (by omega) (by omega)).mpr h55; omega
      refine sw_aload_0 X dX4_record_58 ?_
      refine gf_X4_13 X dX4_record_59 ?_
      refine sw_sipush X (nI 810) dX4_record_62 (by decide) ?_
      refine sw_aload_0 X dX4_record_65 ?_
      refine gf_X4_29 X dX4_record_66 ?_
      refine sw_tope (v2 := nI t2) (by rw [mH_f]; exact hk2) ?_
      refine sw_imul X dX4_record_69 ?_
      try refine sw_tope (pk_mul _ _) ?_
      refine sw_iload_1 X dX4_record_70 ?_
      refine sw_iadd X dX4_record_71 ?_
      try refine sw_tope (nI_add _ _) ?_
      refine sw_aload_0 X dX4_record_72 ?_
      refine gf_X4_7 X dX4_record_73 ?_
      refine sw_iload_1 X dX4_record_76 ?_
      refine ia_5 X rfl (by omega) dX4_record_77 ?_
      refine sw_tope (v2 := (M 9 5 0) r) (by rw [mH_s, hs2]) ?_
      refine is_6 X rfl (by omega) dX4_record_78 ?_
      refine sw_mem (M2 := mH M2 (rcC (M2 9 6 0) (M 9 5 0) t2 (r + 1))) (by rw [rcC_step]; simp only [up6, mH_H, mH_h]) ?_
      first | refine sw_inc1_1 X dX4_record_79 trivial ?_ | refine sw_iinc_1 X _ dX4_record_79 rfl trivial ?_
      refine sw_goto X 51 dX4_record_82 (by decide) ?_
      exact ih (r + 1) (by omega) (by omega)
  have L1 : t = 5 → ∀ r, r ≤ 3240 → (fun r => sw_W G K 2 10 [some (.ref (sv_ad G 4 9 0)), some (.int (nI r))] [] (mH M (rcS (M 9 6 0) r))) r := by
    intro ht5
    refine up_ind (N := 3240) (P := fun r => sw_W G K 2 10 [some (.ref (sv_ad G 4 9 0)), some (.int (nI r))] [] (mH M (rcS (M 9 6 0) r))) ?_
    intro r hr ih
    show sw_W _ _ _ _ _ _ _
    refine sw_iload_1 X dX4_record_10 ?_
    refine sw_sipush X (nI 3240) dX4_record_11 (by decide) ?_
    refine sw_icmp_ge X 39 dX4_record_14 (by decide) (fun h14 => ?_) (fun h14 => ?_)
    ·
      have e : r = 3240 := by have := (nI_leI (by omega) (by omega)).mp h14; omega
      subst e
      refine sw_aload_0 X dX4_record_39 ?_
      refine sw_dup X dX4_record_40 rfl ?_
      refine gf_X4_29 X dX4_record_41 ?_
      refine sw_tope (v2 := nI 5) (by rw [mH_f, hkp, ht5]) ?_
      refine sw_iconst X (nI 1) dX4_record_44 (by decide) ?_
      refine sw_isub X dX4_record_45 ?_
      refine sw_tope (v2 := nI 4) (by decide) ?_
      refine pf_X4_29 X dX4_record_46 ?_
      refine sw_iconst X (nI 0) dX4_record_49 (by decide) ?_
      refine sw_istore_1 X dX4_record_50 trivial ?_
      refine sw_mem (M2 := mH (mF (mH M (rcS (M 9 6 0) 3240)) 2 (nI 4)) (rcC (mF (mH M (rcS (M 9 6 0) 3240)) 2 (nI 4) 9 6 0) (M 9 5 0) 4 0)) (by rw [rcC_0, mH_id, up4]) ?_
      exact L2 4 (mF (mH M (rcS (M 9 6 0) 3240)) 2 (nI 4)) (by rw [mF_f, va_up_self]) (by rw [mF_s, mH_s]) (by omega) (by unfold rcM rcH; rw [if_pos ht5, if_pos ht5, mF_h, mH_h, mF_H, mF_F, mH_H]) 0 (by omega)
    ·
      have hr3 : r < 3240 := by have := mt (nI_leI (by omega) (by omega)).mpr h14; omega
      refine sw_aload_0 X dX4_record_17 ?_
      refine gf_X4_13 X dX4_record_18 ?_
      refine sw_iload_1 X dX4_record_21 ?_
      refine sw_aload_0 X dX4_record_22 ?_
      refine gf_X4_13 X dX4_record_23 ?_
      refine sw_sipush X (nI 810) dX4_record_26 (by decide) ?_
      refine sw_iload_1 X dX4_record_29 ?_
      refine sw_iadd X dX4_record_30 ?_
      try refine sw_tope (nI_add _ _) ?_
      refine ia_6 X rfl (by omega) dX4_record_31 ?_
      refine sw_tope (v2 := (M 9 6 0) (r + 810)) (by rw [mH_h, rcS_hi _ _ _ (by omega), Nat.add_comm]) ?_
      refine is_6 X rfl (by omega) dX4_record_32 ?_
      refine sw_mem (M2 := mH M (rcS (M 9 6 0) (r + 1))) (by rw [rcS_step]; simp only [up6, mH_H, mH_h]) ?_
      first | refine sw_inc1_1 X dX4_record_33 trivial ?_ | refine sw_iinc_1 X _ dX4_record_33 rfl trivial ?_
      refine sw_goto X 10 dX4_record_36 (by decide) ?_
      exact ih (r + 1) (by omega) (by omega)
  refine sw_aload_0 X dX4_record_0 ?_
  refine gf_X4_29 X dX4_record_1 ?_
  refine sw_iconst X (nI 5) dX4_record_4 (by decide) ?_
  rw [hkp]
  refine sw_icmp_ne X 49 dX4_record_5 (by decide) (fun h5 => ?_) (fun h5 => ?_)
  ·
    have ht5 : t ≠ 5 := fun z => h5 (by rw [z])
    refine sw_iconst X (nI 0) dX4_record_49 (by decide) ?_
    refine sw_istore_1 X dX4_record_50 trivial ?_
    refine sw_mem (M2 := mH M (rcC (M 9 6 0) (M 9 5 0) t 0)) (by rw [rcC_0, mH_id]) ?_
    exact L2 t M hkp rfl (by omega) (by unfold rcM rcH; rw [if_neg ht5, if_neg ht5]) 0 (by omega)
  ·
    have ht5 : t = 5 := (nI_eq (by omega) (by omega)).mp (by first | exact h5 | exact Decidable.of_not_not h5)
    refine sw_iconst X (nI 0) dX4_record_8 (by decide) ?_
    refine sw_istore_1 X dX4_record_9 trivial ?_
    refine sw_mem (M2 := mH M (rcS (M 9 6 0) 0)) (by rw [rcS_0, mH_id]) ?_
    exact L1 ht5 0 (by omega)
