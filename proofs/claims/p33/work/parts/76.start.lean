theorem M0_T {i k j n : Nat} (h1 : k ≠ 11) (h2 : k ≠ 5) : sv_M0 i k j n = nI 0 := by rw [sv_M0_0 h1 h2]; rfl
theorem M0_v {k : Nat} (h : k < 16) : sv_M0 0 11 0 k = -5 := by
  rw [sv_M0_11]
  exact if_pos h
theorem SI_0 : SI (sv_M0 0) (fun _ => 0) := by
  have e141 : ∀ q, sv_M0 0 14 q 1 = nI 0 := fun q => M0_T (by decide) (by decide)
  refine ⟨Or.inl (M0_T (by decide) (by decide)), fun k hk => Or.inl (M0_v hk), fun q hq => ⟨Nat.zero_le _, ⟨M0_T (by decide) (by decide), fun _ => e141 q, fun k hk => ⟨by rw [e141, mm_0]; omega, fun r hr => absurd hr (Nat.not_lt_zero _)⟩, fun r hr => absurd hr (Nat.not_lt_zero _)⟩, fun p hp => absurd hp (Nat.not_lt_zero _)⟩, fun q q2 k _ _ _ _ h => ?_⟩
  rw [e141, mm_0] at h
  omega
theorem LI_0 : LI sv_M0 := ⟨⟨_, SI_0⟩, ⟨0, 0, M0_T (by decide) (by decide), by omega, M0_T (by decide) (by decide), by omega⟩, by rw [M0_T (by decide) (by decide), M0_T (by decide) (by decide)]⟩
