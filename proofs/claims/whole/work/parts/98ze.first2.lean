/-! the first state -/
def S00 : Sx := (C00, T0b, [], Q00, none, (0, fun _ => 0), -1, fun _ => 0)
theorem hp0_T : TV hp0 30 6 0 0 C00 (sX 0 T0b) := by
  refine ⟨⟨⟨hp0_St, Or.inl rfl, Or.inl rfl, by decide +kernel, by decide +kernel, by decide, by decide +kernel, by decide⟩, ⟨fun p hp => absurd hp (Nat.not_lt_zero p), fun p hp => absurd hp (Nat.not_lt_zero p)⟩, ⟨⟨by decide +kernel, by decide +kernel, by decide⟩, by decide +kernel, by decide +kernel, by decide⟩, fun t ht => absurd ht (Nat.not_lt_zero t), by decide +kernel, by decide⟩, ⟨⟨by decide +kernel, by decide +kernel⟩, fun p hp => absurd hp (Nat.not_lt_zero p), fun p hp => absurd hp (Nat.not_lt_zero p), fun p hp => absurd hp (Nat.not_lt_zero p), fun p hp => absurd hp (Nat.not_lt_zero p)⟩, ⟨fun p hp => absurd hp (Nat.not_lt_zero p), fun p hp => absurd hp (Nat.not_lt_zero p), fun p hp => absurd hp (Nat.not_lt_zero p), by decide +kernel⟩⟩
theorem hp0_B : MB hp0 0 0 C00 T0b := by
  refine ⟨⟨hp0_St, ⟨by decide +kernel, by decide +kernel, by decide +kernel, by decide +kernel⟩, ⟨by decide +kernel, by decide +kernel⟩, fun p hp => absurd hp (Nat.not_lt_zero p), fun p hp => absurd hp (Nat.not_lt_zero p), fun z => absurd rfl z, fun z => absurd rfl z⟩, ⟨by decide +kernel, fun p hp => absurd hp (Nat.not_lt_zero p), fun p hp => absurd hp (Nat.not_lt_zero p), fun p hp => absurd hp (Nat.not_lt_zero p)⟩, by decide +kernel⟩
theorem hp0_M : MV hp0 S00 := by
  refine ⟨0, 0, hp0_B, ⟨by decide +kernel, by decide, fun p hp => absurd hp (Nat.not_lt_zero p)⟩, ⟨by decide +kernel, by decide, fun p hp => absurd hp (Nat.not_lt_zero p)⟩, ?_, ⟨by decide +kernel, fun p hp => absurd hp (Nat.not_lt_zero p)⟩, by decide +kernel, ?_⟩
  · show hI hp0 77 56 = 0
    decide +kernel
  · show ∀ i, i < 3 → hI hp0 83 i = 0
    decide +kernel
theorem hp0_K : KI hp0 S00 := by
  refine ⟨6, 18, 0, 0, 0, ⟨Or.inr rfl, by decide, by decide +kernel⟩, ⟨by decide +kernel, hp0_T, fun p hp => absurd hp (Nat.not_lt_zero p)⟩, ⟨0, ⟨⟨by decide +kernel, by decide⟩, by decide +kernel, by decide⟩, fun p hp => absurd hp (Nat.not_lt_zero p)⟩, ⟨⟨by decide +kernel, by decide, fun p hp => absurd hp (Nat.not_lt_zero p)⟩, fun p hp => absurd hp (Nat.not_lt_zero p)⟩, ?_, ⟨by decide +kernel, fun p hp => absurd hp (Nat.not_lt_zero p)⟩, by decide +kernel, ?_⟩
  · show hI hp0 0 10 = 0
    decide +kernel
  · show ∀ i, i < 3 → hI hp0 2 i = 0
    decide +kernel
theorem ws_00 : WS S00 := by
  have Y := yi_00 (n := 0) (s := 0) (by omega) (by omega)
  exact ⟨Y.2.1, ⟨Y.2.2.1, Y.2.2.2.1, Nat.zero_le _, fun _ _ => rfl⟩, ⟨Nat.zero_le _, fun p hp => absurd hp (Nat.not_lt_zero p)⟩, ⟨Nat.zero_le _, fun p hp => absurd hp (Nat.not_lt_zero p)⟩, trivial, Nat.zero_le _, fun _ => Nat.zero_lt_succ _⟩
