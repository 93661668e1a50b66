/-! the first heap -/
def hp0 : Hp := uN (iX10 (uN (iX9 (uN h00))))
theorem hp0_N : hN hp0 = 104 := by decide +kernel
theorem hp0_R : ∀ q ∈ frefs, hR hp0 q.1 q.2.1 = some q.2.2 := by decide +kernel
theorem hp0_St : St hp0 := ⟨hp0_N, hp0_R⟩
