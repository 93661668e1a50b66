/-! the model: years -/
theorem b_327 : ∀ i : Fin 32, bt 32767 i.val = decide (i.val < 15) := by sorry
theorem sh16 (x : Int32) : (x >>> ((16 : Int32) &&& 31)) &&& 32767 = usR x 16 &&& 32767 := by
  refine b_ext (fun i hi => ?_)
  have e := b_327 ⟨i, hi⟩
  dsimp only at e
  sorry
