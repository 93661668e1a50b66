/-! what is read is a city -/
theorem ft_2 {b : Nat → Nat} {n s : Nat} : ftF b n s ≤ 2 := by
  unfold ftF; split; split <;> decide; decide
theorem sf_P {b : Nat → Nat} {n sh : Nat} {U : Ru} (x : ¬ uQ (rstP b n sh U) = 0) : uS (rstP b n sh U) = uS U ∧ uY (rstP b n sh U) ≤ 3 := by
  unfold rstP at x ⊢
  by_cases a1 : tkK b n (uS U) = 2 ∨ tkK b n (uS U) = 1 ∨ (tkK b n (uS U) = 3 ∧ b (uS U) = 40)
  · rw [if_pos a1] at x ⊢
    by_cases a2 : 6 ≤ uE U
    · rw [if_pos a2]; exact ⟨rfl, show (2 : Nat) ≤ 3 by decide⟩
    · rw [if_neg a2] at x ⊢
      by_cases a3 : tkK b n (uS U) = 2
      · rw [if_pos a3] at x ⊢
        by_cases a4 : ftF b n (uS U) = 0
        · rw [if_pos a4] at x; exact absurd rfl x
        · rw [if_neg a4]; exact ⟨rfl, Nat.le_trans (show uY (ruFl U (ftF b n (uS U))) ≤ 2 from ft_2) (by decide)⟩
      · rw [if_neg a3] at x ⊢
        by_cases a5 : tkK b n (uS U) = 1
        · rw [if_pos a5] at x ⊢
          unfold rstW at x ⊢
          by_cases a6 : uM U = 1 ∧ kwN b n (uS U) = 19
          · rw [if_pos a6] at x ⊢
            by_cases a7 : 6 ≤ uC U
            · rw [if_pos a7]; exact ⟨rfl, show (2 : Nat) ≤ 3 by decide⟩
            · rw [if_neg a7] at x; exact absurd rfl x
          · rw [if_neg a6] at x ⊢
            by_cases a7 : vlA sh (kwN b n (uS U))
            · rw [if_pos a7] at x; exact absurd rfl x
            · rw [if_neg a7]; exact ⟨rfl, Nat.le_refl _⟩
        · rw [if_neg a5] at x; exact absurd rfl x
  · rw [if_neg a1]; exact ⟨rfl, show (1 : Nat) ≤ 3 by decide⟩
theorem sf_B {b : Nat → Nat} {n : Nat} {U : Ru} (x : ¬ uQ (rstB b n U) = 0) : uS (rstB b n U) = uS U := by
  unfold rstB at x ⊢
  by_cases z : tkK b n (uS U) = 3 ∧ b (uS U) = 41
  · rw [if_pos z] at x ⊢
    by_cases y : uE U = 0
    · rw [if_pos y]; rfl
    · rw [if_neg y] at x; exact absurd rfl x
  · rw [if_neg z] at x ⊢
    by_cases y : opF b n (uS U) = 0
    · rw [if_pos y]; rfl
    · rw [if_neg y] at x ⊢
      by_cases w : bdN (opF b n (uS U)) = 4 ∧ topB (popW 5 (uW U) (uP U)).1 = 4
      · rw [if_pos w]; rfl
      · rw [if_neg w] at x; exact absurd rfl x
theorem ru_done {A : Nat → Prop} {b : Nat → Nat} {n cl sh : Nat} (hA : ∀ k, vlA sh k → A (mvN k)) : ∀ (k : Nat) (U : Ru), n + 1 - uS U ≤ k → uQ U = 0 → UV A n cl U → ¬ uQ (ruFin b n sh U) = 0 ∧ uS U ≤ uS (ruFin b n sh U) ∧ uS (ruFin b n sh U) ≤ n ∧ (uQ (ruFin b n sh U) = 1 → PO A (uP (ruFin b n sh U)) ∧ dpF (uP (ruFin b n sh U)) (uP (ruFin b n sh U)).1 = 1 ∧ cl + (uP (ruFin b n sh U)).1 ≤ uS (ruFin b n sh U) ∧ 0 < (uP (ruFin b n sh U)).1) ∧ (¬ uQ (ruFin b n sh U) = 1 → 0 < uY (ruFin b n sh U) ∧ uY (ruFin b n sh U) ≤ 3) := by
  intro k
  induction k with
  | zero => intro U hk _ V; have := V.1.1; omega
  | succ k ih =>
    intro U hk hq V
    rw [← fin_s]
    have sn := V.1.1
    rw [rst_q hq]
    have d1 := V.2.1.1
    by_cases z : uD U = 0
    · rw [if_pos z]
      by_cases y : uE U = 0 ∧ tkK b n (uS U) = 3 ∧ b (uS U) = 59
      · rw [if_pos y, fin_t (show ¬ (1 : Nat) = 0 by decide)]
        obtain ⟨⟨a1, a2, a3⟩, -, ⟨a7, a8, a9⟩, -, a11, a12⟩ := V
        have p2 := popW_zr (m := 1) (by decide) (p := uP U) a7
        have p1 := popW_ww (m := 1) (p := uP U) a7
        have p3 := popW_top (m := 1) (by decide) (W := uW U) (p := uP U)
        have p4 := popW_po (m := 1) (by decide) a7 a11 (by omega)
        have p5 := popW_len (m := 1) (uW U) (uP U)
        refine ⟨show ¬ (1 : Nat) = 0 by decide, Nat.le_refl _, sn, fun _ => ?_, fun q => absurd rfl q⟩
        show PO A (popW 1 (uW U) (uP U)).2 ∧ dpF (popW 1 (uW U) (uP U)).2 (popW 1 (uW U) (uP U)).2.1 = 1 ∧ cl + (popW 1 (uW U) (uP U)).2.1 ≤ uS U ∧ 0 < (popW 1 (uW U) (uP U)).2.1
        generalize popW 1 (uW U) (uP U) = x at *
        obtain ⟨W, p⟩ := x
        dsimp only at *
        cases W with
        | nil =>
          have hb : bn [] = 0 := rfl
          refine ⟨p4.1, by omega, by omega, ?_⟩
          rcases Nat.eq_zero_or_pos p.1 with q | q
          · have := p4.2
            rw [q] at this
            have e0 : dpF p 0 = 0 := rfl
            omega
          · exact q
        | cons o W =>
          have o9 := p1.2.1
          have o0 := (bd_0 ⟨o, by omega⟩).1
          dsimp only at o0
          have p3 : bdN o < 1 := p3
          have o0 : o = 0 := o0.mp (by omega)
          rw [show zr (o :: W) = (if o = 0 then 1 else 0) + zr W from rfl, if_pos o0] at p2
          omega
      · rw [if_neg y]
        by_cases x : uQ (rstB b n U) = 0
        · obtain ⟨v1, v2⟩ := uv_B V z x
          have := ih (rstB b n U) (by omega) x v1
          exact ⟨this.1, by omega, this.2.2⟩
        · obtain ⟨u1, u2⟩ := uy_B x
          rw [fin_t x]
          have hs : uS (rstB b n U) = uS U := sf_B x
          exact ⟨x, by omega, by omega, fun q => by omega, fun _ => by omega⟩
    · rw [if_neg z]
      by_cases x : uQ (rstP b n sh U) = 0
      · obtain ⟨v1, v2⟩ := uv_P V hA (by omega) x
        have := ih (rstP b n sh U) (by omega) x v1
        exact ⟨this.1, by omega, this.2.2⟩
      · obtain ⟨u1, u2⟩ := uy_P x
        rw [fin_t x]
        obtain ⟨hs, h3⟩ := sf_P x
        exact ⟨x, by omega, by omega, fun q => by omega, fun _ => ⟨u2, h3⟩⟩
