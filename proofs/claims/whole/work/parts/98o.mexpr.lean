/-! the model's expression -/
def Sxe (tp a k : Nat) : Prop := Sxm tp a k ∨ (a = 77 ∧ (k = 31 ∨ k = 32))
def EXn (g : Hp) (b : Nat → Nat) (n sh tp cl : Nat) (A : Nat → Prop) (U : Ru) : Prop := (∃ V, ruFin b n sh V = ruFin b n sh U ∧ uQ V = 0 ∧ uD V = 0 ∧ uE V = 0 ∧ UV A n cl V ∧ RM g b n (uS V) (0, 0) ∧ (¬ (tkK b n (uS V) = 3 ∧ b (uS V) = 59) → rst b n sh V = ruFl V 1) ∧ hI g 77 30 = nI (tp + mpF (popW 1 (uW V) (uP V)).2 (popW 1 (uW V) (uP V)).2.1 + 1) ∧ PM (hI g 87) tp (popW 1 (uW V) (uP V)).2) ∨ (∃ V, ruFin b n sh V = ruFin b n sh U ∧ uQ V = 2 ∧ ∃ s, RM g b n s (uY V, uS V))
def exH (h : Hp) (fa fb : Int32) : Hp := uI (uI (uI (uI (uI (uI h 77 31 fa) 77 32 fb) 77 33 0) 77 34 0) 77 34 (nI (0 + 1))) 90 (0 + 1) 0
theorem q_expr {l : Launch} {d n tp sh s : Nat} {b : Nat → Nat} {h : Hp} {A : Nat → Prop} (hS : St h) (hsh : sh ≤ 1) (hA : ∀ k, vlA sh k → A (mvN k)) (R : RM h b n s (0, 0)) (n7 : n ≤ 700) (h30 : hI h 77 30 = nI tp) (htp : tp + 2 ≤ 2 * s) : Ey l (d + 6) mX10_expression [.ref 77, .int (nI (if sh = 1 then 0 else 5)), .int (nI (if sh = 1 then 6 else 8))] h none (fun g => EXm (exH h (nI (if sh = 1 then 0 else 5)) (nI (if sh = 1 then 6 else 8))) g b n sh tp s A (ru0 s)) := by
  refine run_lv [some (.ref 77), some (.int (nI (if sh = 1 then 0 else 5))), some (.int (nI (if sh = 1 then 6 else 8))), none, none] (go := ?_)
  have sn := R.2.2.1
  have gd : hI h 77 13 = 0 := R.good.mpr rfl
  have ig := fun d => q_isGood (l := l) (d := d) hS
  rw [if_pos gd] at ig
  generalize hfa : nI (if sh = 1 then 0 else 5) = fa at *
  generalize hfb : nI (if sh = 1 then 6 else 8) = fb at *
  have F1 : Fz (fun a k => a = 77 ∧ 31 ≤ k ∧ k ≤ 34) h (uI (uI (uI (uI h 77 31 fa) 77 32 fb) 77 33 0) 77 34 0) := (((Fz.rf.uI (by omega)).uI (by omega)).uI (by omega)).uI (by omega)
  have w1 : hI (uI (uI (uI (uI h 77 31 fa) 77 32 fb) 77 33 0) 77 34 0) 77 31 = fa := by repeat first | rw [hI_uI_ne (by omega)] | rw [hI_uI_eq]
  have w2 : hI (uI (uI (uI (uI h 77 31 fa) 77 32 fb) 77 33 0) 77 34 0) 77 32 = fb := by repeat first | rw [hI_uI_ne (by omega)] | rw [hI_uI_eq]
  have w3 : hI (uI (uI (uI (uI h 77 31 fa) 77 32 fb) 77 33 0) 77 34 0) 77 33 = 0 := by repeat first | rw [hI_uI_ne (by omega)] | rw [hI_uI_eq]
  have w4 : hI (uI (uI (uI (uI h 77 31 fa) 77 32 fb) 77 33 0) 77 34 0) 77 34 = 0 := hI_uI_eq
  unfold exH
  have fin : ∀ h1, h1 = uI (uI (uI (uI h 77 31 fa) 77 32 fb) 77 33 0) 77 34 0 → Go l (rmOf (d + 6) (0, 0)) mX10_expression (hN h) (Zm (0, 0) (fun v h1 => v = none ∧ EXm (uI (uI (uI (uI (uI (uI h 77 31 fa) 77 32 fb) 77 33 0) 77 34 0) 77 34 (nI (0 + 1))) 90 (0 + 1) 0) h1 b n sh tp s A (ru0 s)) noX) 28 [some (.ref 77), some (.int fa), some (.int fb), none, none] [] h1 0 0 := by
    intro h1 hg
    rw [← hg] at F1 w1 w2 w3 w4 ⊢
    have S1 := F1.St hS
    have dp := fun d => q_deeper (l := l) (d := d) (dd := 0) S1 w4 (by decide)
    have F2 : Fz (fun a k => (a = 77 ∧ k = 34) ∨ a = 90) h1 (uI (uI h1 77 34 (nI (0 + 1))) 90 (0 + 1) 0) := (Fz.rf.uI (by omega)).uI (by omega)
    have x1 : hI (uI (uI h1 77 34 (nI (0 + 1))) 90 (0 + 1) 0) 77 34 = nI (0 + 1) := by rw [hI_uI_ne (by omega), hI_uI_eq]
    have x2 : hI (uI (uI h1 77 34 (nI (0 + 1))) 90 (0 + 1) 0) 90 (0 + 1) = 0 := hI_uI_eq
    generalize uI (uI h1 77 34 (nI (0 + 1))) 90 (0 + 1) 0 = h2 at *
    have S2 := F2.St S1
    have R2 := (R.fz F1 (fun k hk => by omega) (fun k => by omega)).fz F2 (fun k hk => by omega) (fun k => by omega)
    have M2 : MU h2 tp (ru0 s) := ⟨⟨by rw [F2.I (by omega), w3]; rfl, fun i hi => absurd hi (Nat.not_lt_zero _), by rw [F2.I (by omega), F1.I (by omega), h30]; rfl, fun j hj => absurd hj (Nat.not_lt_zero _)⟩, x1, x2, rfl⟩
    have V0 : UV A n s (ru0 s) := uv_0 sn n7
    have e1 : hI h2 77 31 = nI (if sh = 1 then 0 else 5) := by rw [F2.I (by omega), w1]; exact hfa.symm
    have e2 : hI h2 77 32 = nI (if sh = 1 then 6 else 8) := by rw [F2.I (by omega), w2]; exact hfb.symm
    have op := fun d => q_operand (l := l) (d := d) (A := A) S2 hsh hA e1 e2 htp rfl rfl rfl V0 (Nat.zero_le _) R2 M2
    rw [show uM (ru0 s) = 1 from rfl] at op
    have nn : hN h2 = hN h := F2.2.1.trans F1.2.1
    rw [← nn]
    have cont : ∀ g, OPm h2 g b n sh tp s A (ru0 s) → Go l (rmOf (d + 6) (0, 0)) mX10_expression (hN h2) (Zm (0, 0) (fun v h1 => v = none ∧ EXm h2 h1 b n sh tp s A (ru0 s)) noX) 39 [some (.ref 77), some (.int fa), some (.int fb), some (.int 1), none] [] g 0 0 := by
      intro g O
      obtain ⟨F5, V2, hV2, O⟩ := O
      rcases O with ⟨q1, q2, q3, q4, q5, q6, q7⟩ | ⟨q1, ⟨s', q2⟩, W, p, q3, q4, q5, q6⟩
      · exact q_ex39 S2 hsh hA e1 e2 htp (n + 1) V2 g none (by omega) q1 q2 q3 q4 hV2 q6 q7 F5
      · have S5 := F5.St S2
        have y0 : 0 < uY V2 := by
          rcases Nat.eq_zero_or_pos (uY V2) with e | e
          · exfalso
            have := (ru_done (b := b) (n := n) (sh := sh) hA (n + 1) (ru0 s) (by omega) rfl V0).2.2.2.2
            rw [← hV2, fin_t (show ¬ uQ V2 = 0 by omega)] at this
            have := (this (by omega)).1
            omega
          · exact e
        have bad : ¬ hI g 77 13 = 0 := fun q => absurd (q2.good.mp q) (show ¬ uY V2 = 0 by omega)
        have ig5 := fun d => q_isGood (l := l) (d := d) S5
        rw [if_neg bad] at ig5
        have out := q_ex340 (l := l) (d := d) (cl := s) (A := A) (x1 := fa) (x2 := fb) (x3 := 1) (x4 := none) S5 F5 hV2 q1 q2 y0 q3 q4 q5 q6
        have hS := S5
        refine go_iloadn dX10_expression_39 rfl ?_
        refine go_if_eq (tgt := 340) dX10_expression_40 (by decide) (fun c40 => absurd c40 (by decide)) (fun c40 => ?_)
        refine go_aloadn dX10_expression_43 rfl ?_
        refine sg_cVi (M' := mX10_isGood) ([]) dX10_expression_44 lX10_161 vX10_isGood (mo_L rfl) (by decide) rfl hS (ig5 _) rfl (Nat.le_of_ble_eq_true rfl) (Nat.zero_le _) (Nat.zero_le _) ?_
        refine go_if_eq (tgt := 340) dX10_expression_47 (by decide) (fun c47 => ?_) (fun c47 => absurd rfl c47)
        exact out
    have hS := S1
    refine go_aloadn dX10_expression_28 rfl ?_
    refine sg_cV0 (M' := mX10_deeper) ([]) dX10_expression_29 lX10_205 vX10_deeper (mo_L rfl) (by decide) rfl hS (dp _) rfl (Nat.le_of_ble_eq_true rfl) (Nat.zero_le _) (Nat.zero_le _) ?_
    have hS := S2
    refine go_aloadn dX10_expression_32 rfl ?_
    refine go_iconst (v := 1) dX10_expression_33 rfl ?_
    refine sg_rV0 (M' := mX10_operand) ([.int (nI 1)]) dX10_expression_34 lX10_214 vX10_operand (mo_L rfl) (by decide) rfl hS (op _) rfl (Nat.le_of_ble_eq_true rfl) (Nat.zero_le _) (Nat.zero_le _) (fun g O => ?_)
    refine go_iconst (v := 1) dX10_expression_37 rfl ?_
    refine go_ist3 dX10_expression_38 rfl ?_
    exact cont g O
  refine go_aloadn dX10_expression_0 rfl ?_
  refine sg_cVi (M' := mX10_isGood) ([]) dX10_expression_1 lX10_161 vX10_isGood (mo_L rfl) (by decide) rfl hS (ig _) rfl (Nat.le_of_ble_eq_true rfl) (Nat.zero_le _) (Nat.zero_le _) ?_
  refine go_if_ne (tgt := 8) dX10_expression_4 (by decide) (fun c4 => ?_) (fun c4 => absurd c4 (by decide))
  refine go_aloadn dX10_expression_8 rfl ?_
  refine go_iloadn dX10_expression_9 rfl ?_
  refine sg_putI dX10_expression_10 fX10_190 rfl rfl (mo_L rfl) hS ?_
  refine go_aloadn dX10_expression_13 rfl ?_
  refine go_iloadn dX10_expression_14 rfl ?_
  refine sg_putI dX10_expression_15 fX10_193 rfl rfl (mo_L rfl) hS ?_
  refine go_aloadn dX10_expression_18 rfl ?_
  refine go_iconst (v := 0) dX10_expression_19 rfl ?_
  refine sg_putI dX10_expression_20 fX10_174 rfl rfl (mo_L rfl) hS ?_
  refine go_aloadn dX10_expression_23 rfl ?_
  refine go_iconst (v := 0) dX10_expression_24 rfl ?_
  refine sg_putI dX10_expression_25 fX10_196 rfl rfl (mo_L rfl) hS ?_
  exact fin _ rfl
theorem q_expression {l : Launch} {d n tp sh s : Nat} {b : Nat → Nat} {h : Hp} {A : Nat → Prop} (hS : St h) (hsh : sh ≤ 1) (hA : ∀ k, vlA sh k → A (mvN k)) (R : RM h b n s (0, 0)) (n7 : n ≤ 700) (h30 : hI h 77 30 = nI tp) (htp : tp + 2 ≤ 2 * s) : Ey l (d + 6) mX10_expression [.ref 77, .int (nI (if sh = 1 then 0 else 5)), .int (nI (if sh = 1 then 6 else 8))] h none (fun g => Fj (Sxe tp) h g ∧ EXn g b n sh tp s A (ru0 s)) := by
  refine (q_expr hS hsh hA R n7 h30 htp).mono (fun g q => ⟨?_, q.2⟩)
  have F0 : Fz (Sxe tp) h (exH h (nI (if sh = 1 then 0 else 5)) (nI (if sh = 1 then 6 else 8))) := by
    unfold exH
    exact (((((Fz.rf.uI (by unfold Sxe; omega)).uI (by unfold Sxe; omega)).uI (by unfold Sxe Sxm; omega)).uI (by unfold Sxe Sxm; omega)).uI (by unfold Sxe Sxm; omega)).uI (by unfold Sxe Sxm; omega)
  exact F0.j.tr (q.1.sub (fun _ _ z => Or.inl z))
