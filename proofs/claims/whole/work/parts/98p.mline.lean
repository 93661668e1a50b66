/-! lines of the model -/
def SLn (a k : Nat) : Prop := (a = 77 ∧ (k = 13 ∨ k = 14 ∨ (17 ≤ k ∧ k ≤ 34))) ∨ (84 ≤ a ∧ a ≤ 90)
theorem SGr.ln {a k : Nat} (h : SGr a k) : SLn a k := by unfold SGr at h; unfold SLn; omega
/-- the model's city while it is read -/
def MY (g : Hp) (Y : Ry) : Prop := (hI g 77 24 = (if yP Y = 0 then -1 else nI (cL (yC Y))) ∧ hI g 77 25 = nI (cP (yC Y)) ∧ hI g 77 26 = nI (cN (yC Y)) ∧ hI g 77 27 = (if yM Y = 0 then -1 else nI (cM (yC Y))) ∧ hI g 77 28 = (if (cSh (yC Y)).1 = 0 then -1 else nI (yR Y).2.2.1) ∧ hI g 77 29 = (if (cRe (yC Y)).1 = 0 then -1 else nI (yR Y).2.2.2) ∧ hI g 77 30 = nI (yK Y).2) ∧
  (∀ p, p < cP (yC Y) → hI g 84 p = nI (cWl (yC Y) p) ∧ hI g 89 p = cBl (yC Y) p ∧ hI g 86 (49 + p) = tV (yT Y) p ∧ hI g 86 (41 + p) = 0) ∧ (∀ i, i < 48 → hI g 86 (57 + i) = tW (yT Y) i) ∧
  (∀ t, t < cN (yC Y) → hI g 85 t = cWt (yC Y) t ∧ hI g 86 (31 + t) = tX (yT Y) t ∧ hI g 86 (1 + t) = tO (yT Y) t ∧ hI g 86 (11 + t) = tB (yT Y) t ∧ hI g 86 (21 + t) = 0) ∧ hI g 86 0 = 0 ∧
  (¬ (cSh (yC Y)).1 = 0 → PM (hI g 87) (yR Y).2.2.1 (cSh (yC Y))) ∧ (¬ (cRe (yC Y)).1 = 0 → PM (hI g 87) (yR Y).2.2.2 (cRe (yC Y)))
theorem MY.eq {h g : Hp} {Y Y' : Ry} (M : MY h Y) (e7 : ∀ k, 24 ≤ k → k ≤ 30 → hI g 77 k = hI h 77 k) (e : ∀ a k, 84 ≤ a → a ≤ 89 → hI g a k = hI h a k) (hy : Y'.2 = Y.2) : MY g Y' := by
  obtain ⟨y1, y2⟩ := Y'
  dsimp only at hy
  subst hy
  obtain ⟨⟨m1, m2, m3, m4, m5, m6, m7⟩, m8, m9, m10, m11, m12, m13⟩ := M
  have e87 : hI g 87 = hI h 87 := funext fun k => e _ _ (by omega) (by omega)
  refine ⟨⟨by rw [e7 _ (by omega) (by omega)]; exact m1, by rw [e7 _ (by omega) (by omega)]; exact m2, by rw [e7 _ (by omega) (by omega)]; exact m3, by rw [e7 _ (by omega) (by omega)]; exact m4, by rw [e7 _ (by omega) (by omega)]; exact m5, by rw [e7 _ (by omega) (by omega)]; exact m6, by rw [e7 _ (by omega) (by omega)]; exact m7⟩, fun p hp => ?_, fun i hi => ?_, fun t ht => ?_, ?_, ?_, ?_⟩
  · rw [e _ _ (by omega) (by omega), e _ _ (by omega) (by omega), e _ _ (by omega) (by omega), e _ _ (by omega) (by omega)]; exact m8 p hp
  · rw [e _ _ (by omega) (by omega)]; exact m9 i hi
  · rw [e _ _ (by omega) (by omega), e _ _ (by omega) (by omega), e _ _ (by omega) (by omega), e _ _ (by omega) (by omega), e _ _ (by omega) (by omega)]; exact m10 t ht
  · rw [e _ _ (by omega) (by omega)]; exact m11
  · rw [e87]; exact m12
  · rw [e87]; exact m13
theorem MY.gr {h g : Hp} {Y Y' : Ry} (M : MY h Y) (F : Fj SGr h g) (hy : Y'.2 = Y.2) : MY g Y' := M.eq (fun k h1 h2 => F.I (by unfold SGr; omega)) (fun a k h1 h2 => F.I (by unfold SGr; omega)) hy
theorem q_begins {l : Launch} {d n s : Nat} {b : Nat → Nat} {h : Hp} {P Q T : Prop} [Decidable P] [Decidable Q] [Decidable T] (hS : St h) (R : RM h b n s (0, 0)) : Ey l (d + 3) mX10_begins [.ref 77, .int (if P then 1 else 0), .int (if Q then 1 else 0), .int (if T then 1 else 0)] h (some (.int (if P ∨ Q ∨ T then 0 else 1))) (fun g => Fj SGr h g ∧ RM g b n (if P ∨ Q ∨ T then s else nx b n s) (if P then (2, s) else if Q then (4, s) else if T then (5, s) else (0, 0))) := by
  refine run_lv [some (.ref 77), some (.int (if P then 1 else 0)), some (.int (if Q then 1 else 0)), some (.int (if T then 1 else 0))] (go := ?_)
  have gd : hI h 77 13 = 0 := R.good.mpr rfl
  have W2 := fun y (h0 : 0 < y) (h5 : y ≤ 5) => R.wr (y := y) h0 h5
  -- once at fault, it stays
  have keep : ∀ {g : Hp} {y : Nat}, St g → RM g b n s (y, s) → 0 < y → ∀ (z : Int32), wrH g z = g := fun {g y} _ Rg hy z => by
    unfold wrH; rw [if_neg (fun q => absurd (Rg.good.mp q) (show ¬ y = 0 by omega))]
  have out : ∀ g y, 0 < y → RM g b n s (y, s) → Fj SGr h g → ∀ v1 v2 v3, Go l (rmOf (d + 3) (0, 0)) mX10_begins (hN h) (Zm (0, 0) (fun v h1 => v = some (.int 0) ∧ Fj SGr h h1 ∧ RM h1 b n s (y, s)) noX) 27 [some (.ref 77), some (.int v1), some (.int v2), some (.int v3)] [] g 0 0 := by
    intro g y hy Rg Fg v1 v2 v3
    have hS := Fg.St hS
    have ig := fun d => q_isGood (l := l) (d := d) hS
    rw [if_neg (fun q => absurd (Rg.good.mp q) (show ¬ y = 0 by omega))] at ig
    refine go_aloadn dX10_begins_27 rfl ?_
    refine sg_cVi (M' := mX10_isGood) ([]) dX10_begins_28 lX10_161 vX10_isGood (mo_L rfl) (by decide) rfl hS (ig _) rfl (Nat.le_of_ble_eq_true rfl) (Nat.zero_le _) (Nat.zero_le _) ?_
    refine go_if_ne (tgt := 36) dX10_begins_31 (by decide) (fun c31 => absurd rfl c31) (fun c31 => ?_)
    refine go_iconst (v := 0) dX10_begins_34 rfl ?_
    refine go_ireturn dX10_begins_35 rfl rfl (Nat.zero_le _) (Nat.zero_le _) ?_
    exact ⟨rfl, Fg, Rg⟩
  have o18 : ∀ g y, 0 < y → RM g b n s (y, s) → Fj SGr h g → ∀ v1 v2 v3, Go l (rmOf (d + 3) (0, 0)) mX10_begins (hN h) (Zm (0, 0) (fun v h1 => v = some (.int 0) ∧ Fj SGr h h1 ∧ RM h1 b n s (y, s)) noX) 18 [some (.ref 77), some (.int v1), some (.int v2), some (.int v3)] [] g 0 0 := by
    intro g y hy Rg Fg v1 v2 v3
    have hS := Fg.St hS
    have wr := fun d => q_wrong (l := l) (d := d) (y := nI 5) hS
    rw [keep hS Rg hy] at wr
    refine go_iloadn dX10_begins_18 rfl ?_
    refine go_if_eq (tgt := 27) dX10_begins_19 (by decide) (fun c19 => ?_) (fun c19 => ?_)
    · exact out g y hy Rg Fg _ _ _
    · refine go_aloadn dX10_begins_22 rfl ?_
      refine go_iconst (v := 5) dX10_begins_23 rfl ?_
      refine sg_cV0 (M' := mX10_wrong) ([.int (nI 5)]) dX10_begins_24 lX10_168 vX10_wrong (mo_L rfl) (by decide) rfl hS (wr _) rfl (Nat.le_of_ble_eq_true rfl) (Nat.zero_le _) (Nat.zero_le _) ?_
      exact out g y hy Rg Fg _ _ _
  have o9 : ∀ g y, 0 < y → RM g b n s (y, s) → Fj SGr h g → ∀ v1 v2 v3, Go l (rmOf (d + 3) (0, 0)) mX10_begins (hN h) (Zm (0, 0) (fun v h1 => v = some (.int 0) ∧ Fj SGr h h1 ∧ RM h1 b n s (y, s)) noX) 9 [some (.ref 77), some (.int v1), some (.int v2), some (.int v3)] [] g 0 0 := by
    intro g y hy Rg Fg v1 v2 v3
    have hS := Fg.St hS
    have wr := fun d => q_wrong (l := l) (d := d) (y := nI 4) hS
    rw [keep hS Rg hy] at wr
    refine go_iloadn dX10_begins_9 rfl ?_
    refine go_if_eq (tgt := 18) dX10_begins_10 (by decide) (fun c10 => ?_) (fun c10 => ?_)
    · exact o18 g y hy Rg Fg _ _ _
    · refine go_aloadn dX10_begins_13 rfl ?_
      refine go_iconst (v := 4) dX10_begins_14 rfl ?_
      refine sg_cV0 (M' := mX10_wrong) ([.int (nI 4)]) dX10_begins_15 lX10_168 vX10_wrong (mo_L rfl) (by decide) rfl hS (wr _) rfl (Nat.le_of_ble_eq_true rfl) (Nat.zero_le _) (Nat.zero_le _) ?_
      exact o18 g y hy Rg Fg _ _ _
  by_cases p : P
  · rw [if_pos p, if_pos (Or.inl p), if_pos (Or.inl p), if_pos p]
    have W := W2 2 (by decide) (by decide)
    rw [wrF, if_pos rfl] at W
    refine go_iloadn dX10_begins_0 rfl ?_
    refine go_if_eq (tgt := 9) dX10_begins_1 (by decide) (fun c1 => absurd c1 (by decide)) (fun c1 => ?_)
    refine go_aloadn dX10_begins_4 rfl ?_
    refine go_iconst (v := 2) dX10_begins_5 rfl ?_
    refine sg_cV0 (M' := mX10_wrong) ([.int (nI 2)]) dX10_begins_6 lX10_168 vX10_wrong (mo_L rfl) (by decide) rfl hS (q_wrong hS) rfl (Nat.le_of_ble_eq_true rfl) (Nat.zero_le _) (Nat.zero_le _) ?_
    exact o9 _ 2 (by decide) W.1 W.2.j _ _ _
  · rw [if_neg p, if_neg p]
    by_cases q : Q
    · rw [if_pos q, if_pos (Or.inr (Or.inl q)), if_pos (Or.inr (Or.inl q)), if_pos q]
      have W := W2 4 (by decide) (by decide)
      rw [wrF, if_pos rfl] at W
      refine go_iloadn dX10_begins_0 rfl ?_
      refine go_if_eq (tgt := 9) dX10_begins_1 (by decide) (fun c1 => ?_) (fun c1 => absurd rfl c1)
      refine go_iloadn dX10_begins_9 rfl ?_
      refine go_if_eq (tgt := 18) dX10_begins_10 (by decide) (fun c10 => absurd c10 (by decide)) (fun c10 => ?_)
      refine go_aloadn dX10_begins_13 rfl ?_
      refine go_iconst (v := 4) dX10_begins_14 rfl ?_
      refine sg_cV0 (M' := mX10_wrong) ([.int (nI 4)]) dX10_begins_15 lX10_168 vX10_wrong (mo_L rfl) (by decide) rfl hS (q_wrong hS) rfl (Nat.le_of_ble_eq_true rfl) (Nat.zero_le _) (Nat.zero_le _) ?_
      exact o18 _ 4 (by decide) W.1 W.2.j _ _ _
    · rw [if_neg q, if_neg q]
      by_cases t : T
      · rw [if_pos t, if_pos (Or.inr (Or.inr t)), if_pos (Or.inr (Or.inr t)), if_pos t]
        have W := W2 5 (by decide) (by decide)
        rw [wrF, if_pos rfl] at W
        refine go_iloadn dX10_begins_0 rfl ?_
        refine go_if_eq (tgt := 9) dX10_begins_1 (by decide) (fun c1 => ?_) (fun c1 => absurd rfl c1)
        refine go_iloadn dX10_begins_9 rfl ?_
        refine go_if_eq (tgt := 18) dX10_begins_10 (by decide) (fun c10 => ?_) (fun c10 => absurd rfl c10)
        refine go_iloadn dX10_begins_18 rfl ?_
        refine go_if_eq (tgt := 27) dX10_begins_19 (by decide) (fun c19 => absurd c19 (by decide)) (fun c19 => ?_)
        refine go_aloadn dX10_begins_22 rfl ?_
        refine go_iconst (v := 5) dX10_begins_23 rfl ?_
        refine sg_cV0 (M' := mX10_wrong) ([.int (nI 5)]) dX10_begins_24 lX10_168 vX10_wrong (mo_L rfl) (by decide) rfl hS (q_wrong hS) rfl (Nat.le_of_ble_eq_true rfl) (Nat.zero_le _) (Nat.zero_le _) ?_
        exact out _ 5 (by decide) W.1 W.2.j _ _ _
      · rw [if_neg t, if_neg t, if_neg (by rintro (z | z | z); exact p z; exact q z; exact t z), if_neg (by rintro (z | z | z); exact p z; exact q z; exact t z)]
        have ig := fun d => q_isGood (l := l) (d := d) hS
        rw [if_pos gd] at ig
        refine go_iloadn dX10_begins_0 rfl ?_
        refine go_if_eq (tgt := 9) dX10_begins_1 (by decide) (fun c1 => ?_) (fun c1 => absurd rfl c1)
        refine go_iloadn dX10_begins_9 rfl ?_
        refine go_if_eq (tgt := 18) dX10_begins_10 (by decide) (fun c10 => ?_) (fun c10 => absurd rfl c10)
        refine go_iloadn dX10_begins_18 rfl ?_
        refine go_if_eq (tgt := 27) dX10_begins_19 (by decide) (fun c19 => ?_) (fun c19 => absurd rfl c19)
        refine go_aloadn dX10_begins_27 rfl ?_
        refine sg_cVi (M' := mX10_isGood) ([]) dX10_begins_28 lX10_161 vX10_isGood (mo_L rfl) (by decide) rfl hS (ig _) rfl (Nat.le_of_ble_eq_true rfl) (Nat.zero_le _) (Nat.zero_le _) ?_
        refine go_if_ne (tgt := 36) dX10_begins_31 (by decide) (fun c31 => ?_) (fun c31 => absurd c31 (by decide))
        refine go_aloadn dX10_begins_36 rfl ?_
        refine sg_rV0 (M' := mX10_goes) ([]) dX10_begins_37 lX10_165 vX10_goes (mo_L rfl) (by decide) rfl hS (q_goesR hS R) rfl (Nat.le_of_ble_eq_true rfl) (Nat.zero_le _) (Nat.zero_le _) (fun g G => ?_)
        refine go_iconst (v := 1) dX10_begins_40 rfl ?_
        refine go_ireturn dX10_begins_41 rfl rfl (Nat.zero_le _) (Nat.zero_le _) ?_
        exact ⟨rfl, G⟩
/-- a line's body -/
def LBm (h g : Hp) (b : Nat → Nat) (n : Nat) (R : Ry) : Prop := Fj SLn h g ∧ ((∃ Y s, R = yEnd b n Y s ∧ (yF Y).1 = 0 ∧ RM g b n s (0, 0) ∧ MY g Y) ∨ (¬ (yF R).1 = 0 ∧ ∃ s, RM g b n s (yF R)))
def LNm (h g : Hp) (b : Nat → Nat) (n : Nat) (R : Ry) : Prop := Fj SLn h g ∧ ((yF R).1 = 0 → RM g b n (yS R) (0, 0) ∧ MY g R) ∧ (¬ (yF R).1 = 0 → ∃ s, RM g b n s (yF R))
