/-! a line of the model -/
theorem q_begY {l : Launch} {d n s : Nat} {b : Nat → Nat} {h : Hp} {x1 x2 x3 : Int32} (hS : St h) (R : RM h b n s (0, 0)) (h1 : x1 = 0 ∨ x1 = 1) (h2 : x2 = 0 ∨ x2 = 1) (h3 : x3 = 0 ∨ x3 = 1) : Ey l (d + 3) mX10_begins [.ref 77, .int x1, .int x2, .int x3] h (some (.int (if x1 = 1 ∨ x2 = 1 ∨ x3 = 1 then 0 else 1))) (fun g => Fj SGr h g ∧ RM g b n (if x1 = 1 ∨ x2 = 1 ∨ x3 = 1 then s else nx b n s) (if x1 = 1 then (2, s) else if x2 = 1 then (4, s) else if x3 = 1 then (5, s) else (0, 0))) := by
  have e : ∀ x : Int32, x = 0 ∨ x = 1 → (if x = 1 then (1 : Int32) else 0) = x := fun x hx => by rcases hx with q | q <;> rw [q] <;> rfl
  have := q_begins (l := l) (d := d) (n := n) (s := s) (b := b) (h := h) (P := x1 = 1) (Q := x2 = 1) (T := x3 = 1) hS R
  rw [e x1 h1, e x2 h2, e x3 h3] at this
  exact this
/-- a line's body, or what its end will find -/
def LCm (h g : Hp) (b : Nat → Nat) (n : Nat) (R : Ry) : Prop := LBm h g b n R ∨ (Fj SLn h g ∧ ∃ s, RM g b n s (0, 0) ∧ ¬ (tkK b n s = 3 ∧ b s = 59) ∧ yF R = (1, s))
theorem q_ln286 {l : Launch} {d n : Nat} {b : Nat → Nat} {h g : Hp} {R' : Ry} {x1 : Int32} (hS0 : St h) (L : LCm h g b n R') : Go l (rmOf (d + 7) (0, 0)) mX10_line (hN h) (Zm (0, 0) (fun v0 h1 => v0 = none ∧ LNm h h1 b n R') noX) 286 [some (.ref 77), some (.int x1)] [] g 0 0 := by
  have go : ∀ s f, Fj SLn h g → RM g b n s f → (∀ g2, Fj SGr g g2 ∧ RM g2 b n (if f.1 = 0 ∧ (tkK b n s = 3 ∧ b s = 59) then nx b n s else s) (if f.1 = 0 ∧ ¬ (tkK b n s = 3 ∧ b s = 59) then (1, s) else f) → LNm h g2 b n R') → Go l (rmOf (d + 7) (0, 0)) mX10_line (hN h) (Zm (0, 0) (fun v0 h1 => v0 = none ∧ LNm h h1 b n R') noX) 286 [some (.ref 77), some (.int x1)] [] g 0 0 := by
    intro s f F R kk
    have hS := F.St hS0
    have isg := fun d => q_isSignR (l := l) (d := d) (c := 59) hS R (by decide)
    have nd := fun d => q_need (l := l) (d := d) (P := tkK b n s = 3 ∧ b s = 59) hS R
    refine go_aloadn dX10_line_286 rfl ?_
    refine go_aloadn dX10_line_287 rfl ?_
    refine go_bipush (v := 59) dX10_line_288 rfl ?_
    refine sg_cVi (M' := mX10_isSign) ([.int (nI 59)]) dX10_line_290 lX10_199 vX10_isSign (mo_L rfl) (by decide) rfl hS (isg _) rfl (Nat.le_of_ble_eq_true rfl) (Nat.zero_le _) (Nat.zero_le _) ?_
    refine sg_rV0 (M' := mX10_need) ([.int (if tkK b n s = 3 ∧ b s = 59 then 1 else 0)]) dX10_line_293 lX10_263 vX10_need (mo_L rfl) (by decide) rfl hS (nd _) rfl (Nat.le_of_ble_eq_true rfl) (Nat.zero_le _) (Nat.zero_le _) (fun g2 G => ?_)
    refine go_return dX10_line_296 rfl (Nat.zero_le _) (Nat.zero_le _) ?_
    exact ⟨rfl, kk g2 G⟩
  rcases L with ⟨F, ⟨Y, s, eR, f0, R, M⟩ | ⟨hf, s, R⟩⟩ | ⟨F, s, R, ns, ef⟩
  · refine go s (0, 0) F R (fun g2 G => ?_)
    have F2 : Fj SLn h g2 := F.tr (G.1.sub (fun _ _ q => q.ln))
    rw [eR]
    unfold yEnd
    by_cases z : tkK b n s = 3 ∧ b s = 59
    · rw [if_pos ⟨rfl, z⟩, if_neg (fun q => q.2 z)] at G
      rw [if_pos z]
      exact ⟨F2, fun _ => ⟨G.2, M.gr G.1 rfl⟩, fun q => absurd f0 q⟩
    · rw [if_neg (fun q => z q.2), if_pos ⟨rfl, z⟩] at G
      rw [if_neg z]
      exact ⟨F2, fun q => absurd q (show ¬ (1 : Nat) = 0 by decide), fun _ => ⟨_, G.2⟩⟩
  · refine go s (yF R') F R (fun g2 G => ?_)
    rw [if_neg (fun q => hf q.1), if_neg (fun q => hf q.1)] at G
    exact ⟨F.tr (G.1.sub (fun _ _ q => q.ln)), fun q => absurd q hf, fun _ => ⟨_, G.2⟩⟩
  · refine go s (0, 0) F R (fun g2 G => ?_)
    rw [if_neg (fun q => ns q.2), if_pos ⟨rfl, ns⟩] at G
    refine ⟨F.tr (G.1.sub (fun _ _ q => q.ln)), fun q => absurd q (by rw [ef]; show ¬ (1 : Nat) = 0; decide), fun _ => ⟨_, by rw [ef]; exact G.2⟩⟩
/-- a fault at the line's word -/
theorem lc_f {h g : Hp} {b : Nat → Nat} {n y : Nat} {Y : Ry} (F : Fj SGr h g) (R : RM g b n (yS Y) (y, yS Y)) (hy : 0 < y) : LCm h g b n (yFl Y (yS Y) y) := Or.inl ⟨F.sub (fun _ _ q => q.ln), Or.inr ⟨show ¬ y = 0 by omega, _, R⟩⟩
/-- behind a rule -/
theorem lc_rule {h g : Hp} {b : Nat → Nat} {n sh : Nat} {Y : Ry} (I : YI n Y) (f0 : (yF Y).1 = 0) (sn : yS Y < n) (hsh : sh ≤ 1) (ht : ¬ ((sh = 1 ∧ ¬ (cSh (yC Y)).1 = 0) ∨ (¬ sh = 1 ∧ ¬ (cRe (yC Y)).1 = 0))) (F : Fj SLn h g) (E : EXn g b n sh (yK Y).2 (nx b n (yS Y)) (ruA sh) (ru0 (nx b n (yS Y)))) (M : ∀ p, ¬ p.1 = 0 → hI g 77 30 = nI ((yK Y).2 + mpF p p.1 + 1) → PM (hI g 87) (yK Y).2 p → MY g (yRu1 sh Y p)) : LCm h g b n (yRule b n sh Y) := by
  have ng := nx_gt (b := b) sn
  have nl := nx_le (b := b) (Nat.le_of_lt sn)
  have n7 := I.1.1.2.1
  obtain ⟨r1, r2, r3, r4, r5⟩ := ru_done (b := b) (n := n) (sh := sh) ru_A (n + 1) (ru0 (nx b n (yS Y))) (by omega) rfl (uv_0 nl n7)
  have eR : yRule b n sh Y = yRu2 b n sh Y (ruFin b n sh (ru0 (nx b n (yS Y)))) := by unfold yRule; rw [if_neg ht]
  rw [eR]
  rcases E with ⟨V, e1, e2, e3, e4, e5, e6, e7, e8, e9⟩ | ⟨V, e1, e2, s, e3⟩
  · by_cases z : tkK b n (uS V) = 3 ∧ b (uS V) = 59
    · have er : rst b n sh V = ((uS V, 1, 0), V.2.1, popW 1 (uW V) (uP V)) := by rw [rst_q e2, if_pos e3, if_pos ⟨e4, z⟩]
      have ef : ruFin b n sh (ru0 (nx b n (yS Y))) = ((uS V, 1, 0), V.2.1, popW 1 (uW V) (uP V)) := by
        rw [← e1, ← fin_s, er]; exact fin_t (show ¬ (1 : Nat) = 0 by decide)
      rw [ef] at r4 ⊢
      have p0 : ¬ (popW 1 (uW V) (uP V)).2.1 = 0 := by
        have := (r4 rfl).2.2.2
        exact fun q => by
          have h0 : 0 < (popW 1 (uW V) (uP V)).2.1 := this
          omega
      refine Or.inl ⟨F, Or.inl ⟨yRu1 sh Y (popW 1 (uW V) (uP V)).2, uS V, rfl, by unfold yRu1; split <;> exact f0, e6, M _ p0 e8 e9⟩⟩
    · have ef : ruFin b n sh (ru0 (nx b n (yS Y))) = ruFl V 1 := by
        rw [← e1, ← fin_s, e7 z]; exact fin_t (show ¬ (2 : Nat) = 0 by decide)
      rw [ef]
      exact Or.inr ⟨F, uS V, e6, z, rfl⟩
  · have ef : ruFin b n sh (ru0 (nx b n (yS Y))) = V := by rw [← e1]; exact fin_t (by omega)
    rw [ef] at r5 ⊢
    have y0 := (r5 (by omega)).1
    have e : yRu2 b n sh Y V = yFl Y (uS V) (uY V) := if_neg (by omega)
    rw [e]
    exact Or.inl ⟨F, Or.inr ⟨show ¬ uY V = 0 by omega, s, e3⟩⟩
theorem PM.low {f g : Nat → Int32} {a t : Nat} {p : Pr} (H : PM f a p) (ht : a + mpF p p.1 + 1 ≤ t) (e : ∀ k, k < t → g k = f k) : PM g a p := by
  obtain ⟨h1, h2, h3⟩ := H
  refine ⟨fun j hj => ?_, by rw [e _ (by omega)]; exact h2, h3⟩
  have lt := mp_lt (p := p) p.1 j hj
  have ml := ml_1 (o := p.2 j)
  obtain ⟨a1, a2⟩ := h1 j hj
  exact ⟨by rw [e _ (by omega)]; exact a1, fun z => by
    have m2 : mlN (p.2 j) = 2 := by unfold mlN; rw [if_pos z]
    rw [e _ (by omega)]; exact a2 z⟩
