/-! rules of the model: the expression -/
theorem mp_pop {m : Nat} (hm : 0 < m) : ∀ (W : List Nat) (p : Pr), (∀ o, o ∈ W → o ≤ 9) → mpF (popW m W p).2 (popW m W p).2.1 + (popW m W p).1.length = mpF p p.1 + W.length
  | [], p, _ => rfl
  | o :: W, p, h => by
    have h9 := h o (by simp)
    rw [popW_c]
    split
    · rename_i z
      have b3 := (ma_n ⟨o, by omega⟩).2.2
      have b0 := (bd_0 ⟨o, by omega⟩).1
      dsimp only at b3 b0
      rw [mp_pop hm W _ (fun x hx => h x (by simp [hx])), mp_new, (b3 (by omega)).2.1, List.length_cons]
      omega
    · rfl
/-- how an expression ends -/
def EXm (h g : Hp) (b : Nat → Nat) (n sh tp cl : Nat) (A : Nat → Prop) (U : Ru) : Prop := Fj (Sxm tp) h g ∧ ((∃ V, ruFin b n sh V = ruFin b n sh U ∧ uQ V = 0 ∧ uD V = 0 ∧ uE V = 0 ∧ UV A n cl V ∧ RM g b n (uS V) (0, 0) ∧ (¬ (tkK b n (uS V) = 3 ∧ b (uS V) = 59) → rst b n sh V = ruFl V 1) ∧ hI g 77 30 = nI (tp + mpF (popW 1 (uW V) (uP V)).2 (popW 1 (uW V) (uP V)).2.1 + 1) ∧ PM (hI g 87) tp (popW 1 (uW V) (uP V)).2) ∨ (∃ V, ruFin b n sh V = ruFin b n sh U ∧ uQ V = 2 ∧ ∃ s, RM g b n s (uY V, uS V)))
theorem mu_op {h g : Hp} {b : Nat → Nat} {tp cl o m may n : Nat} {A : Nat → Prop} {V : Ru} (M : MU h tp V) (U : UV A n cl V) (o0 : ¬ o = 0) (hm : 0 < m) (H : SKm g tp (o :: (popW m (uW V) (uP V)).1) (popW m (uW V) (uP V)).2) (e34 : hI g 77 34 = hI h 77 34) (e90 : ∀ j, ¬ j = uE V + 1 → hI g 90 j = hI h 90 j) (e9 : hI g 90 (uE V + 1) = nI (hsT (o :: (popW m (uW V) (uP V)).1))) : MU g tp (ruGo b n V ((1, uE V, 0, may), o :: (popW m (uW V) (uP V)).1, (popW m (uW V) (uP V)).2)) := by
  refine ⟨H, e34.trans M.2.1, e9, ?_⟩
  show TBl (hI g 90) (o :: (popW m (uW V) (uP V)).1) (uE V + 1)
  rw [tb_c, if_neg o0]
  exact tb_cong (fun j hj => e90 j (by omega)) (tb_pop hm U.2.2.1.1 M.2.2.2)
theorem q_ex340 {l : Launch} {d n tp sh cl : Nat} {b : Nat → Nat} {h g : Hp} {U0 V : Ru} {A : Nat → Prop} {x1 x2 x3 : Int32} {x4 : Option Value} (hS : St g) (F : Fj (Sxm tp) h g) (hV : ruFin b n sh V = ruFin b n sh U0) (hq : uQ V = 2) {s : Nat} (R : RM g b n s (uY V, uS V)) (y0 : 0 < uY V) {W : List Nat} {p : Pr} (H : SKm g tp W p) (w9 : ∀ o, o ∈ W → o ≤ 9) (wl : W.length ≤ 900) (hb : tp + mpF p p.1 + W.length + 1 ≤ 1400) : Go l (rmOf (d + 6) (0, 0)) mX10_expression (hN h) (Zm (0, 0) (fun v h1 => v = none ∧ EXm h h1 b n sh tp cl A U0) noX) 340 [some (.ref 77), some (.int x1), some (.int x2), some (.int x3), x4] [] g 0 0 := by
  have bad : ¬ hI g 77 13 = 0 := fun q => absurd (R.good.mp q) (show ¬ uY V = 0 by omega)
  have ig := fun d => q_isGood (l := l) (d := d) hS
  rw [if_neg bad] at ig
  have dr := fun d => q_drops (l := l) (d := d) (m := 0) hS H w9 wl (by omega) (by decide)
  rw [show max 0 1 = 1 from rfl] at dr
  have pl := popW_le (m := 1) W p
  have pm := mp_pop (m := 1) (by decide) W p w9
  have fin : ∀ g1, Fz (Sdm tp) g g1 ∧ SKm g1 tp (popW 1 W p).1 (popW 1 W p).2 → Go l (rmOf (d + 6) (0, 0)) mX10_expression (hN h) (Zm (0, 0) (fun v h1 => v = none ∧ EXm h h1 b n sh tp cl A U0) noX) 365 [some (.ref 77), some (.int x1), some (.int x2), some (.int x3), x4] [] g1 0 0 := by
    intro g1 G
    have hS := G.1.St hS
    have pu := fun d => q_puts (l := l) (d := d) (y := 0) hS G.2.2.2.1 (by omega)
    have R1 := R.fz G.1 (fun k hk => by unfold Sdm; omega) (fun k => by unfold Sdm; omega)
    have F1 : Fz (fun a k => (a = 77 ∧ k = 30) ∨ (a = 87 ∧ tp ≤ k)) g1 (uI (uI g1 87 (tp + mpF (popW 1 W p).2 (popW 1 W p).2.1) 0) 77 30 (nI (tp + mpF (popW 1 W p).2 (popW 1 W p).2.1 + 1))) := (Fz.rf.uI (by omega)).uI (by omega)
    have R2 := R1.fz F1 (fun k hk => by omega) (fun k => by omega)
    have Ff : Fj (Sxm tp) h (uI (uI g1 87 (tp + mpF (popW 1 W p).2 (popW 1 W p).2.1) 0) 77 30 (nI (tp + mpF (popW 1 W p).2 (popW 1 W p).2.1 + 1))) := F.tr ((G.1.j.sub (fun a k q => by unfold Sdm at q; unfold Sxm; omega)).tr F1.xm)
    refine go_aloadn dX10_expression_365 rfl ?_
    refine go_iconst (v := 0) dX10_expression_366 rfl ?_
    refine sg_cV0 (M' := mX10_puts) ([.int 0]) dX10_expression_367 lX10_183 vX10_puts (mo_L rfl) (by decide) rfl hS (pu _) rfl (Nat.le_of_ble_eq_true rfl) (Nat.zero_le _) (Nat.zero_le _) ?_
    refine go_return dX10_expression_370 rfl (Nat.zero_le _) (Nat.zero_le _) ?_
    exact ⟨rfl, Ff, Or.inr ⟨V, hV, hq, s, R2⟩⟩
  refine go_aloadn dX10_expression_340 rfl ?_
  refine sg_cVi (M' := mX10_isGood) ([]) dX10_expression_341 lX10_161 vX10_isGood (mo_L rfl) (by decide) rfl hS (ig _) rfl (Nat.le_of_ble_eq_true rfl) (Nat.zero_le _) (Nat.zero_le _) ?_
  refine go_if_eq (tgt := 360) dX10_expression_344 (by decide) (fun c344 => ?_) (fun c344 => absurd rfl c344)
  refine go_aloadn dX10_expression_360 rfl ?_
  refine go_iconst (v := 0) dX10_expression_361 rfl ?_
  refine sg_rV0 (M' := mX10_drops) ([.int (nI 0)]) dX10_expression_362 lX10_211 vX10_drops (mo_L rfl) (by decide) rfl hS (dr _) rfl (Nat.le_of_ble_eq_true rfl) (Nat.zero_le _) (Nat.zero_le _) (fun g1 G => ?_)
  exact fin g1 G
