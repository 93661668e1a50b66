/-! rules of the model: the loop of an expression -/
theorem UV.bd {A : Nat → Prop} {n cl tp : Nat} {V : Ru} (U : UV A n cl V) (htp : tp + 2 ≤ 2 * cl) : (∀ o, o ∈ uW V → o ≤ 9) ∧ (uW V).length ≤ 90 ∧ tp + mpF (uP V) (uP V).1 + (uW V).length + 2 ≤ 2 * uS V ∧ uS V ≤ n ∧ n ≤ 700 := by
  obtain ⟨⟨a1, a2, a3⟩, -, ⟨a7, a8, a9⟩, -⟩ := U
  have h1 := ww_len a7
  have h2 := rk_le a7
  have mp := mp_le (p := uP V) (uP V).1
  exact ⟨ww_9 a7, by omega, by omega, a1, a2⟩
theorem rst_B {b : Nat → Nat} {n sh : Nat} {V : Ru} (hq : uQ V = 0) (hd : uD V = 0) (h : ¬ (uE V = 0 ∧ tkK b n (uS V) = 3 ∧ b (uS V) = 59)) : rst b n sh V = rstB b n V := by rw [rst_q hq, if_pos hd, if_neg h]
theorem q_stop {l : Launch} {d n tp sh cl : Nat} {b : Nat → Nat} {h g : Hp} {U0 V : Ru} {A : Nat → Prop} {x1 x2 x3 : Int32} {x4 : Option Value} (hS : St g) (F : Fj (Sxm tp) h g) (hV : ruFin b n sh V = ruFin b n sh U0) (hq : uQ V = 0) (hd : uD V = 0) (U : UV A n cl V) (htp : tp + 2 ≤ 2 * cl) (E5 : uE V ≤ 5) (R : RM g b n (uS V) (0, 0)) (M : MU g tp V) (st : rstB b n V = ruFl V 1) : Go l (rmOf (d + 6) (0, 0)) mX10_expression (hN h) (Zm (0, 0) (fun v h1 => v = none ∧ EXm h h1 b n sh tp cl A U0) noX) 340 [some (.ref 77), some (.int x1), some (.int x2), some (.int x3), x4] [] g 0 0 := by
  obtain ⟨w9, wl, hb, sn, n7⟩ := U.bd htp
  have gd : hI g 77 13 = 0 := R.good.mpr rfl
  have ig := fun d => q_isGood (l := l) (d := d) hS
  rw [if_pos gd] at ig
  have h34 := M.2.1
  by_cases e : uE V = 0
  · rw [e] at h34
    have dr := fun d => q_drops (l := l) (d := d) (m := 0) hS M.1 w9 (by omega) (by omega) (by decide)
    rw [show max 0 1 = 1 from rfl] at dr
    have pm := mp_pop (m := 1) (by decide) (uW V) (uP V) w9
    have fin : ∀ g1, Fz (Sdm tp) g g1 ∧ SKm g1 tp (popW 1 (uW V) (uP V)).1 (popW 1 (uW V) (uP V)).2 → Go l (rmOf (d + 6) (0, 0)) mX10_expression (hN h) (Zm (0, 0) (fun v h1 => v = none ∧ EXm h h1 b n sh tp cl A U0) noX) 365 [some (.ref 77), some (.int x1), some (.int x2), some (.int x3), x4] [] g1 0 0 := by
      intro g1 G
      have hS := G.1.St hS
      have pu := fun d => q_puts (l := l) (d := d) (y := 0) hS G.2.2.2.1 (by omega)
      have R1 := R.fz G.1 (fun k hk => by unfold Sdm; omega) (fun k => by unfold Sdm; omega)
      have F1 : Fz (fun a k => (a = 77 ∧ k = 30) ∨ (a = 87 ∧ k = tp + mpF (popW 1 (uW V) (uP V)).2 (popW 1 (uW V) (uP V)).2.1)) g1 (uI (uI g1 87 (tp + mpF (popW 1 (uW V) (uP V)).2 (popW 1 (uW V) (uP V)).2.1) 0) 77 30 (nI (tp + mpF (popW 1 (uW V) (uP V)).2 (popW 1 (uW V) (uP V)).2.1 + 1))) := (Fz.rf.uI (by omega)).uI (by omega)
      have w1 : hI (uI (uI g1 87 (tp + mpF (popW 1 (uW V) (uP V)).2 (popW 1 (uW V) (uP V)).2.1) 0) 77 30 (nI (tp + mpF (popW 1 (uW V) (uP V)).2 (popW 1 (uW V) (uP V)).2.1 + 1))) 77 30 = nI (tp + mpF (popW 1 (uW V) (uP V)).2 (popW 1 (uW V) (uP V)).2.1 + 1) := hI_uI_eq
      have w2 : hI (uI (uI g1 87 (tp + mpF (popW 1 (uW V) (uP V)).2 (popW 1 (uW V) (uP V)).2.1) 0) 77 30 (nI (tp + mpF (popW 1 (uW V) (uP V)).2 (popW 1 (uW V) (uP V)).2.1 + 1))) 87 (tp + mpF (popW 1 (uW V) (uP V)).2 (popW 1 (uW V) (uP V)).2.1) = 0 := by rw [hI_uI_ne (by omega), hI_uI_eq]
      have post : ∀ g2, g2 = uI (uI g1 87 (tp + mpF (popW 1 (uW V) (uP V)).2 (popW 1 (uW V) (uP V)).2.1) 0) 77 30 (nI (tp + mpF (popW 1 (uW V) (uP V)).2 (popW 1 (uW V) (uP V)).2.1 + 1)) → EXm h g2 b n sh tp cl A U0 := by
        intro g2 hg
        rw [← hg] at F1 w1 w2
        refine ⟨F.tr ((G.1.j.sub (fun a k q => by unfold Sdm at q; unfold Sxm; omega)).tr (F1.sub (fun a k q => (by omega : (a = 77 ∧ k = 30) ∨ (a = 87 ∧ tp ≤ k)))).xm), Or.inl ⟨V, hV, hq, hd, e, U, R1.fz F1 (fun k hk => by omega) (fun k => by omega), fun z => by rw [rst_B hq hd (fun q => z q.2)]; exact st, w1, ?_⟩⟩
        have H := G.2
        refine ⟨fun j hj => ?_, w2, by omega⟩
        have lt := mp_lt (p := (popW 1 (uW V) (uP V)).2) (popW 1 (uW V) (uP V)).2.1 j hj
        have ml := ml_1 (o := (popW 1 (uW V) (uP V)).2.2 j)
        obtain ⟨c1, c2⟩ := H.2.2.2 j hj
        refine ⟨by rw [F1.I (by omega)]; exact c1, fun z => ?_⟩
        have m2 : mlN ((popW 1 (uW V) (uP V)).2.2 j) = 2 := by unfold mlN; rw [if_pos z]
        rw [F1.I (by omega)]; exact c2 z
      refine go_aloadn dX10_expression_365 rfl ?_
      refine go_iconst (v := 0) dX10_expression_366 rfl ?_
      refine sg_cV0 (M' := mX10_puts) ([.int 0]) dX10_expression_367 lX10_183 vX10_puts (mo_L rfl) (by decide) rfl hS (pu _) rfl (Nat.le_of_ble_eq_true rfl) (Nat.zero_le _) (Nat.zero_le _) ?_
      refine go_return dX10_expression_370 rfl (Nat.zero_le _) (Nat.zero_le _) ?_
      exact ⟨rfl, post _ rfl⟩
    refine go_aloadn dX10_expression_340 rfl ?_
    refine sg_cVi (M' := mX10_isGood) ([]) dX10_expression_341 lX10_161 vX10_isGood (mo_L rfl) (by decide) rfl hS (ig _) rfl (Nat.le_of_ble_eq_true rfl) (Nat.zero_le _) (Nat.zero_le _) ?_
    refine go_if_eq (tgt := 360) dX10_expression_344 (by decide) (fun c344 => absurd c344 (by decide)) (fun c344 => ?_)
    refine go_aloadn dX10_expression_347 rfl ?_
    refine sg_getI dX10_expression_348 fX10_196 rfl (mo_L rfl) hS ?_
    rw [h34]
    refine go_iconst (v := 1) dX10_expression_351 rfl ?_
    refine go_icmp_le (tgt := 360) dX10_expression_352 (by decide) (fun c352 => ?_) (fun c352 => absurd (Int32.le_refl _) c352)
    refine go_aloadn dX10_expression_360 rfl ?_
    refine go_iconst (v := 0) dX10_expression_361 rfl ?_
    refine sg_rV0 (M' := mX10_drops) ([.int (nI 0)]) dX10_expression_362 lX10_211 vX10_drops (mo_L rfl) (by decide) rfl hS (dr _) rfl (Nat.le_of_ble_eq_true rfl) (Nat.zero_le _) (Nat.zero_le _) (fun g1 G => ?_)
    exact fin g1 G
  · have W := R.wr (y := 1) (by decide) (by decide)
    rw [wrF, if_pos rfl] at W
    have wr := fun d => q_wrong (l := l) (d := d) (y := nI 1) hS
    generalize wrH g (nI 1) = g0 at *
    have S0 := W.2.St hS
    have hV2 : ruFin b n sh (ruFl V 1) = ruFin b n sh U0 := by
      rw [← st, ← rst_B hq hd (fun q => e q.1)]; exact fin_s.trans hV
    have H0 := M.1.fz0 W.2
    have bad : ¬ hI g0 77 13 = 0 := fun q => absurd (W.1.good.mp q) (show ¬ (1 : Nat) = 0 by decide)
    have F0 : Fj (Sxm tp) h g0 := F.tr (W.2.j.sub (fun _ _ q => Or.inl q))
    have dr := fun d => q_drops (l := l) (d := d) (m := 0) S0 H0 w9 (by omega) (by omega) (by decide)
    rw [show max 0 1 = 1 from rfl] at dr
    have pm := mp_pop (m := 1) (by decide) (uW V) (uP V) w9
    have fin : ∀ g1, Fz (Sdm tp) g0 g1 ∧ SKm g1 tp (popW 1 (uW V) (uP V)).1 (popW 1 (uW V) (uP V)).2 → Go l (rmOf (d + 6) (0, 0)) mX10_expression (hN h) (Zm (0, 0) (fun v h1 => v = none ∧ EXm h h1 b n sh tp cl A U0) noX) 365 [some (.ref 77), some (.int x1), some (.int x2), some (.int x3), x4] [] g1 0 0 := by
      intro g1 G
      have hS := G.1.St S0
      have pu := fun d => q_puts (l := l) (d := d) (y := 0) hS G.2.2.2.1 (by omega)
      have R1 := W.1.fz G.1 (fun k hk => by unfold Sdm; omega) (fun k => by unfold Sdm; omega)
      have F1 : Fz (fun a k => (a = 77 ∧ k = 30) ∨ (a = 87 ∧ tp ≤ k)) g1 (uI (uI g1 87 (tp + mpF (popW 1 (uW V) (uP V)).2 (popW 1 (uW V) (uP V)).2.1) 0) 77 30 (nI (tp + mpF (popW 1 (uW V) (uP V)).2 (popW 1 (uW V) (uP V)).2.1 + 1))) := (Fz.rf.uI (by omega)).uI (by omega)
      have R2 := R1.fz F1 (fun k hk => by omega) (fun k => by omega)
      have Ff := F0.tr ((G.1.j.sub (fun a k q => show Sxm tp a k by unfold Sdm at q; unfold Sxm; omega)).tr F1.xm)
      refine go_aloadn dX10_expression_365 rfl ?_
      refine go_iconst (v := 0) dX10_expression_366 rfl ?_
      refine sg_cV0 (M' := mX10_puts) ([.int 0]) dX10_expression_367 lX10_183 vX10_puts (mo_L rfl) (by decide) rfl hS (pu _) rfl (Nat.le_of_ble_eq_true rfl) (Nat.zero_le _) (Nat.zero_le _) ?_
      refine go_return dX10_expression_370 rfl (Nat.zero_le _) (Nat.zero_le _) ?_
      exact ⟨rfl, Ff, Or.inr ⟨ruFl V 1, hV2, rfl, _, R2⟩⟩
    refine go_aloadn dX10_expression_340 rfl ?_
    refine sg_cVi (M' := mX10_isGood) ([]) dX10_expression_341 lX10_161 vX10_isGood (mo_L rfl) (by decide) rfl hS (ig _) rfl (Nat.le_of_ble_eq_true rfl) (Nat.zero_le _) (Nat.zero_le _) ?_
    refine go_if_eq (tgt := 360) dX10_expression_344 (by decide) (fun c344 => absurd c344 (by decide)) (fun c344 => ?_)
    refine go_aloadn dX10_expression_347 rfl ?_
    refine sg_getI dX10_expression_348 fX10_196 rfl (mo_L rfl) hS ?_
    rw [h34]
    refine go_iconst (v := 1) dX10_expression_351 rfl ?_
    refine go_icmp_le (tgt := 360) dX10_expression_352 (by decide) (fun c352 => absurd c352 (Int32.not_le.mpr (nI_lt (a := 1) (by omega) (by omega)))) (fun c352 => ?_)
    refine go_aloadn dX10_expression_355 rfl ?_
    refine go_iconst (v := 1) dX10_expression_356 rfl ?_
    refine sg_cV0 (M' := mX10_wrong) ([.int (nI 1)]) dX10_expression_357 lX10_168 vX10_wrong (mo_L rfl) (by decide) rfl hS (wr _) rfl (Nat.le_of_ble_eq_true rfl) (Nat.zero_le _) (Nat.zero_le _) ?_
    have hS := S0
    refine go_aloadn dX10_expression_360 rfl ?_
    refine go_iconst (v := 0) dX10_expression_361 rfl ?_
    refine sg_rV0 (M' := mX10_drops) ([.int (nI 0)]) dX10_expression_362 lX10_211 vX10_drops (mo_L rfl) (by decide) rfl hS (dr _) rfl (Nat.le_of_ble_eq_true rfl) (Nat.zero_le _) (Nat.zero_le _) (fun g1 G => ?_)
    exact fin g1 G
