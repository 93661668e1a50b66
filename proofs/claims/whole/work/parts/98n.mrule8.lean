/-! rules of the model: the loop -/
theorem MU.fj {h g : Hp} {tp : Nat} {U : Ru} (M : MU h tp U) (F : Fj SGr h g) : MU g tp U := ⟨M.1.fj F, by rw [F.I (by unfold SGr; omega)]; exact M.2.1, by rw [F.I (by unfold SGr; omega)]; exact M.2.2.1, tb_cong (fun j _ => F.I (by unfold SGr; omega)) M.2.2.2⟩
theorem op_sg {b : Nat → Nat} {n s : Nat} (k3 : tkK b n s = 3) : opF b n s = sgO (b s) := by unfold opF; rw [if_neg (by omega), if_pos k3]
theorem op_kw {b : Nat → Nat} {n s : Nat} : (kwN b n s = 17 → opF b n s = 2) ∧ (kwN b n s = 18 → opF b n s = 1) := by
  refine ⟨fun q => ?_, fun q => ?_⟩
  · have k1 := ((kwN_iff (b := b) (n := n) (s := s) (k := 17) (by decide)).mp q).1
    unfold opF; rw [if_pos k1, if_neg (by omega), if_pos q]
  · have k1 := ((kwN_iff (b := b) (n := n) (s := s) (k := 18) (by decide)).mp q).1
    unfold opF; rw [if_pos k1, if_pos q]
theorem B_op {b : Nat → Nat} {n : Nat} {V : Ru} {o : Nat} (ho : opF b n (uS V) = o) (o0 : ¬ o = 0) (n41 : ¬ (tkK b n (uS V) = 3 ∧ b (uS V) = 41)) (nt : ¬ (bdN o = 4 ∧ topB (popW 5 (uW V) (uP V)).1 = 4)) : rstB b n V = ruGo b n V ((1, uE V, 0, if o ≤ 2 then 1 else 0), o :: (popW (tgO o) (uW V) (uP V)).1, (popW (tgO o) (uW V) (uP V)).2) := by
  unfold rstB; rw [if_neg n41, ho, if_neg o0, if_neg nt]
theorem q_ex39 {l : Launch} {d n tp sh cl : Nat} {b : Nat → Nat} {h : Hp} {U0 : Ru} {A : Nat → Prop} {x1 x2 : Int32} (hS0 : St h) (hsh : sh ≤ 1) (hA : ∀ k, vlA sh k → A (mvN k)) (f1 : hI h 77 31 = nI (if sh = 1 then 0 else 5)) (f2 : hI h 77 32 = nI (if sh = 1 then 6 else 8)) (htp : tp + 2 ≤ 2 * cl) : ∀ (k : Nat) (V : Ru) (g : Hp) (x4 : Option Value), n + 1 - uS V ≤ k → uQ V = 0 → uD V = 0 → UV A n cl V → uE V ≤ 5 → ruFin b n sh V = ruFin b n sh U0 → RM g b n (uS V) (0, 0) → MU g tp V → Fj (Sxm tp) h g → Go l (rmOf (d + 6) (0, 0)) mX10_expression (hN h) (Zm (0, 0) (fun v h1 => v = none ∧ EXm h h1 b n sh tp cl A U0) noX) 39 [some (.ref 77), some (.int x1), some (.int x2), some (.int 1), x4] [] g 0 0 := by
  intro k
  induction k with
  | zero => intro V g x4 hk _ _ U; have := U.1.1; omega
  | succ k ih =>
    intro V g x4 hk hq hd U E5 hV R M F
    have hS := F.St hS0
    obtain ⟨w9, wl, hb, sn, n7⟩ := U.bd htp
    have ww := U.2.2.1.1
    have zrE := U.2.2.1.2.1
    have h34 := M.2.1
    have h90 := M.2.2.1
    have gd : hI g 77 13 = 0 := R.good.mpr rfl
    have ig := fun d => q_isGood (l := l) (d := d) hS
    rw [if_pos gd] at ig
    have kw := fun d => q_knownWord (l := l) (d := d) hS R
    have kl := kwN_le (b := b) (n := n) (s := uS V)
    have isg := fun d c (hc : c < 256) => q_isSignR (l := l) (d := d) (c := c) hS R hc
    have i60 := fun d => isg d 60 (by decide)
    have i61 := fun d => isg d 61 (by decide)
    have i43 := fun d => isg d 43 (by decide)
    have i45 := fun d => isg d 45 (by decide)
    have i42 := fun d => isg d 42 (by decide)
    have i47 := fun d => isg d 47 (by decide)
    have i41 := fun d => isg d 41 (by decide)
    have iop := fun d => q_isOpened (l := l) (d := d) hS M.1 w9 (by omega)
    have f1' : hI g 77 31 = nI (if sh = 1 then 0 else 5) := by rw [F.I (by unfold Sxm SGr; omega)]; exact f1
    have f2' : hI g 77 32 = nI (if sh = 1 then 6 else 8) := by rw [F.I (by unfold Sxm SGr; omega)]; exact f2
    -- behind an operator: its operand, and on
    have opT : ∀ o, opF b n (uS V) = o → ¬ o = 0 → ¬ (tkK b n (uS V) = 3 ∧ b (uS V) = 41) → ¬ (bdN o = 4 ∧ topB (popW 5 (uW V) (uP V)).1 = 4) → ∀ g3, Fj (Sxm tp) h g3 → RM g3 b n (uS V) (0, 0) → MU g3 tp (ruGo b n V ((1, uE V, 0, if o ≤ 2 then 1 else 0), o :: (popW (tgO o) (uW V) (uP V)).1, (popW (tgO o) (uW V) (uP V)).2)) → ∀ g4, Fj SGr g3 g4 ∧ RM g4 b n (nx b n (uS V)) (0, 0) → (∀ d, Ey l (d + 5) mX10_operand [.ref 77, .int (nI (if o ≤ 2 then 1 else 0))] g4 none (fun g5 => OPm g4 g5 b n sh tp cl A (ruGo b n V ((1, uE V, 0, if o ≤ 2 then 1 else 0), o :: (popW (tgO o) (uW V) (uP V)).1, (popW (tgO o) (uW V) (uP V)).2)))) ∧ ∀ g5 x4, OPm g4 g5 b n sh tp cl A (ruGo b n V ((1, uE V, 0, if o ≤ 2 then 1 else 0), o :: (popW (tgO o) (uW V) (uP V)).1, (popW (tgO o) (uW V) (uP V)).2)) → Go l (rmOf (d + 6) (0, 0)) mX10_expression (hN h) (Zm (0, 0) (fun v h1 => v = none ∧ EXm h h1 b n sh tp cl A U0) noX) 39 [some (.ref 77), some (.int x1), some (.int x2), some (.int 1), x4] [] g5 0 0 := by
      intro o ho o0 n41 nt g3 F3 R3 M3 g4 G4
      have eB := B_op ho o0 n41 nt
      have vq : uQ (rstB b n V) = 0 := by rw [eB]; rfl
      obtain ⟨v1, v2⟩ := uv_B U hd vq
      have fin2 : ruFin b n sh (rstB b n V) = ruFin b n sh U0 := by
        rw [← rst_B (sh := sh) hq hd (fun q => by
          have := op_sg q.2.1
          rw [q.2.2, ho] at this
          exact o0 this)]
        exact fin_s.trans hV
      rw [eB] at v1 v2 fin2
      have z1 : uQ (ruGo b n V ((1, uE V, 0, if o ≤ 2 then 1 else 0), o :: (popW (tgO o) (uW V) (uP V)).1, (popW (tgO o) (uW V) (uP V)).2)) = 0 := rfl
      have z2 : uD (ruGo b n V ((1, uE V, 0, if o ≤ 2 then 1 else 0), o :: (popW (tgO o) (uW V) (uP V)).1, (popW (tgO o) (uW V) (uP V)).2)) = 1 := rfl
      have z3 : uC (ruGo b n V ((1, uE V, 0, if o ≤ 2 then 1 else 0), o :: (popW (tgO o) (uW V) (uP V)).1, (popW (tgO o) (uW V) (uP V)).2)) = 0 := rfl
      have z4 : uE (ruGo b n V ((1, uE V, 0, if o ≤ 2 then 1 else 0), o :: (popW (tgO o) (uW V) (uP V)).1, (popW (tgO o) (uW V) (uP V)).2)) = uE V := rfl
      have z5 : uM (ruGo b n V ((1, uE V, 0, if o ≤ 2 then 1 else 0), o :: (popW (tgO o) (uW V) (uP V)).1, (popW (tgO o) (uW V) (uP V)).2)) = if o ≤ 2 then 1 else 0 := rfl
      have z6 : uS (ruGo b n V ((1, uE V, 0, if o ≤ 2 then 1 else 0), o :: (popW (tgO o) (uW V) (uP V)).1, (popW (tgO o) (uW V) (uP V)).2)) = nx b n (uS V) := rfl
      generalize ruGo b n V ((1, uE V, 0, if o ≤ 2 then 1 else 0), o :: (popW (tgO o) (uW V) (uP V)).1, (popW (tgO o) (uW V) (uP V)).2) = U2 at *
      have F4 : Fj (Sxm tp) h g4 := F3.tr (G4.1.sub (fun _ _ q => Or.inl q))
      have S4 := F4.St hS0
      have e1 : hI g4 77 31 = nI (if sh = 1 then 0 else 5) := by rw [F4.I (by unfold Sxm SGr; omega)]; exact f1
      have e2 : hI g4 77 32 = nI (if sh = 1 then 6 else 8) := by rw [F4.I (by unfold Sxm SGr; omega)]; exact f2
      refine ⟨fun d => ?_, fun g5 x4 O => ?_⟩
      · have := q_operand (l := l) (d := d) S4 hsh hA e1 e2 htp z1 z2 z3 v1 (by omega) (by rw [z6]; exact G4.2) (M3.fj G4.1)
        rw [z5] at this; exact this
      · obtain ⟨F5, V2, hV2, O⟩ := O
        have F5' := F4.tr F5
        rcases O with ⟨q1, q2, q3, q4, q5, q6, q7⟩ | ⟨q1, ⟨s, q2⟩, W, p, q3, q4, q5, q6⟩
        · exact ih V2 g5 x4 (by omega) q1 q2 q3 q4 (hV2.trans fin2) q6 q7 F5'
        · have S5 := F5'.St hS0
          have y0 : 0 < uY V2 := by
            have r5 := q2.2.2.2.2.1
            rcases Nat.eq_zero_or_pos (uY V2) with e | e
            · exfalso
              have := (ru_done (b := b) (n := n) (sh := sh) hA (n + 1) U2 (by omega) z1 v1).2.2.2.2
              rw [← hV2, fin_t (show ¬ uQ V2 = 0 by omega)] at this
              have := (this (by omega)).1
              omega
            · exact e
          have bad : ¬ hI g5 77 13 = 0 := fun q => absurd (q2.good.mp q) (show ¬ uY V2 = 0 by omega)
          have ig5 := fun d => q_isGood (l := l) (d := d) S5
          rw [if_neg bad] at ig5
          have out := q_ex340 (l := l) (d := d) (cl := cl) (A := A) (x1 := x1) (x2 := x2) (x3 := 1) (x4 := x4) S5 F5' (hV2.trans fin2) q1 q2 y0 q3 q4 q5 q6
          have hS := S5
          refine go_iloadn dX10_expression_39 rfl ?_
          refine go_if_eq (tgt := 340) dX10_expression_40 (by decide) (fun c40 => absurd c40 (by decide)) (fun c40 => ?_)
          refine go_aloadn dX10_expression_43 rfl ?_
          refine sg_cVi (M' := mX10_isGood) ([]) dX10_expression_44 lX10_161 vX10_isGood (mo_L rfl) (by decide) rfl hS (ig5 _) rfl (Nat.le_of_ble_eq_true rfl) (Nat.zero_le _) (Nat.zero_le _) ?_
          refine go_if_eq (tgt := 340) dX10_expression_47 (by decide) (fun c47 => ?_) (fun c47 => absurd rfl c47)
          exact out
    -- drops, then waits: the heap
    have drp : ∀ m, m ≤ 6 → ∀ d, Ey l (d + 2) mX10_drops [.ref 77, .int (nI m)] g none (fun g1 => Fz (Sdm tp) g g1 ∧ SKm g1 tp (popW (max m 1) (uW V) (uP V)).1 (popW (max m 1) (uW V) (uP V)).2) := fun m hm d => q_drops hS M.1 w9 (by omega) (by omega) hm
    have wai : ∀ m o, 0 < m → ∀ g1, Fz (Sdm tp) g g1 ∧ SKm g1 tp (popW m (uW V) (uP V)).1 (popW m (uW V) (uP V)).2 → ∃ g2, (∀ d, Ex l (d + 1) mX10_waitsFor [.ref 77, .int (maN o)] g1 none g2) ∧ SKm g2 tp (o :: (popW m (uW V) (uP V)).1) (popW m (uW V) (uP V)).2 ∧ St g1 ∧ Fz (fun a k => Sdm tp a k ∨ a = 88) g g2 := by
      intro m o hm g1 G
      have S1 := G.1.St hS
      have pl := (popW_le (m := m) (uW V) (uP V)).1
      refine ⟨uI (uI g1 88 (popW m (uW V) (uP V)).1.length (maN o)) 77 33 (nI ((popW m (uW V) (uP V)).1.length + 1)), fun d => q_waitsFor S1 G.2.1 (by omega), G.2.push, S1, (G.1.sub (fun _ _ q => Or.inl q)).tr ((Fz.rf.uI (Or.inr rfl)).uI (Or.inl (Or.inl ⟨rfl, Or.inr rfl⟩)))⟩
    have xf : ∀ g2, Fz (fun a k => Sdm tp a k ∨ a = 88) g g2 → Fj (Sxm tp) h g2 ∧ RM g2 b n (uS V) (0, 0) ∧ St g2 ∧ hI g2 77 34 = nI (uE V + 1) ∧ ∀ j, hI g2 90 j = hI g 90 j := fun g2 F2 => ⟨F.tr (F2.j.sub (fun a k q => by unfold Sdm at q; unfold Sxm; omega)), R.fz F2 (fun k hk => by unfold Sdm; omega) (fun k => by unfold Sdm; omega), F2.St hS, by rw [F2.I (by unfold Sdm; omega)]; exact h34, fun j => F2.I (by unfold Sdm; omega)⟩
    have hk1 : ∀ o, kwN b n (uS V) = o → o < 20 → tkK b n (uS V) = 1 := fun o e lt => ((kwN_iff (b := b) (n := n) (s := uS V) (k := o) lt).mp e).1
    -- or, and
    have andor : ∀ o m kk, (o = 2 ∧ m = 2 ∧ kk = 17) ∨ (o = 1 ∧ m = 1 ∧ kk = 18) → kwN b n (uS V) = kk → ∀ g1, Fz (Sdm tp) g g1 ∧ SKm g1 tp (popW m (uW V) (uP V)).1 (popW m (uW V) (uP V)).2 → ∀ g2, SKm g2 tp (o :: (popW m (uW V) (uP V)).1) (popW m (uW V) (uP V)).2 → Fz (fun a k => Sdm tp a k ∨ a = 88) g g2 → Go l (rmOf (d + 6) (0, 0)) mX10_expression (hN h) (Zm (0, 0) (fun v h1 => v = none ∧ EXm h h1 b n sh tp cl A U0) noX) 102 [some (.ref 77), some (.int x1), some (.int x2), some (.int 1), some (.int (nI kk))] [] g2 0 0 := by
      intro o m kk hok hkw g1 G g2 H2 F2
      obtain ⟨X1, X2, X3, X4, X5⟩ := xf g2 F2
      have k1 := hk1 kk hkw (by omega)
      have eo : opF b n (uS V) = o := by
        rcases hok with ⟨e1, e2, e3⟩ | ⟨e1, e2, e3⟩
        · rw [e1]; exact op_kw.1 (hkw.trans e3)
        · rw [e1]; exact op_kw.2 (hkw.trans e3)
      have etg : tgO o = m ∧ bdN o = m ∧ ¬ bdN o = 4 ∧ ¬ o = 0 ∧ o ≤ 2 := by
        rcases hok with ⟨e1, e2, e3⟩ | ⟨e1, e2, e3⟩
        · rw [e1, e2]; decide
        · rw [e1, e2]; decide
      have F3 : Fz (fun a k => a = 90 ∧ k = uE V + 1) g2 (uI g2 90 (uE V + 1) 0) := Fz.rf.uI ⟨rfl, rfl⟩
      have w0 : hI (uI g2 90 (uE V + 1) 0) 90 (uE V + 1) = 0 := hI_uI_eq
      have fin : ∀ g3, g3 = uI g2 90 (uE V + 1) 0 → Go l (rmOf (d + 6) (0, 0)) mX10_expression (hN h) (Zm (0, 0) (fun v h1 => v = none ∧ EXm h h1 b n sh tp cl A U0) noX) 112 [some (.ref 77), some (.int x1), some (.int x2), some (.int 1), some (.int (nI kk))] [] g3 0 0 := by
        intro g3 hg
        rw [← hg] at F3 w0
        have S3 := F3.St X3
        have R3 := X2.fz F3 (fun k hk => by omega) (fun k => by omega)
        have H3 : SKm g3 tp (o :: (popW m (uW V) (uP V)).1) (popW m (uW V) (uP V)).2 := ⟨by rw [F3.I (by omega)]; exact H2.1, fun i hi => by rw [F3.I (by omega)]; exact H2.2.1 i hi, by rw [F3.I (by omega)]; exact H2.2.2.1, fun j hj => by rw [F3.I (by omega), F3.I (by omega)]; exact H2.2.2.2 j hj⟩
        have m0 : 0 < m := by omega
        have h0 : hsT (o :: (popW m (uW V) (uP V)).1) = 0 := by
          rw [hs_c, if_neg etg.2.2.2.1, if_neg (by omega)]
          have t := popW_top m0 (W := uW V) (p := uP V)
          have r := (rk_top (popW_ww (m := m) (p := uP V) ww)).2.1 (by omega)
          have := hs_le (W := (popW m (uW V) (uP V)).1)
          rcases Nat.lt_or_ge (hsT (popW m (uW V) (uP V)).1) 1 with q | q
          · omega
          · have := hs_rk (popW_ww (m := m) (p := uP V) ww) (by omega); omega
        have M3 := mu_op (b := b) (may := if o ≤ 2 then 1 else 0) M U etg.2.2.2.1 m0 H3 (by rw [F3.I (by omega), X4, h34]) (fun j hj => by rw [F3.I (by omega), X5]) (by rw [w0, h0]; rfl)
        rw [← etg.1] at M3
        have T := opT o eo etg.2.2.2.1 (by omega) (fun q => etg.2.2.1 q.1) g3 (X1.tr (F3.j.sub (fun a k q => by unfold Sxm; omega))) R3 M3
        rw [if_pos etg.2.2.2.2] at T
        have hS := S3
        refine go_aloadn dX10_expression_112 rfl ?_
        refine sg_rV0 (M' := mX10_goes) ([]) dX10_expression_113 lX10_165 vX10_goes (mo_L rfl) (by decide) rfl hS (q_goesR hS R3) rfl (Nat.le_of_ble_eq_true rfl) (Nat.zero_le _) (Nat.zero_le _) (fun g4 G4 => ?_)
        have hS := G4.1.St hS
        refine go_aloadn dX10_expression_116 rfl ?_
        refine go_iconst (v := 1) dX10_expression_117 rfl ?_
        refine sg_rV0 (M' := mX10_operand) ([.int (nI 1)]) dX10_expression_118 lX10_214 vX10_operand (mo_L rfl) (by decide) rfl hS ((T g4 G4).1 _) rfl (Nat.le_of_ble_eq_true rfl) (Nat.zero_le _) (Nat.zero_le _) (fun g5 O => ?_)
        refine go_goto (tgt := 337) dX10_expression_121 (by decide) ?_
        refine go_goto (tgt := 39) dX10_expression_337 (by decide) ?_
        exact (T g4 G4).2 g5 _ O
      have hS := X3
      refine go_aloadn dX10_expression_102 rfl ?_
      refine sg_getR dX10_expression_103 fX10_63 rfl (mo_L rfl) hS (mo_r41 hS rfl) ?_
      refine go_aloadn dX10_expression_106 rfl ?_
      refine sg_getI dX10_expression_107 fX10_196 rfl (mo_L rfl) hS ?_
      rw [X4]
      refine go_iconst (v := 0) dX10_expression_110 rfl ?_
      refine sg_zastN (i := uE V + 1) dX10_expression_111 (mo_41 rfl) hS (by simp only [lit_nI, nI_add, pk_mul, Nat.add_assoc, Nat.zero_add, Nat.add_zero]) (by omega) ?_
      exact fin _ rfl
    -- the state behind plus, minus, times, over
    have ari : ∀ o m, ((o = 6 ∨ o = 7) ∧ m = 5) ∨ ((o = 8 ∨ o = 9) ∧ m = 6) → tkK b n (uS V) = 3 → sgO (b (uS V)) = o → ∀ g2, SKm g2 tp (o :: (popW m (uW V) (uP V)).1) (popW m (uW V) (uP V)).2 → Fz (fun a k => Sdm tp a k ∨ a = 88) g g2 → St g2 ∧ RM g2 b n (uS V) (0, 0) ∧ ∀ g4, Fj SGr g2 g4 ∧ RM g4 b n (nx b n (uS V)) (0, 0) → (∀ d, Ey l (d + 5) mX10_operand [.ref 77, .int (nI 0)] g4 none (fun g5 => OPm g4 g5 b n sh tp cl A (ruGo b n V ((1, uE V, 0, 0), o :: (popW (tgO o) (uW V) (uP V)).1, (popW (tgO o) (uW V) (uP V)).2)))) ∧ ∀ g5 x4, OPm g4 g5 b n sh tp cl A (ruGo b n V ((1, uE V, 0, 0), o :: (popW (tgO o) (uW V) (uP V)).1, (popW (tgO o) (uW V) (uP V)).2)) → Go l (rmOf (d + 6) (0, 0)) mX10_expression (hN h) (Zm (0, 0) (fun v h1 => v = none ∧ EXm h h1 b n sh tp cl A U0) noX) 39 [some (.ref 77), some (.int x1), some (.int x2), some (.int 1), x4] [] g5 0 0 := by
      intro o m hom k3 ho g2 H2 F2
      obtain ⟨X1, X2, X3, X4, X5⟩ := xf g2 F2
      have eo : opF b n (uS V) = o := (op_sg k3).trans ho
      have etg : tgO o = m ∧ ¬ bdN o = 4 ∧ ¬ o = 0 ∧ ¬ o ≤ 2 := by
        rcases hom with ⟨e1 | e1, e2⟩ | ⟨e1 | e1, e2⟩ <;> rw [e1, e2] <;> decide
      have m5 : 5 ≤ m := by omega
      have h0 : hsT (o :: (popW m (uW V) (uP V)).1) = hsT (uW V) := by
        rw [hs_c, if_neg etg.2.2.1, if_neg (by omega), hs_pop m5 ww]
      have n41 : ¬ (tkK b n (uS V) = 3 ∧ b (uS V) = 41) := fun q => by
        rw [q.2] at ho
        have : (0 : Nat) = o := ho
        omega
      have M3 := mu_op (b := b) (may := 0) M U etg.2.2.1 (by omega) H2 (by rw [X4, h34]) (fun j hj => X5 j) (by rw [X5, h0]; exact h90)
      rw [← etg.1] at M3
      have T := opT o eo etg.2.2.1 n41 (fun q => etg.2.1 q.1) g2 X1 X2
      rw [if_neg etg.2.2.2] at T
      exact ⟨X3, X2, T M3⟩
    -- the state behind a test
    have tst : ∀ o, o = 4 ∨ o = 5 → tkK b n (uS V) = 3 → sgO (b (uS V)) = o → hsT (uW V) = 0 → ∀ g2, SKm g2 tp (o :: (popW 4 (uW V) (uP V)).1) (popW 4 (uW V) (uP V)).2 → Fz (fun a k => Sdm tp a k ∨ a = 88) g g2 → ∀ x4, Go l (rmOf (d + 6) (0, 0)) mX10_expression (hN h) (Zm (0, 0) (fun v h1 => v = none ∧ EXm h h1 b n sh tp cl A U0) noX) 179 [some (.ref 77), some (.int x1), some (.int x2), some (.int 1), x4] [] g2 0 0 := by
      intro o ho45 k3 ho hz g2 H2 F2 x4
      obtain ⟨X1, X2, X3, X4, X5⟩ := xf g2 F2
      have eo : opF b n (uS V) = o := (op_sg k3).trans ho
      have etg : tgO o = 5 ∧ ¬ o = 0 ∧ ¬ o ≤ 2 := by
        rcases ho45 with e1 | e1 <;> rw [e1] <;> decide
      rw [pop_45 ww hz] at H2
      have n41 : ¬ (tkK b n (uS V) = 3 ∧ b (uS V) = 41) := fun q => by
        rw [q.2] at ho
        have : (0 : Nat) = o := ho
        omega
      have nt : ¬ (bdN o = 4 ∧ topB (popW 5 (uW V) (uP V)).1 = 4) := fun q => by
        have := (hs_5 ww).mp q.2; omega
      have F3 : Fz (fun a k => a = 90 ∧ k = uE V + 1) g2 (uI g2 90 (uE V + 1) 1) := Fz.rf.uI ⟨rfl, rfl⟩
      have w0 : hI (uI g2 90 (uE V + 1) 1) 90 (uE V + 1) = 1 := hI_uI_eq
      have fin : ∀ g3, g3 = uI g2 90 (uE V + 1) 1 → Go l (rmOf (d + 6) (0, 0)) mX10_expression (hN h) (Zm (0, 0) (fun v h1 => v = none ∧ EXm h h1 b n sh tp cl A U0) noX) 189 [some (.ref 77), some (.int x1), some (.int x2), some (.int 1), x4] [] g3 0 0 := by
        intro g3 hg
        rw [← hg] at F3 w0
        have S3 := F3.St X3
        have R3 := X2.fz F3 (fun k hk => by omega) (fun k => by omega)
        have H3 : SKm g3 tp (o :: (popW 5 (uW V) (uP V)).1) (popW 5 (uW V) (uP V)).2 := ⟨by rw [F3.I (by omega)]; exact H2.1, fun i hi => by rw [F3.I (by omega)]; exact H2.2.1 i hi, by rw [F3.I (by omega)]; exact H2.2.2.1, fun j hj => by rw [F3.I (by omega), F3.I (by omega)]; exact H2.2.2.2 j hj⟩
        have h0 : hsT (o :: (popW 5 (uW V) (uP V)).1) = 1 := by rw [hs_c, if_neg etg.2.1, if_pos ho45]
        have M3 := mu_op (b := b) (may := 0) M U etg.2.1 (by decide) H3 (by rw [F3.I (by omega), X4, h34]) (fun j hj => by rw [F3.I (by omega), X5]) (by rw [w0, h0]; rfl)
        rw [← etg.1] at M3
        have T := opT o eo etg.2.1 n41 nt g3 (X1.tr (F3.j.sub (fun a k q => by unfold Sxm; omega))) R3
        rw [if_neg etg.2.2] at T
        have T := T M3
        have hS := S3
        refine go_aloadn dX10_expression_189 rfl ?_
        refine sg_rV0 (M' := mX10_goes) ([]) dX10_expression_190 lX10_165 vX10_goes (mo_L rfl) (by decide) rfl hS (q_goesR hS R3) rfl (Nat.le_of_ble_eq_true rfl) (Nat.zero_le _) (Nat.zero_le _) (fun g4 G4 => ?_)
        have hS := G4.1.St hS
        refine go_aloadn dX10_expression_193 rfl ?_
        refine go_iconst (v := 0) dX10_expression_194 rfl ?_
        refine sg_rV0 (M' := mX10_operand) ([.int (nI 0)]) dX10_expression_195 lX10_214 vX10_operand (mo_L rfl) (by decide) rfl hS ((T g4 G4).1 _) rfl (Nat.le_of_ble_eq_true rfl) (Nat.zero_le _) (Nat.zero_le _) (fun g5 O => ?_)
        refine go_goto (tgt := 337) dX10_expression_198 (by decide) ?_
        refine go_goto (tgt := 39) dX10_expression_337 (by decide) ?_
        exact (T g4 G4).2 g5 _ O
      have hS := X3
      refine go_aloadn dX10_expression_179 rfl ?_
      refine sg_getR dX10_expression_180 fX10_63 rfl (mo_L rfl) hS (mo_r41 hS rfl) ?_
      refine go_aloadn dX10_expression_183 rfl ?_
      refine sg_getI dX10_expression_184 fX10_196 rfl (mo_L rfl) hS ?_
      rw [X4]
      refine go_iconst (v := 1) dX10_expression_187 rfl ?_
      refine sg_zastN (i := uE V + 1) dX10_expression_188 (mo_41 rfl) hS (by simp only [lit_nI, nI_add, pk_mul, Nat.add_assoc, Nat.zero_add, Nat.add_zero]) (by omega) ?_
      exact fin _ rfl
    -- nothing that goes on
    have stp : rstB b n V = ruFl V 1 → ∀ x4, Go l (rmOf (d + 6) (0, 0)) mX10_expression (hN h) (Zm (0, 0) (fun v h1 => v = none ∧ EXm h h1 b n sh tp cl A U0) noX) 335 [some (.ref 77), some (.int x1), some (.int x2), some (.int 1), x4] [] g 0 0 := by
      intro st x4
      have out := q_stop (l := l) (d := d) (x1 := x1) (x2 := x2) (x3 := 0) (x4 := x4) hS F hV hq hd U htp E5 R M st
      refine go_iconst (v := 0) dX10_expression_335 rfl ?_
      refine go_ist3 dX10_expression_336 rfl ?_
      refine go_goto (tgt := 39) dX10_expression_337 (by decide) ?_
      skip
      refine go_iloadn dX10_expression_39 rfl ?_
      refine go_if_eq (tgt := 340) dX10_expression_40 (by decide) (fun c40 => ?_) (fun c40 => absurd rfl c40)
      exact out
    generalize hkv : (if kwN b n (uS V) = 20 then (-1 : Int32) else nI (kwN b n (uS V))) = kv at kw
    by_cases c17 : kwN b n (uS V) = 17
    · rw [if_neg (by omega), c17] at hkv
      have d2 := drp 2 (by decide)
      rw [show max 2 1 = 2 from rfl] at d2
      have go86 : ∀ g1, Fz (Sdm tp) g g1 ∧ SKm g1 tp (popW 2 (uW V) (uP V)).1 (popW 2 (uW V) (uP V)).2 → Go l (rmOf (d + 6) (0, 0)) mX10_expression (hN h) (Zm (0, 0) (fun v h1 => v = none ∧ EXm h h1 b n sh tp cl A U0) noX) 86 [some (.ref 77), some (.int x1), some (.int x2), some (.int 1), some (.int (nI 17))] [] g1 0 0 := by
        intro g1 G
        obtain ⟨g2, W1, W2, W3, W4⟩ := wai 2 2 (by decide) g1 G
        rw [show maN 2 = 4 from rfl] at W1
        have go := andor 2 2 17 (Or.inl ⟨rfl, rfl, rfl⟩) c17 g1 G g2 W2 W4
        have hS := W3
        refine go_aloadn dX10_expression_86 rfl ?_
        refine go_iload dX10_expression_87 rfl ?_
        refine go_bipush (v := 17) dX10_expression_89 rfl ?_
        refine go_icmp_ne (tgt := 98) dX10_expression_91 (by decide) (fun c91 => absurd rfl c91) (fun c91 => ?_)
        refine go_iconst (v := 4) dX10_expression_94 rfl ?_
        refine go_goto (tgt := 99) dX10_expression_95 (by decide) ?_
        refine sg_cV0 (M' := mX10_waitsFor) ([.int 4]) dX10_expression_99 lX10_202 vX10_waitsFor (mo_L rfl) (by decide) rfl hS (W1 _) rfl (Nat.le_of_ble_eq_true rfl) (Nat.zero_le _) (Nat.zero_le _) ?_
        exact go
      rw [← hkv] at kw
      refine go_iloadn dX10_expression_39 rfl ?_
      refine go_if_eq (tgt := 340) dX10_expression_40 (by decide) (fun c40 => absurd c40 (by decide)) (fun c40 => ?_)
      refine go_aloadn dX10_expression_43 rfl ?_
      refine sg_cVi (M' := mX10_isGood) ([]) dX10_expression_44 lX10_161 vX10_isGood (mo_L rfl) (by decide) rfl hS (ig _) rfl (Nat.le_of_ble_eq_true rfl) (Nat.zero_le _) (Nat.zero_le _) ?_
      refine go_if_eq (tgt := 340) dX10_expression_47 (by decide) (fun c47 => absurd c47 (by decide)) (fun c47 => ?_)
      refine go_aloadn dX10_expression_50 rfl ?_
      refine sg_cVi (M' := mX10_knownWord) ([]) dX10_expression_51 lX10_186 vX10_knownWord (mo_L rfl) (by decide) rfl hS (kw _) rfl (Nat.le_of_ble_eq_true rfl) (Nat.zero_le _) (Nat.zero_le _) ?_
      refine go_ist4 dX10_expression_54 rfl ?_
      refine go_iload dX10_expression_56 rfl ?_
      refine go_bipush (v := 17) dX10_expression_58 rfl ?_
      refine go_icmp_eq (tgt := 70) dX10_expression_60 (by decide) (fun c60 => ?_) (fun c60 => absurd rfl c60)
      refine go_aloadn dX10_expression_70 rfl ?_
      refine go_iload dX10_expression_71 rfl ?_
      refine go_bipush (v := 17) dX10_expression_73 rfl ?_
      refine go_icmp_ne (tgt := 82) dX10_expression_75 (by decide) (fun c75 => absurd rfl c75) (fun c75 => ?_)
      refine go_iconst (v := 2) dX10_expression_78 rfl ?_
      refine go_goto (tgt := 83) dX10_expression_79 (by decide) ?_
      refine sg_rV0 (M' := mX10_drops) ([.int (nI 2)]) dX10_expression_83 lX10_211 vX10_drops (mo_L rfl) (by decide) rfl hS (d2 _) rfl (Nat.le_of_ble_eq_true rfl) (Nat.zero_le _) (Nat.zero_le _) (fun g1 G => ?_)
      exact go86 g1 G
    · by_cases c18 : kwN b n (uS V) = 18
      · rw [if_neg (by omega), c18] at hkv
        have d2 := drp 1 (by decide)
        rw [show max 1 1 = 1 from rfl] at d2
        have go86 : ∀ g1, Fz (Sdm tp) g g1 ∧ SKm g1 tp (popW 1 (uW V) (uP V)).1 (popW 1 (uW V) (uP V)).2 → Go l (rmOf (d + 6) (0, 0)) mX10_expression (hN h) (Zm (0, 0) (fun v h1 => v = none ∧ EXm h h1 b n sh tp cl A U0) noX) 86 [some (.ref 77), some (.int x1), some (.int x2), some (.int 1), some (.int (nI 18))] [] g1 0 0 := by
          intro g1 G
          obtain ⟨g2, W1, W2, W3, W4⟩ := wai 1 1 (by decide) g1 G
          rw [show maN 1 = 5 from rfl] at W1
          have go := andor 1 1 18 (Or.inr ⟨rfl, rfl, rfl⟩) c18 g1 G g2 W2 W4
          have hS := W3
          refine go_aloadn dX10_expression_86 rfl ?_
          refine go_iload dX10_expression_87 rfl ?_
          refine go_bipush (v := 17) dX10_expression_89 rfl ?_
          refine go_icmp_ne (tgt := 98) dX10_expression_91 (by decide) (fun c91 => ?_) (fun c91 => absurd c91 (by decide))
          refine go_iconst (v := 5) dX10_expression_98 rfl ?_
          refine sg_cV0 (M' := mX10_waitsFor) ([.int 5]) dX10_expression_99 lX10_202 vX10_waitsFor (mo_L rfl) (by decide) rfl hS (W1 _) rfl (Nat.le_of_ble_eq_true rfl) (Nat.zero_le _) (Nat.zero_le _) ?_
          exact go
        rw [← hkv] at kw
        refine go_iloadn dX10_expression_39 rfl ?_
        refine go_if_eq (tgt := 340) dX10_expression_40 (by decide) (fun c40 => absurd c40 (by decide)) (fun c40 => ?_)
        refine go_aloadn dX10_expression_43 rfl ?_
        refine sg_cVi (M' := mX10_isGood) ([]) dX10_expression_44 lX10_161 vX10_isGood (mo_L rfl) (by decide) rfl hS (ig _) rfl (Nat.le_of_ble_eq_true rfl) (Nat.zero_le _) (Nat.zero_le _) ?_
        refine go_if_eq (tgt := 340) dX10_expression_47 (by decide) (fun c47 => absurd c47 (by decide)) (fun c47 => ?_)
        refine go_aloadn dX10_expression_50 rfl ?_
        refine sg_cVi (M' := mX10_knownWord) ([]) dX10_expression_51 lX10_186 vX10_knownWord (mo_L rfl) (by decide) rfl hS (kw _) rfl (Nat.le_of_ble_eq_true rfl) (Nat.zero_le _) (Nat.zero_le _) ?_
        refine go_ist4 dX10_expression_54 rfl ?_
        refine go_iload dX10_expression_56 rfl ?_
        refine go_bipush (v := 17) dX10_expression_58 rfl ?_
        refine go_icmp_eq (tgt := 70) dX10_expression_60 (by decide) (fun c60 => absurd c60 (by decide)) (fun c60 => ?_)
        refine go_iload dX10_expression_63 rfl ?_
        refine go_bipush (v := 18) dX10_expression_65 rfl ?_
        refine go_icmp_ne (tgt := 124) dX10_expression_67 (by decide) (fun c67 => absurd rfl c67) (fun c67 => ?_)
        refine go_aloadn dX10_expression_70 rfl ?_
        refine go_iload dX10_expression_71 rfl ?_
        refine go_bipush (v := 17) dX10_expression_73 rfl ?_
        refine go_icmp_ne (tgt := 82) dX10_expression_75 (by decide) (fun c75 => ?_) (fun c75 => absurd c75 (by decide))
        refine go_iconst (v := 1) dX10_expression_82 rfl ?_
        refine sg_rV0 (M' := mX10_drops) ([.int (nI 1)]) dX10_expression_83 lX10_211 vX10_drops (mo_L rfl) (by decide) rfl hS (d2 _) rfl (Nat.le_of_ble_eq_true rfl) (Nat.zero_le _) (Nat.zero_le _) (fun g1 G => ?_)
        exact go86 g1 G
      · have n17 : ¬ kv = 17 := by
          rw [← hkv]
          by_cases q : kwN b n (uS V) = 20
          · rw [if_pos q]; decide
          · rw [if_neg q]; exact fun e => c17 ((nI_eq (b := 17) (by omega) (by decide)).mp e)
        have n18 : ¬ kv = 18 := by
          rw [← hkv]
          by_cases q : kwN b n (uS V) = 20
          · rw [if_pos q]; decide
          · rw [if_neg q]; exact fun e => c18 ((nI_eq (b := 18) (by omega) (by decide)).mp e)
        have go124 : Go l (rmOf (d + 6) (0, 0)) mX10_expression (hN h) (Zm (0, 0) (fun v h1 => v = none ∧ EXm h h1 b n sh tp cl A U0) noX) 124 [some (.ref 77), some (.int x1), some (.int x2), some (.int 1), some (.int kv)] [] g 0 0 := by
          by_cases k3 : tkK b n (uS V) = 3
          · have isn : ∀ c, ¬ b (uS V) = c → ¬ (tkK b n (uS V) = 3 ∧ b (uS V) = c) := fun c q z => q z.2
            by_cases t6 : b (uS V) = 60 ∨ b (uS V) = 61
            · rw [if_neg (isn 43 (by omega))] at i43
              rw [if_neg (isn 45 (by omega))] at i45
              rw [if_neg (isn 42 (by omega))] at i42
              rw [if_neg (isn 47 (by omega))] at i47
              rw [if_neg (isn 41 (by omega))] at i41
              have so : (b (uS V) = 60 → sgO (b (uS V)) = 4) ∧ (b (uS V) = 61 → sgO (b (uS V)) = 5) := ⟨fun q => by rw [q]; rfl, fun q => by rw [q]; rfl⟩
              by_cases hz : hsT (uW V) = 0
              · rw [hz] at h90
                have d4 := drp 4 (by decide)
                rw [show max 4 1 = 4 from rfl] at d4
                have go159 : ∀ g1, Fz (Sdm tp) g g1 ∧ SKm g1 tp (popW 4 (uW V) (uP V)).1 (popW 4 (uW V) (uP V)).2 → Go l (rmOf (d + 6) (0, 0)) mX10_expression (hN h) (Zm (0, 0) (fun v h1 => v = none ∧ EXm h h1 b n sh tp cl A U0) noX) 159 [some (.ref 77), some (.int x1), some (.int x2), some (.int 1), some (.int kv)] [] g1 0 0 := by
                  intro g1 G
                  have S1 := G.1.St hS
                  have R1 := R.fz G.1 (fun k hk => by unfold Sdm; omega) (fun k => by unfold Sdm; omega)
                  have j60 := fun d => q_isSignR (l := l) (d := d) (c := 60) S1 R1 (by decide)
                  by_cases e : b (uS V) = 60
                  · obtain ⟨g2, W1, W2, W3, W4⟩ := wai 4 4 (by decide) g1 G
                    rw [show maN 4 = 6 from rfl] at W1
                    have go := tst 4 (Or.inl rfl) k3 (so.1 e) hz g2 W2 W4 (some (.int kv))
                    rw [if_pos ⟨k3, e⟩] at j60
                    have hS := S1
                    refine go_aloadn dX10_expression_159 rfl ?_
                    refine go_aloadn dX10_expression_160 rfl ?_
                    refine go_bipush (v := 60) dX10_expression_161 rfl ?_
                    refine sg_cVi (M' := mX10_isSign) ([.int (nI 60)]) dX10_expression_163 lX10_199 vX10_isSign (mo_L rfl) (by decide) rfl hS (j60 _) rfl (Nat.le_of_ble_eq_true rfl) (Nat.zero_le _) (Nat.zero_le _) ?_
                    refine go_if_eq (tgt := 174) dX10_expression_166 (by decide) (fun c166 => absurd c166 (by decide)) (fun c166 => ?_)
                    refine go_bipush (v := 6) dX10_expression_169 rfl ?_
                    refine go_goto (tgt := 176) dX10_expression_171 (by decide) ?_
                    refine sg_cV0 (M' := mX10_waitsFor) ([.int 6]) dX10_expression_176 lX10_202 vX10_waitsFor (mo_L rfl) (by decide) rfl hS (W1 _) rfl (Nat.le_of_ble_eq_true rfl) (Nat.zero_le _) (Nat.zero_le _) ?_
                    exact go
                  · obtain ⟨g2, W1, W2, W3, W4⟩ := wai 4 5 (by decide) g1 G
                    rw [show maN 5 = 7 from rfl] at W1
                    have go := tst 5 (Or.inr rfl) k3 (so.2 (by omega)) hz g2 W2 W4 (some (.int kv))
                    rw [if_neg (isn 60 e)] at j60
                    have hS := S1
                    refine go_aloadn dX10_expression_159 rfl ?_
                    refine go_aloadn dX10_expression_160 rfl ?_
                    refine go_bipush (v := 60) dX10_expression_161 rfl ?_
                    refine sg_cVi (M' := mX10_isSign) ([.int (nI 60)]) dX10_expression_163 lX10_199 vX10_isSign (mo_L rfl) (by decide) rfl hS (j60 _) rfl (Nat.le_of_ble_eq_true rfl) (Nat.zero_le _) (Nat.zero_le _) ?_
                    refine go_if_eq (tgt := 174) dX10_expression_166 (by decide) (fun c166 => ?_) (fun c166 => absurd rfl c166)
                    refine go_bipush (v := 7) dX10_expression_174 rfl ?_
                    refine sg_cV0 (M' := mX10_waitsFor) ([.int 7]) dX10_expression_176 lX10_202 vX10_waitsFor (mo_L rfl) (by decide) rfl hS (W1 _) rfl (Nat.le_of_ble_eq_true rfl) (Nat.zero_le _) (Nat.zero_le _) ?_
                    exact go
                have go142 : Go l (rmOf (d + 6) (0, 0)) mX10_expression (hN h) (Zm (0, 0) (fun v h1 => v = none ∧ EXm h h1 b n sh tp cl A U0) noX) 142 [some (.ref 77), some (.int x1), some (.int x2), some (.int 1), some (.int kv)] [] g 0 0 := by
                  refine go_aloadn dX10_expression_142 rfl ?_
                  refine sg_getR dX10_expression_143 fX10_63 rfl (mo_L rfl) hS (mo_r41 hS rfl) ?_
                  refine go_aloadn dX10_expression_146 rfl ?_
                  refine sg_getI dX10_expression_147 fX10_196 rfl (mo_L rfl) hS ?_
                  rw [h34]
                  refine sg_zaldN (i := uE V + 1) (x := nI 0) dX10_expression_150 (mo_41 rfl) hS (by simp only [lit_nI, nI_add, pk_mul, Nat.add_assoc, Nat.zero_add, Nat.add_zero]) (by omega) (h90) ?_
                  refine go_if_ne (tgt := 201) dX10_expression_151 (by decide) (fun c151 => absurd rfl c151) (fun c151 => ?_)
                  refine go_aloadn dX10_expression_154 rfl ?_
                  refine go_iconst (v := 4) dX10_expression_155 rfl ?_
                  refine sg_rV0 (M' := mX10_drops) ([.int (nI 4)]) dX10_expression_156 lX10_211 vX10_drops (mo_L rfl) (by decide) rfl hS (d4 _) rfl (Nat.le_of_ble_eq_true rfl) (Nat.zero_le _) (Nat.zero_le _) (fun g1 G => ?_)
                  exact go159 g1 G
                by_cases e : b (uS V) = 60
                · rw [if_pos ⟨k3, e⟩] at i60
                  refine go_aloadn dX10_expression_124 rfl ?_
                  refine go_bipush (v := 60) dX10_expression_125 rfl ?_
                  refine sg_cVi (M' := mX10_isSign) ([.int (nI 60)]) dX10_expression_127 lX10_199 vX10_isSign (mo_L rfl) (by decide) rfl hS (i60 _) rfl (Nat.le_of_ble_eq_true rfl) (Nat.zero_le _) (Nat.zero_le _) ?_
                  refine go_if_ne (tgt := 142) dX10_expression_130 (by decide) (fun c130 => ?_) (fun c130 => absurd c130 (by decide))
                  exact go142
                · rw [if_neg (isn 60 e)] at i60
                  rw [if_pos ⟨k3, by omega⟩] at i61
                  refine go_aloadn dX10_expression_124 rfl ?_
                  refine go_bipush (v := 60) dX10_expression_125 rfl ?_
                  refine sg_cVi (M' := mX10_isSign) ([.int (nI 60)]) dX10_expression_127 lX10_199 vX10_isSign (mo_L rfl) (by decide) rfl hS (i60 _) rfl (Nat.le_of_ble_eq_true rfl) (Nat.zero_le _) (Nat.zero_le _) ?_
                  refine go_if_ne (tgt := 142) dX10_expression_130 (by decide) (fun c130 => absurd rfl c130) (fun c130 => ?_)
                  refine go_aloadn dX10_expression_133 rfl ?_
                  refine go_bipush (v := 61) dX10_expression_134 rfl ?_
                  refine sg_cVi (M' := mX10_isSign) ([.int (nI 61)]) dX10_expression_136 lX10_199 vX10_isSign (mo_L rfl) (by decide) rfl hS (i61 _) rfl (Nat.le_of_ble_eq_true rfl) (Nat.zero_le _) (Nat.zero_le _) ?_
                  refine go_if_eq (tgt := 201) dX10_expression_139 (by decide) (fun c139 => absurd c139 (by decide)) (fun c139 => ?_)
                  exact go142
              · have h1 : hsT (uW V) = 1 := by have := hs_le (W := uW V); omega
                rw [h1] at h90
                have st : rstB b n V = ruFl V 1 := by
                  unfold rstB
                  rw [if_neg (isn 41 (by omega)), op_sg k3]
                  have s45 : sgO (b (uS V)) = 4 ∨ sgO (b (uS V)) = 5 := t6.elim (fun q => Or.inl (so.1 q)) (fun q => Or.inr (so.2 q))
                  rw [if_neg (by omega), if_pos ⟨by rcases s45 with q | q <;> rw [q] <;> rfl, (hs_5 ww).mpr h1⟩]
                have go335 := stp st (some (.int kv))
                have go142 : Go l (rmOf (d + 6) (0, 0)) mX10_expression (hN h) (Zm (0, 0) (fun v h1 => v = none ∧ EXm h h1 b n sh tp cl A U0) noX) 142 [some (.ref 77), some (.int x1), some (.int x2), some (.int 1), some (.int kv)] [] g 0 0 := by
                  refine go_aloadn dX10_expression_142 rfl ?_
                  refine sg_getR dX10_expression_143 fX10_63 rfl (mo_L rfl) hS (mo_r41 hS rfl) ?_
                  refine go_aloadn dX10_expression_146 rfl ?_
                  refine sg_getI dX10_expression_147 fX10_196 rfl (mo_L rfl) hS ?_
                  rw [h34]
                  refine sg_zaldN (i := uE V + 1) (x := nI 1) dX10_expression_150 (mo_41 rfl) hS (by simp only [lit_nI, nI_add, pk_mul, Nat.add_assoc, Nat.zero_add, Nat.add_zero]) (by omega) (h90) ?_
                  refine go_if_ne (tgt := 201) dX10_expression_151 (by decide) (fun c151 => ?_) (fun c151 => absurd c151 (by decide))
                  refine go_aloadn dX10_expression_201 rfl ?_
                  refine go_bipush (v := 43) dX10_expression_202 rfl ?_
                  refine sg_cVi (M' := mX10_isSign) ([.int (nI 43)]) dX10_expression_204 lX10_199 vX10_isSign (mo_L rfl) (by decide) rfl hS (i43 _) rfl (Nat.le_of_ble_eq_true rfl) (Nat.zero_le _) (Nat.zero_le _) ?_
                  refine go_if_ne (tgt := 219) dX10_expression_207 (by decide) (fun c207 => absurd rfl c207) (fun c207 => ?_)
                  refine go_aloadn dX10_expression_210 rfl ?_
                  refine go_bipush (v := 45) dX10_expression_211 rfl ?_
                  refine sg_cVi (M' := mX10_isSign) ([.int (nI 45)]) dX10_expression_213 lX10_199 vX10_isSign (mo_L rfl) (by decide) rfl hS (i45 _) rfl (Nat.le_of_ble_eq_true rfl) (Nat.zero_le _) (Nat.zero_le _) ?_
                  refine go_if_eq (tgt := 256) dX10_expression_216 (by decide) (fun c216 => ?_) (fun c216 => absurd rfl c216)
                  refine go_aloadn dX10_expression_256 rfl ?_
                  refine go_bipush (v := 42) dX10_expression_257 rfl ?_
                  refine sg_cVi (M' := mX10_isSign) ([.int (nI 42)]) dX10_expression_259 lX10_199 vX10_isSign (mo_L rfl) (by decide) rfl hS (i42 _) rfl (Nat.le_of_ble_eq_true rfl) (Nat.zero_le _) (Nat.zero_le _) ?_
                  refine go_if_ne (tgt := 274) dX10_expression_262 (by decide) (fun c262 => absurd rfl c262) (fun c262 => ?_)
                  refine go_aloadn dX10_expression_265 rfl ?_
                  refine go_bipush (v := 47) dX10_expression_266 rfl ?_
                  refine sg_cVi (M' := mX10_isSign) ([.int (nI 47)]) dX10_expression_268 lX10_199 vX10_isSign (mo_L rfl) (by decide) rfl hS (i47 _) rfl (Nat.le_of_ble_eq_true rfl) (Nat.zero_le _) (Nat.zero_le _) ?_
                  refine go_if_eq (tgt := 312) dX10_expression_271 (by decide) (fun c271 => ?_) (fun c271 => absurd rfl c271)
                  refine go_aloadn dX10_expression_312 rfl ?_
                  refine go_bipush (v := 41) dX10_expression_313 rfl ?_
                  refine sg_cVi (M' := mX10_isSign) ([.int (nI 41)]) dX10_expression_315 lX10_199 vX10_isSign (mo_L rfl) (by decide) rfl hS (i41 _) rfl (Nat.le_of_ble_eq_true rfl) (Nat.zero_le _) (Nat.zero_le _) ?_
                  refine go_if_eq (tgt := 335) dX10_expression_318 (by decide) (fun c318 => ?_) (fun c318 => absurd rfl c318)
                  exact go335
                by_cases e : b (uS V) = 60
                · rw [if_pos ⟨k3, e⟩] at i60
                  refine go_aloadn dX10_expression_124 rfl ?_
                  refine go_bipush (v := 60) dX10_expression_125 rfl ?_
                  refine sg_cVi (M' := mX10_isSign) ([.int (nI 60)]) dX10_expression_127 lX10_199 vX10_isSign (mo_L rfl) (by decide) rfl hS (i60 _) rfl (Nat.le_of_ble_eq_true rfl) (Nat.zero_le _) (Nat.zero_le _) ?_
                  refine go_if_ne (tgt := 142) dX10_expression_130 (by decide) (fun c130 => ?_) (fun c130 => absurd c130 (by decide))
                  exact go142
                · rw [if_neg (isn 60 e)] at i60
                  rw [if_pos ⟨k3, by omega⟩] at i61
                  refine go_aloadn dX10_expression_124 rfl ?_
                  refine go_bipush (v := 60) dX10_expression_125 rfl ?_
                  refine sg_cVi (M' := mX10_isSign) ([.int (nI 60)]) dX10_expression_127 lX10_199 vX10_isSign (mo_L rfl) (by decide) rfl hS (i60 _) rfl (Nat.le_of_ble_eq_true rfl) (Nat.zero_le _) (Nat.zero_le _) ?_
                  refine go_if_ne (tgt := 142) dX10_expression_130 (by decide) (fun c130 => absurd rfl c130) (fun c130 => ?_)
                  refine go_aloadn dX10_expression_133 rfl ?_
                  refine go_bipush (v := 61) dX10_expression_134 rfl ?_
                  refine sg_cVi (M' := mX10_isSign) ([.int (nI 61)]) dX10_expression_136 lX10_199 vX10_isSign (mo_L rfl) (by decide) rfl hS (i61 _) rfl (Nat.le_of_ble_eq_true rfl) (Nat.zero_le _) (Nat.zero_le _) ?_
                  refine go_if_eq (tgt := 201) dX10_expression_139 (by decide) (fun c139 => absurd c139 (by decide)) (fun c139 => ?_)
                  exact go142
            · rw [if_neg (isn 60 (by omega))] at i60
              rw [if_neg (isn 61 (by omega))] at i61
              have go201 : Go l (rmOf (d + 6) (0, 0)) mX10_expression (hN h) (Zm (0, 0) (fun v h1 => v = none ∧ EXm h h1 b n sh tp cl A U0) noX) 201 [some (.ref 77), some (.int x1), some (.int x2), some (.int 1), some (.int kv)] [] g 0 0 := by
                by_cases t4 : b (uS V) = 43 ∨ b (uS V) = 45
                · have so : (b (uS V) = 43 → sgO (b (uS V)) = 6) ∧ (b (uS V) = 45 → sgO (b (uS V)) = 7) := ⟨fun q => by rw [q]; rfl, fun q => by rw [q]; rfl⟩
                  have d4 := drp 5 (by decide)
                  rw [show max 5 1 = 5 from rfl] at d4
                  have go224 : ∀ g1, Fz (Sdm tp) g g1 ∧ SKm g1 tp (popW 5 (uW V) (uP V)).1 (popW 5 (uW V) (uP V)).2 → Go l (rmOf (d + 6) (0, 0)) mX10_expression (hN h) (Zm (0, 0) (fun v h1 => v = none ∧ EXm h h1 b n sh tp cl A U0) noX) 224 [some (.ref 77), some (.int x1), some (.int x2), some (.int 1), some (.int kv)] [] g1 0 0 := by
                    intro g1 G
                    have S1 := G.1.St hS
                    have R1 := R.fz G.1 (fun k hk => by unfold Sdm; omega) (fun k => by unfold Sdm; omega)
                    have j43 := fun d => q_isSignR (l := l) (d := d) (c := 43) S1 R1 (by decide)
                    by_cases e : b (uS V) = 43
                    · obtain ⟨g2, W1, W2, W3, W4⟩ := wai 5 6 (by decide) g1 G
                      rw [show maN 6 = 8 from rfl] at W1
                      obtain ⟨A1, A2, A3⟩ := ari 6 5 (Or.inl ⟨Or.inl rfl, rfl⟩) k3 (so.1 e) g2 W2 W4
                      rw [if_pos ⟨k3, e⟩] at j43
                      have hS := S1
                      refine go_aloadn dX10_expression_224 rfl ?_
                      refine go_aloadn dX10_expression_225 rfl ?_
                      refine go_bipush (v := 43) dX10_expression_226 rfl ?_
                      refine sg_cVi (M' := mX10_isSign) ([.int (nI 43)]) dX10_expression_228 lX10_199 vX10_isSign (mo_L rfl) (by decide) rfl hS (j43 _) rfl (Nat.le_of_ble_eq_true rfl) (Nat.zero_le _) (Nat.zero_le _) ?_
                      refine go_if_eq (tgt := 239) dX10_expression_231 (by decide) (fun c231 => absurd c231 (by decide)) (fun c231 => ?_)
                      refine go_bipush (v := 8) dX10_expression_234 rfl ?_
                      refine go_goto (tgt := 241) dX10_expression_236 (by decide) ?_
                      refine sg_cV0 (M' := mX10_waitsFor) ([.int 8]) dX10_expression_241 lX10_202 vX10_waitsFor (mo_L rfl) (by decide) rfl hS (W1 _) rfl (Nat.le_of_ble_eq_true rfl) (Nat.zero_le _) (Nat.zero_le _) ?_
                      have hS := A1
                      refine go_aloadn dX10_expression_244 rfl ?_
                      refine sg_rV0 (M' := mX10_goes) ([]) dX10_expression_245 lX10_165 vX10_goes (mo_L rfl) (by decide) rfl hS (q_goesR hS A2) rfl (Nat.le_of_ble_eq_true rfl) (Nat.zero_le _) (Nat.zero_le _) (fun g4 G4 => ?_)
                      have hS := G4.1.St hS
                      refine go_aloadn dX10_expression_248 rfl ?_
                      refine go_iconst (v := 0) dX10_expression_249 rfl ?_
                      refine sg_rV0 (M' := mX10_operand) ([.int (nI 0)]) dX10_expression_250 lX10_214 vX10_operand (mo_L rfl) (by decide) rfl hS ((A3 g4 G4).1 _) rfl (Nat.le_of_ble_eq_true rfl) (Nat.zero_le _) (Nat.zero_le _) (fun g5 O => ?_)
                      refine go_goto (tgt := 337) dX10_expression_253 (by decide) ?_
                      refine go_goto (tgt := 39) dX10_expression_337 (by decide) ?_
                      exact (A3 g4 G4).2 g5 _ O
                    · obtain ⟨g2, W1, W2, W3, W4⟩ := wai 5 7 (by decide) g1 G
                      rw [show maN 7 = 9 from rfl] at W1
                      obtain ⟨A1, A2, A3⟩ := ari 7 5 (Or.inl ⟨Or.inr rfl, rfl⟩) k3 (so.2 (by omega)) g2 W2 W4
                      rw [if_neg (isn 43 e)] at j43
                      have hS := S1
                      refine go_aloadn dX10_expression_224 rfl ?_
                      refine go_aloadn dX10_expression_225 rfl ?_
                      refine go_bipush (v := 43) dX10_expression_226 rfl ?_
                      refine sg_cVi (M' := mX10_isSign) ([.int (nI 43)]) dX10_expression_228 lX10_199 vX10_isSign (mo_L rfl) (by decide) rfl hS (j43 _) rfl (Nat.le_of_ble_eq_true rfl) (Nat.zero_le _) (Nat.zero_le _) ?_
                      refine go_if_eq (tgt := 239) dX10_expression_231 (by decide) (fun c231 => ?_) (fun c231 => absurd rfl c231)
                      refine go_bipush (v := 9) dX10_expression_239 rfl ?_
                      refine sg_cV0 (M' := mX10_waitsFor) ([.int 9]) dX10_expression_241 lX10_202 vX10_waitsFor (mo_L rfl) (by decide) rfl hS (W1 _) rfl (Nat.le_of_ble_eq_true rfl) (Nat.zero_le _) (Nat.zero_le _) ?_
                      have hS := A1
                      refine go_aloadn dX10_expression_244 rfl ?_
                      refine sg_rV0 (M' := mX10_goes) ([]) dX10_expression_245 lX10_165 vX10_goes (mo_L rfl) (by decide) rfl hS (q_goesR hS A2) rfl (Nat.le_of_ble_eq_true rfl) (Nat.zero_le _) (Nat.zero_le _) (fun g4 G4 => ?_)
                      have hS := G4.1.St hS
                      refine go_aloadn dX10_expression_248 rfl ?_
                      refine go_iconst (v := 0) dX10_expression_249 rfl ?_
                      refine sg_rV0 (M' := mX10_operand) ([.int (nI 0)]) dX10_expression_250 lX10_214 vX10_operand (mo_L rfl) (by decide) rfl hS ((A3 g4 G4).1 _) rfl (Nat.le_of_ble_eq_true rfl) (Nat.zero_le _) (Nat.zero_le _) (fun g5 O => ?_)
                      refine go_goto (tgt := 337) dX10_expression_253 (by decide) ?_
                      refine go_goto (tgt := 39) dX10_expression_337 (by decide) ?_
                      exact (A3 g4 G4).2 g5 _ O
                  by_cases e : b (uS V) = 43
                  · rw [if_pos ⟨k3, e⟩] at i43
                    refine go_aloadn dX10_expression_201 rfl ?_
                    refine go_bipush (v := 43) dX10_expression_202 rfl ?_
                    refine sg_cVi (M' := mX10_isSign) ([.int (nI 43)]) dX10_expression_204 lX10_199 vX10_isSign (mo_L rfl) (by decide) rfl hS (i43 _) rfl (Nat.le_of_ble_eq_true rfl) (Nat.zero_le _) (Nat.zero_le _) ?_
                    refine go_if_ne (tgt := 219) dX10_expression_207 (by decide) (fun c207 => ?_) (fun c207 => absurd c207 (by decide))
                    refine go_aloadn dX10_expression_219 rfl ?_
                    refine go_iconst (v := 5) dX10_expression_220 rfl ?_
                    refine sg_rV0 (M' := mX10_drops) ([.int (nI 5)]) dX10_expression_221 lX10_211 vX10_drops (mo_L rfl) (by decide) rfl hS (d4 _) rfl (Nat.le_of_ble_eq_true rfl) (Nat.zero_le _) (Nat.zero_le _) (fun g1 G => ?_)
                    exact go224 g1 G
                  · rw [if_neg (isn 43 e)] at i43
                    rw [if_pos ⟨k3, by omega⟩] at i45
                    refine go_aloadn dX10_expression_201 rfl ?_
                    refine go_bipush (v := 43) dX10_expression_202 rfl ?_
                    refine sg_cVi (M' := mX10_isSign) ([.int (nI 43)]) dX10_expression_204 lX10_199 vX10_isSign (mo_L rfl) (by decide) rfl hS (i43 _) rfl (Nat.le_of_ble_eq_true rfl) (Nat.zero_le _) (Nat.zero_le _) ?_
                    refine go_if_ne (tgt := 219) dX10_expression_207 (by decide) (fun c207 => absurd rfl c207) (fun c207 => ?_)
                    refine go_aloadn dX10_expression_210 rfl ?_
                    refine go_bipush (v := 45) dX10_expression_211 rfl ?_
                    refine sg_cVi (M' := mX10_isSign) ([.int (nI 45)]) dX10_expression_213 lX10_199 vX10_isSign (mo_L rfl) (by decide) rfl hS (i45 _) rfl (Nat.le_of_ble_eq_true rfl) (Nat.zero_le _) (Nat.zero_le _) ?_
                    refine go_if_eq (tgt := 256) dX10_expression_216 (by decide) (fun c216 => absurd c216 (by decide)) (fun c216 => ?_)
                    refine go_aloadn dX10_expression_219 rfl ?_
                    refine go_iconst (v := 5) dX10_expression_220 rfl ?_
                    refine sg_rV0 (M' := mX10_drops) ([.int (nI 5)]) dX10_expression_221 lX10_211 vX10_drops (mo_L rfl) (by decide) rfl hS (d4 _) rfl (Nat.le_of_ble_eq_true rfl) (Nat.zero_le _) (Nat.zero_le _) (fun g1 G => ?_)
                    exact go224 g1 G
                · rw [if_neg (isn 43 (by omega))] at i43
                  rw [if_neg (isn 45 (by omega))] at i45
                  have go256 : Go l (rmOf (d + 6) (0, 0)) mX10_expression (hN h) (Zm (0, 0) (fun v h1 => v = none ∧ EXm h h1 b n sh tp cl A U0) noX) 256 [some (.ref 77), some (.int x1), some (.int x2), some (.int 1), some (.int kv)] [] g 0 0 := by
                    by_cases t7 : b (uS V) = 42 ∨ b (uS V) = 47
                    · have so : (b (uS V) = 42 → sgO (b (uS V)) = 8) ∧ (b (uS V) = 47 → sgO (b (uS V)) = 9) := ⟨fun q => by rw [q]; rfl, fun q => by rw [q]; rfl⟩
                      have d4 := drp 6 (by decide)
                      rw [show max 6 1 = 6 from rfl] at d4
                      have go280 : ∀ g1, Fz (Sdm tp) g g1 ∧ SKm g1 tp (popW 6 (uW V) (uP V)).1 (popW 6 (uW V) (uP V)).2 → Go l (rmOf (d + 6) (0, 0)) mX10_expression (hN h) (Zm (0, 0) (fun v h1 => v = none ∧ EXm h h1 b n sh tp cl A U0) noX) 280 [some (.ref 77), some (.int x1), some (.int x2), some (.int 1), some (.int kv)] [] g1 0 0 := by
                        intro g1 G
                        have S1 := G.1.St hS
                        have R1 := R.fz G.1 (fun k hk => by unfold Sdm; omega) (fun k => by unfold Sdm; omega)
                        have j42 := fun d => q_isSignR (l := l) (d := d) (c := 42) S1 R1 (by decide)
                        by_cases e : b (uS V) = 42
                        · obtain ⟨g2, W1, W2, W3, W4⟩ := wai 6 8 (by decide) g1 G
                          rw [show maN 8 = 10 from rfl] at W1
                          obtain ⟨A1, A2, A3⟩ := ari 8 6 (Or.inr ⟨Or.inl rfl, rfl⟩) k3 (so.1 e) g2 W2 W4
                          rw [if_pos ⟨k3, e⟩] at j42
                          have hS := S1
                          refine go_aloadn dX10_expression_280 rfl ?_
                          refine go_aloadn dX10_expression_281 rfl ?_
                          refine go_bipush (v := 42) dX10_expression_282 rfl ?_
                          refine sg_cVi (M' := mX10_isSign) ([.int (nI 42)]) dX10_expression_284 lX10_199 vX10_isSign (mo_L rfl) (by decide) rfl hS (j42 _) rfl (Nat.le_of_ble_eq_true rfl) (Nat.zero_le _) (Nat.zero_le _) ?_
                          refine go_if_eq (tgt := 295) dX10_expression_287 (by decide) (fun c287 => absurd c287 (by decide)) (fun c287 => ?_)
                          refine go_bipush (v := 10) dX10_expression_290 rfl ?_
                          refine go_goto (tgt := 297) dX10_expression_292 (by decide) ?_
                          refine sg_cV0 (M' := mX10_waitsFor) ([.int 10]) dX10_expression_297 lX10_202 vX10_waitsFor (mo_L rfl) (by decide) rfl hS (W1 _) rfl (Nat.le_of_ble_eq_true rfl) (Nat.zero_le _) (Nat.zero_le _) ?_
                          have hS := A1
                          refine go_aloadn dX10_expression_300 rfl ?_
                          refine sg_rV0 (M' := mX10_goes) ([]) dX10_expression_301 lX10_165 vX10_goes (mo_L rfl) (by decide) rfl hS (q_goesR hS A2) rfl (Nat.le_of_ble_eq_true rfl) (Nat.zero_le _) (Nat.zero_le _) (fun g4 G4 => ?_)
                          have hS := G4.1.St hS
                          refine go_aloadn dX10_expression_304 rfl ?_
                          refine go_iconst (v := 0) dX10_expression_305 rfl ?_
                          refine sg_rV0 (M' := mX10_operand) ([.int (nI 0)]) dX10_expression_306 lX10_214 vX10_operand (mo_L rfl) (by decide) rfl hS ((A3 g4 G4).1 _) rfl (Nat.le_of_ble_eq_true rfl) (Nat.zero_le _) (Nat.zero_le _) (fun g5 O => ?_)
                          refine go_goto (tgt := 337) dX10_expression_309 (by decide) ?_
                          refine go_goto (tgt := 39) dX10_expression_337 (by decide) ?_
                          exact (A3 g4 G4).2 g5 _ O
                        · obtain ⟨g2, W1, W2, W3, W4⟩ := wai 6 9 (by decide) g1 G
                          rw [show maN 9 = 11 from rfl] at W1
                          obtain ⟨A1, A2, A3⟩ := ari 9 6 (Or.inr ⟨Or.inr rfl, rfl⟩) k3 (so.2 (by omega)) g2 W2 W4
                          rw [if_neg (isn 42 e)] at j42
                          have hS := S1
                          refine go_aloadn dX10_expression_280 rfl ?_
                          refine go_aloadn dX10_expression_281 rfl ?_
                          refine go_bipush (v := 42) dX10_expression_282 rfl ?_
                          refine sg_cVi (M' := mX10_isSign) ([.int (nI 42)]) dX10_expression_284 lX10_199 vX10_isSign (mo_L rfl) (by decide) rfl hS (j42 _) rfl (Nat.le_of_ble_eq_true rfl) (Nat.zero_le _) (Nat.zero_le _) ?_
                          refine go_if_eq (tgt := 295) dX10_expression_287 (by decide) (fun c287 => ?_) (fun c287 => absurd rfl c287)
                          refine go_bipush (v := 11) dX10_expression_295 rfl ?_
                          refine sg_cV0 (M' := mX10_waitsFor) ([.int 11]) dX10_expression_297 lX10_202 vX10_waitsFor (mo_L rfl) (by decide) rfl hS (W1 _) rfl (Nat.le_of_ble_eq_true rfl) (Nat.zero_le _) (Nat.zero_le _) ?_
                          have hS := A1
                          refine go_aloadn dX10_expression_300 rfl ?_
                          refine sg_rV0 (M' := mX10_goes) ([]) dX10_expression_301 lX10_165 vX10_goes (mo_L rfl) (by decide) rfl hS (q_goesR hS A2) rfl (Nat.le_of_ble_eq_true rfl) (Nat.zero_le _) (Nat.zero_le _) (fun g4 G4 => ?_)
                          have hS := G4.1.St hS
                          refine go_aloadn dX10_expression_304 rfl ?_
                          refine go_iconst (v := 0) dX10_expression_305 rfl ?_
                          refine sg_rV0 (M' := mX10_operand) ([.int (nI 0)]) dX10_expression_306 lX10_214 vX10_operand (mo_L rfl) (by decide) rfl hS ((A3 g4 G4).1 _) rfl (Nat.le_of_ble_eq_true rfl) (Nat.zero_le _) (Nat.zero_le _) (fun g5 O => ?_)
                          refine go_goto (tgt := 337) dX10_expression_309 (by decide) ?_
                          refine go_goto (tgt := 39) dX10_expression_337 (by decide) ?_
                          exact (A3 g4 G4).2 g5 _ O
                      by_cases e : b (uS V) = 42
                      · rw [if_pos ⟨k3, e⟩] at i42
                        refine go_aloadn dX10_expression_256 rfl ?_
                        refine go_bipush (v := 42) dX10_expression_257 rfl ?_
                        refine sg_cVi (M' := mX10_isSign) ([.int (nI 42)]) dX10_expression_259 lX10_199 vX10_isSign (mo_L rfl) (by decide) rfl hS (i42 _) rfl (Nat.le_of_ble_eq_true rfl) (Nat.zero_le _) (Nat.zero_le _) ?_
                        refine go_if_ne (tgt := 274) dX10_expression_262 (by decide) (fun c262 => ?_) (fun c262 => absurd c262 (by decide))
                        refine go_aloadn dX10_expression_274 rfl ?_
                        refine go_bipush (v := 6) dX10_expression_275 rfl ?_
                        refine sg_rV0 (M' := mX10_drops) ([.int (nI 6)]) dX10_expression_277 lX10_211 vX10_drops (mo_L rfl) (by decide) rfl hS (d4 _) rfl (Nat.le_of_ble_eq_true rfl) (Nat.zero_le _) (Nat.zero_le _) (fun g1 G => ?_)
                        exact go280 g1 G
                      · rw [if_neg (isn 42 e)] at i42
                        rw [if_pos ⟨k3, by omega⟩] at i47
                        refine go_aloadn dX10_expression_256 rfl ?_
                        refine go_bipush (v := 42) dX10_expression_257 rfl ?_
                        refine sg_cVi (M' := mX10_isSign) ([.int (nI 42)]) dX10_expression_259 lX10_199 vX10_isSign (mo_L rfl) (by decide) rfl hS (i42 _) rfl (Nat.le_of_ble_eq_true rfl) (Nat.zero_le _) (Nat.zero_le _) ?_
                        refine go_if_ne (tgt := 274) dX10_expression_262 (by decide) (fun c262 => absurd rfl c262) (fun c262 => ?_)
                        refine go_aloadn dX10_expression_265 rfl ?_
                        refine go_bipush (v := 47) dX10_expression_266 rfl ?_
                        refine sg_cVi (M' := mX10_isSign) ([.int (nI 47)]) dX10_expression_268 lX10_199 vX10_isSign (mo_L rfl) (by decide) rfl hS (i47 _) rfl (Nat.le_of_ble_eq_true rfl) (Nat.zero_le _) (Nat.zero_le _) ?_
                        refine go_if_eq (tgt := 312) dX10_expression_271 (by decide) (fun c271 => absurd c271 (by decide)) (fun c271 => ?_)
                        refine go_aloadn dX10_expression_274 rfl ?_
                        refine go_bipush (v := 6) dX10_expression_275 rfl ?_
                        refine sg_rV0 (M' := mX10_drops) ([.int (nI 6)]) dX10_expression_277 lX10_211 vX10_drops (mo_L rfl) (by decide) rfl hS (d4 _) rfl (Nat.le_of_ble_eq_true rfl) (Nat.zero_le _) (Nat.zero_le _) (fun g1 G => ?_)
                        exact go280 g1 G
                    · rw [if_neg (isn 42 (by omega))] at i42
                      rw [if_neg (isn 47 (by omega))] at i47
                      by_cases t1 : b (uS V) = 41
                      · rw [if_pos ⟨k3, t1⟩] at i41
                        by_cases e0 : uE V = 0
                        · rw [if_pos (zrE.trans e0)] at iop
                          have go335 := stp (by unfold rstB; rw [if_pos ⟨k3, t1⟩, if_pos e0]) (some (.int kv))
                          refine go_aloadn dX10_expression_256 rfl ?_
                          refine go_bipush (v := 42) dX10_expression_257 rfl ?_
                          refine sg_cVi (M' := mX10_isSign) ([.int (nI 42)]) dX10_expression_259 lX10_199 vX10_isSign (mo_L rfl) (by decide) rfl hS (i42 _) rfl (Nat.le_of_ble_eq_true rfl) (Nat.zero_le _) (Nat.zero_le _) ?_
                          refine go_if_ne (tgt := 274) dX10_expression_262 (by decide) (fun c262 => absurd rfl c262) (fun c262 => ?_)
                          refine go_aloadn dX10_expression_265 rfl ?_
                          refine go_bipush (v := 47) dX10_expression_266 rfl ?_
                          refine sg_cVi (M' := mX10_isSign) ([.int (nI 47)]) dX10_expression_268 lX10_199 vX10_isSign (mo_L rfl) (by decide) rfl hS (i47 _) rfl (Nat.le_of_ble_eq_true rfl) (Nat.zero_le _) (Nat.zero_le _) ?_
                          refine go_if_eq (tgt := 312) dX10_expression_271 (by decide) (fun c271 => ?_) (fun c271 => absurd rfl c271)
                          refine go_aloadn dX10_expression_312 rfl ?_
                          refine go_bipush (v := 41) dX10_expression_313 rfl ?_
                          refine sg_cVi (M' := mX10_isSign) ([.int (nI 41)]) dX10_expression_315 lX10_199 vX10_isSign (mo_L rfl) (by decide) rfl hS (i41 _) rfl (Nat.le_of_ble_eq_true rfl) (Nat.zero_le _) (Nat.zero_le _) ?_
                          refine go_if_eq (tgt := 335) dX10_expression_318 (by decide) (fun c318 => absurd c318 (by decide)) (fun c318 => ?_)
                          refine go_aloadn dX10_expression_321 rfl ?_
                          refine sg_cVi (M' := mX10_isOpened) ([]) dX10_expression_322 lX10_218 vX10_isOpened (mo_L rfl) (by decide) rfl hS (iop _) rfl (Nat.le_of_ble_eq_true rfl) (Nat.zero_le _) (Nat.zero_le _) ?_
                          refine go_if_eq (tgt := 335) dX10_expression_325 (by decide) (fun c325 => ?_) (fun c325 => absurd rfl c325)
                          exact go335
                        · rw [if_neg (by omega)] at iop
                          have vq : uQ (rstB b n V) = 0 := by unfold rstB; rw [if_pos ⟨k3, t1⟩, if_neg e0]; rfl
                          have vd : uD (rstB b n V) = 0 ∧ uE (rstB b n V) ≤ 5 := by unfold rstB; rw [if_pos ⟨k3, t1⟩, if_neg e0]; exact ⟨hd, by show uE V - 1 ≤ 5; omega⟩
                          obtain ⟨v1, v2⟩ := uv_B U hd vq
                          have fin2 : ruFin b n sh (rstB b n V) = ruFin b n sh U0 := by
                            rw [← rst_B (sh := sh) hq hd (fun q => e0 q.1)]; exact fin_s.trans hV
                          have cls := fun d => q_closes (l := l) (d := d) (sh := sh) hS U htp hd e0 ⟨k3, t1⟩ R M
                          refine go_aloadn dX10_expression_256 rfl ?_
                          refine go_bipush (v := 42) dX10_expression_257 rfl ?_
                          refine sg_cVi (M' := mX10_isSign) ([.int (nI 42)]) dX10_expression_259 lX10_199 vX10_isSign (mo_L rfl) (by decide) rfl hS (i42 _) rfl (Nat.le_of_ble_eq_true rfl) (Nat.zero_le _) (Nat.zero_le _) ?_
                          refine go_if_ne (tgt := 274) dX10_expression_262 (by decide) (fun c262 => absurd rfl c262) (fun c262 => ?_)
                          refine go_aloadn dX10_expression_265 rfl ?_
                          refine go_bipush (v := 47) dX10_expression_266 rfl ?_
                          refine sg_cVi (M' := mX10_isSign) ([.int (nI 47)]) dX10_expression_268 lX10_199 vX10_isSign (mo_L rfl) (by decide) rfl hS (i47 _) rfl (Nat.le_of_ble_eq_true rfl) (Nat.zero_le _) (Nat.zero_le _) ?_
                          refine go_if_eq (tgt := 312) dX10_expression_271 (by decide) (fun c271 => ?_) (fun c271 => absurd rfl c271)
                          refine go_aloadn dX10_expression_312 rfl ?_
                          refine go_bipush (v := 41) dX10_expression_313 rfl ?_
                          refine sg_cVi (M' := mX10_isSign) ([.int (nI 41)]) dX10_expression_315 lX10_199 vX10_isSign (mo_L rfl) (by decide) rfl hS (i41 _) rfl (Nat.le_of_ble_eq_true rfl) (Nat.zero_le _) (Nat.zero_le _) ?_
                          refine go_if_eq (tgt := 335) dX10_expression_318 (by decide) (fun c318 => absurd c318 (by decide)) (fun c318 => ?_)
                          refine go_aloadn dX10_expression_321 rfl ?_
                          refine sg_cVi (M' := mX10_isOpened) ([]) dX10_expression_322 lX10_218 vX10_isOpened (mo_L rfl) (by decide) rfl hS (iop _) rfl (Nat.le_of_ble_eq_true rfl) (Nat.zero_le _) (Nat.zero_le _) ?_
                          refine go_if_eq (tgt := 335) dX10_expression_325 (by decide) (fun c325 => absurd c325 (by decide)) (fun c325 => ?_)
                          refine go_aloadn dX10_expression_328 rfl ?_
                          refine sg_rV0 (M' := mX10_closes) ([]) dX10_expression_329 lX10_221 vX10_closes (mo_L rfl) (by decide) rfl hS (cls _) rfl (Nat.le_of_ble_eq_true rfl) (Nat.zero_le _) (Nat.zero_le _) (fun g5 O => ?_)
                          refine go_goto (tgt := 337) dX10_expression_332 (by decide) ?_
                          refine go_goto (tgt := 39) dX10_expression_337 (by decide) ?_
                          exact ih (rstB b n V) g5 _ (by omega) vq vd.1 v1 vd.2 fin2 O.2.1 O.2.2 (F.tr O.1)
                      · rw [if_neg (isn 41 t1)] at i41
                        have o0 : opF b n (uS V) = 0 := by
                          rw [op_sg k3]; unfold sgO
                          rw [if_neg (by omega), if_neg (by omega), if_neg (by omega), if_neg (by omega), if_neg (by omega), if_neg (by omega)]
                        have go335 := stp (by unfold rstB; rw [if_neg (isn 41 t1), if_pos o0]) (some (.int kv))
                        refine go_aloadn dX10_expression_256 rfl ?_
                        refine go_bipush (v := 42) dX10_expression_257 rfl ?_
                        refine sg_cVi (M' := mX10_isSign) ([.int (nI 42)]) dX10_expression_259 lX10_199 vX10_isSign (mo_L rfl) (by decide) rfl hS (i42 _) rfl (Nat.le_of_ble_eq_true rfl) (Nat.zero_le _) (Nat.zero_le _) ?_
                        refine go_if_ne (tgt := 274) dX10_expression_262 (by decide) (fun c262 => absurd rfl c262) (fun c262 => ?_)
                        refine go_aloadn dX10_expression_265 rfl ?_
                        refine go_bipush (v := 47) dX10_expression_266 rfl ?_
                        refine sg_cVi (M' := mX10_isSign) ([.int (nI 47)]) dX10_expression_268 lX10_199 vX10_isSign (mo_L rfl) (by decide) rfl hS (i47 _) rfl (Nat.le_of_ble_eq_true rfl) (Nat.zero_le _) (Nat.zero_le _) ?_
                        refine go_if_eq (tgt := 312) dX10_expression_271 (by decide) (fun c271 => ?_) (fun c271 => absurd rfl c271)
                        refine go_aloadn dX10_expression_312 rfl ?_
                        refine go_bipush (v := 41) dX10_expression_313 rfl ?_
                        refine sg_cVi (M' := mX10_isSign) ([.int (nI 41)]) dX10_expression_315 lX10_199 vX10_isSign (mo_L rfl) (by decide) rfl hS (i41 _) rfl (Nat.le_of_ble_eq_true rfl) (Nat.zero_le _) (Nat.zero_le _) ?_
                        refine go_if_eq (tgt := 335) dX10_expression_318 (by decide) (fun c318 => ?_) (fun c318 => absurd rfl c318)
                        exact go335
                  refine go_aloadn dX10_expression_201 rfl ?_
                  refine go_bipush (v := 43) dX10_expression_202 rfl ?_
                  refine sg_cVi (M' := mX10_isSign) ([.int (nI 43)]) dX10_expression_204 lX10_199 vX10_isSign (mo_L rfl) (by decide) rfl hS (i43 _) rfl (Nat.le_of_ble_eq_true rfl) (Nat.zero_le _) (Nat.zero_le _) ?_
                  refine go_if_ne (tgt := 219) dX10_expression_207 (by decide) (fun c207 => absurd rfl c207) (fun c207 => ?_)
                  refine go_aloadn dX10_expression_210 rfl ?_
                  refine go_bipush (v := 45) dX10_expression_211 rfl ?_
                  refine sg_cVi (M' := mX10_isSign) ([.int (nI 45)]) dX10_expression_213 lX10_199 vX10_isSign (mo_L rfl) (by decide) rfl hS (i45 _) rfl (Nat.le_of_ble_eq_true rfl) (Nat.zero_le _) (Nat.zero_le _) ?_
                  refine go_if_eq (tgt := 256) dX10_expression_216 (by decide) (fun c216 => ?_) (fun c216 => absurd rfl c216)
                  exact go256
              refine go_aloadn dX10_expression_124 rfl ?_
              refine go_bipush (v := 60) dX10_expression_125 rfl ?_
              refine sg_cVi (M' := mX10_isSign) ([.int (nI 60)]) dX10_expression_127 lX10_199 vX10_isSign (mo_L rfl) (by decide) rfl hS (i60 _) rfl (Nat.le_of_ble_eq_true rfl) (Nat.zero_le _) (Nat.zero_le _) ?_
              refine go_if_ne (tgt := 142) dX10_expression_130 (by decide) (fun c130 => absurd rfl c130) (fun c130 => ?_)
              refine go_aloadn dX10_expression_133 rfl ?_
              refine go_bipush (v := 61) dX10_expression_134 rfl ?_
              refine sg_cVi (M' := mX10_isSign) ([.int (nI 61)]) dX10_expression_136 lX10_199 vX10_isSign (mo_L rfl) (by decide) rfl hS (i61 _) rfl (Nat.le_of_ble_eq_true rfl) (Nat.zero_le _) (Nat.zero_le _) ?_
              refine go_if_eq (tgt := 201) dX10_expression_139 (by decide) (fun c139 => ?_) (fun c139 => absurd rfl c139)
              exact go201
          · rw [if_neg (fun q => k3 q.1)] at i60 i61 i43 i45 i42 i47 i41
            have o0 : opF b n (uS V) = 0 := by
              unfold opF
              by_cases k1 : tkK b n (uS V) = 1
              · rw [if_pos k1, if_neg c18, if_neg c17]
              · rw [if_neg k1, if_neg k3]
            have go335 := stp (by unfold rstB; rw [if_neg (fun q => k3 q.1), if_pos o0]) (some (.int kv))
            refine go_aloadn dX10_expression_124 rfl ?_
            refine go_bipush (v := 60) dX10_expression_125 rfl ?_
            refine sg_cVi (M' := mX10_isSign) ([.int (nI 60)]) dX10_expression_127 lX10_199 vX10_isSign (mo_L rfl) (by decide) rfl hS (i60 _) rfl (Nat.le_of_ble_eq_true rfl) (Nat.zero_le _) (Nat.zero_le _) ?_
            refine go_if_ne (tgt := 142) dX10_expression_130 (by decide) (fun c130 => absurd rfl c130) (fun c130 => ?_)
            refine go_aloadn dX10_expression_133 rfl ?_
            refine go_bipush (v := 61) dX10_expression_134 rfl ?_
            refine sg_cVi (M' := mX10_isSign) ([.int (nI 61)]) dX10_expression_136 lX10_199 vX10_isSign (mo_L rfl) (by decide) rfl hS (i61 _) rfl (Nat.le_of_ble_eq_true rfl) (Nat.zero_le _) (Nat.zero_le _) ?_
            refine go_if_eq (tgt := 201) dX10_expression_139 (by decide) (fun c139 => ?_) (fun c139 => absurd rfl c139)
            refine go_aloadn dX10_expression_201 rfl ?_
            refine go_bipush (v := 43) dX10_expression_202 rfl ?_
            refine sg_cVi (M' := mX10_isSign) ([.int (nI 43)]) dX10_expression_204 lX10_199 vX10_isSign (mo_L rfl) (by decide) rfl hS (i43 _) rfl (Nat.le_of_ble_eq_true rfl) (Nat.zero_le _) (Nat.zero_le _) ?_
            refine go_if_ne (tgt := 219) dX10_expression_207 (by decide) (fun c207 => absurd rfl c207) (fun c207 => ?_)
            refine go_aloadn dX10_expression_210 rfl ?_
            refine go_bipush (v := 45) dX10_expression_211 rfl ?_
            refine sg_cVi (M' := mX10_isSign) ([.int (nI 45)]) dX10_expression_213 lX10_199 vX10_isSign (mo_L rfl) (by decide) rfl hS (i45 _) rfl (Nat.le_of_ble_eq_true rfl) (Nat.zero_le _) (Nat.zero_le _) ?_
            refine go_if_eq (tgt := 256) dX10_expression_216 (by decide) (fun c216 => ?_) (fun c216 => absurd rfl c216)
            refine go_aloadn dX10_expression_256 rfl ?_
            refine go_bipush (v := 42) dX10_expression_257 rfl ?_
            refine sg_cVi (M' := mX10_isSign) ([.int (nI 42)]) dX10_expression_259 lX10_199 vX10_isSign (mo_L rfl) (by decide) rfl hS (i42 _) rfl (Nat.le_of_ble_eq_true rfl) (Nat.zero_le _) (Nat.zero_le _) ?_
            refine go_if_ne (tgt := 274) dX10_expression_262 (by decide) (fun c262 => absurd rfl c262) (fun c262 => ?_)
            refine go_aloadn dX10_expression_265 rfl ?_
            refine go_bipush (v := 47) dX10_expression_266 rfl ?_
            refine sg_cVi (M' := mX10_isSign) ([.int (nI 47)]) dX10_expression_268 lX10_199 vX10_isSign (mo_L rfl) (by decide) rfl hS (i47 _) rfl (Nat.le_of_ble_eq_true rfl) (Nat.zero_le _) (Nat.zero_le _) ?_
            refine go_if_eq (tgt := 312) dX10_expression_271 (by decide) (fun c271 => ?_) (fun c271 => absurd rfl c271)
            refine go_aloadn dX10_expression_312 rfl ?_
            refine go_bipush (v := 41) dX10_expression_313 rfl ?_
            refine sg_cVi (M' := mX10_isSign) ([.int (nI 41)]) dX10_expression_315 lX10_199 vX10_isSign (mo_L rfl) (by decide) rfl hS (i41 _) rfl (Nat.le_of_ble_eq_true rfl) (Nat.zero_le _) (Nat.zero_le _) ?_
            refine go_if_eq (tgt := 335) dX10_expression_318 (by decide) (fun c318 => ?_) (fun c318 => absurd rfl c318)
            exact go335
        refine go_iloadn dX10_expression_39 rfl ?_
        refine go_if_eq (tgt := 340) dX10_expression_40 (by decide) (fun c40 => absurd c40 (by decide)) (fun c40 => ?_)
        refine go_aloadn dX10_expression_43 rfl ?_
        refine sg_cVi (M' := mX10_isGood) ([]) dX10_expression_44 lX10_161 vX10_isGood (mo_L rfl) (by decide) rfl hS (ig _) rfl (Nat.le_of_ble_eq_true rfl) (Nat.zero_le _) (Nat.zero_le _) ?_
        refine go_if_eq (tgt := 340) dX10_expression_47 (by decide) (fun c47 => absurd c47 (by decide)) (fun c47 => ?_)
        refine go_aloadn dX10_expression_50 rfl ?_
        refine sg_cVi (M' := mX10_knownWord) ([]) dX10_expression_51 lX10_186 vX10_knownWord (mo_L rfl) (by decide) rfl hS (kw _) rfl (Nat.le_of_ble_eq_true rfl) (Nat.zero_le _) (Nat.zero_le _) ?_
        refine go_ist4 dX10_expression_54 rfl ?_
        refine go_iload dX10_expression_56 rfl ?_
        refine go_bipush (v := 17) dX10_expression_58 rfl ?_
        refine go_icmp_eq (tgt := 70) dX10_expression_60 (by decide) (fun c60 => absurd c60 n17) (fun c60 => ?_)
        refine go_iload dX10_expression_63 rfl ?_
        refine go_bipush (v := 18) dX10_expression_65 rfl ?_
        refine go_icmp_ne (tgt := 124) dX10_expression_67 (by decide) (fun c67 => ?_) (fun c67 => absurd c67 n18)
        exact go124
