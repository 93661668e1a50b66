/-! rules of the model: the loop -/
theorem MU.fj {h g : Hp} {tp : Nat} {U : Ru} (M : MU h tp U) (F : Fj SGr h g) : MU g tp U := ⟨M.1.fj F, by rw [F.I (by unfold SGr; omega)]; exact M.2.1, by rw [F.I (by unfold SGr; omega)]; exact M.2.2.1, tb_cong (fun j _ => F.I (by unfold SGr; omega)) M.2.2.2⟩
theorem op_sg {b : Nat → Nat} {n s : Nat} (k3 : tkK b n s = 3) : opF b n s = sgO (b s) := by unfold opF; rw [if_neg (by omega), if_pos k3]
theorem op_kw {b : Nat → Nat} {n s : Nat} : (kwN b n s = 17 → opF b n s = 2) ∧ (kwN b n s = 18 → opF b n s = 1) := by
  refine ⟨fun q => ?_, fun q => ?_⟩
  · have k1 := ((kwN_iff (b := b) (n := n) (s := s) (k := 17) (by decide)).mp q).1
    unfold opF; rw [if_pos k1, if_neg (by omega), if_pos q]
  · have k1 := ((kwN_iff (b := b) (n := n) (s := s) (k := 18) (by decide)).mp q).1
    unfold opF; rw [if_pos k1, if_pos q]
theorem B_op {b : Nat → Nat} {n : Nat} {V : Ru} {o : Nat} (ho : opF b n (uS V) = o) (o0 : ¬ o = 0) (n41 : ¬ (tkK b n (uS V) = 3 ∧ b (uS V) = 41)) (nt : ¬ (bdN o = 4 ∧ topB (popW 5 (uW V) (uP V)).1 = 4)) : rstB b n V = ruGo b n V ((1, uE V, 0, if o ≤ 2 then 1 else 0), o :: (popW (tgO o) (uW V) (uP V)).1, (popW (tgO o) (uW V) (uP V)).2) := by
  unfold rstB; rw [if_neg n41, ho, if_neg o0, if_neg nt]
theorem q_ex39 {l : Launch} {d n tp sh cl : Nat} {b : Nat → Nat} {h : Hp} {U0 : Ru} {A : Nat → Prop} {x1 x2 : Int32} (hS0 : St h) (hsh : sh ≤ 1) (hA : ∀ k, vlA sh k → A (mvN k)) (f1 : hI h 77 31 = nI (if sh = 1 then 0 else 5)) (f2 : hI h 77 32 = nI (if sh = 1 then 6 else 8)) (htp : tp + 2 ≤ 2 * cl) : ∀ (k : Nat) (V : Ru) (g : Hp) (x4 : Option Value), n + 1 - uS V ≤ k → uQ V = 0 → uD V = 0 → UV A n cl V → uE V ≤ 5 → ruFin b n sh V = ruFin b n sh U0 → RM g b n (uS V) (0, 0) → MU g tp V → Fj (Sxm tp) h g → Go l (rmOf (d + 6) (0, 0)) mX10_expression (hN h) (Zm (0, 0) (fun v h1 => v = none ∧ EXm h h1 b n sh tp cl A U0) noX) 39 [some (.ref 77), some (.int x1), some (.int x2), some (.int 1), x4] [] g 0 0 := by
  intro k
  induction k with
  | zero => intro V g x4 hk _ _ U; have := U.1.1; omega
  | succ k ih =>
    intro V g x4 hk hq hd U E5 hV R M F
    have hS := F.St hS0
    obtain ⟨w9, wl, hb, sn, n7⟩ := U.bd htp
    have ww := U.2.2.1.1
    have zrE := U.2.2.1.2.1
    have h34 := M.2.1
    have h90 := M.2.2.1
    have gd : hI g 77 13 = 0 := R.good.mpr rfl
    have ig := fun d => q_isGood (l := l) (d := d) hS
    rw [if_pos gd] at ig
    have kw := fun d => q_knownWord (l := l) (d := d) hS R
    have kl := kwN_le (b := b) (n := n) (s := uS V)
    have isg := fun d c (hc : c < 256) => q_isSignR (l := l) (d := d) (c := c) hS R hc
    have i60 := fun d => isg d 60 (by decide)
    have i61 := fun d => isg d 61 (by decide)
    have i43 := fun d => isg d 43 (by decide)
    have i45 := fun d => isg d 45 (by decide)
    have i42 := fun d => isg d 42 (by decide)
    have i47 := fun d => isg d 47 (by decide)
    have i41 := fun d => isg d 41 (by decide)
    have iop := fun d => q_isOpened (l := l) (d := d) hS M.1 w9 (by omega)
    have f1' : hI g 77 31 = nI (if sh = 1 then 0 else 5) := by rw [F.I (by unfold Sxm SGr; omega)]; exact f1
    have f2' : hI g 77 32 = nI (if sh = 1 then 6 else 8) := by rw [F.I (by unfold Sxm SGr; omega)]; exact f2
    -- behind an operator: its operand, and on
    have opT : ∀ o, opF b n (uS V) = o → ¬ o = 0 → ¬ (tkK b n (uS V) = 3 ∧ b (uS V) = 41) → ¬ (bdN o = 4 ∧ topB (popW 5 (uW V) (uP V)).1 = 4) → ∀ g3, Fj (Sxm tp) h g3 → RM g3 b n (uS V) (0, 0) → MU g3 tp (ruGo b n V ((1, uE V, 0, if o ≤ 2 then 1 else 0), o :: (popW (tgO o) (uW V) (uP V)).1, (popW (tgO o) (uW V) (uP V)).2)) → ∀ g4, Fj SGr g3 g4 ∧ RM g4 b n (nx b n (uS V)) (0, 0) → (∀ d, Ey l (d + 5) mX10_operand [.ref 77, .int (nI (if o ≤ 2 then 1 else 0))] g4 none (fun g5 => OPm g4 g5 b n sh tp cl A (ruGo b n V ((1, uE V, 0, if o ≤ 2 then 1 else 0), o :: (popW (tgO o) (uW V) (uP V)).1, (popW (tgO o) (uW V) (uP V)).2)))) ∧ ∀ g5 x4, OPm g4 g5 b n sh tp cl A (ruGo b n V ((1, uE V, 0, if o ≤ 2 then 1 else 0), o :: (popW (tgO o) (uW V) (uP V)).1, (popW (tgO o) (uW V) (uP V)).2)) → Go l (rmOf (d + 6) (0, 0)) mX10_expression (hN h) (Zm (0, 0) (fun v h1 => v = none ∧ EXm h h1 b n sh tp cl A U0) noX) 39 [some (.ref 77), some (.int x1), some (.int x2), some (.int 1), x4] [] g5 0 0 := by
      intro o ho o0 n41 nt g3 F3 R3 M3 g4 G4
      have eB := B_op ho o0 n41 nt
      have vq : uQ (rstB b n V) = 0 := by rw [eB]; rfl
      obtain ⟨v1, v2⟩ := uv_B U hd vq
      have fin2 : ruFin b n sh (rstB b n V) = ruFin b n sh U0 := by
        rw [← rst_B (sh := sh) hq hd (fun q => by
          have := op_sg q.2.1
          rw [q.2.2, ho] at this
          exact o0 this)]
        exact fin_s.trans hV
      rw [eB] at v1 v2 fin2
      have z1 : uQ (ruGo b n V ((1, uE V, 0, if o ≤ 2 then 1 else 0), o :: (popW (tgO o) (uW V) (uP V)).1, (popW (tgO o) (uW V) (uP V)).2)) = 0 := rfl
      have z2 : uD (ruGo b n V ((1, uE V, 0, if o ≤ 2 then 1 else 0), o :: (popW (tgO o) (uW V) (uP V)).1, (popW (tgO o) (uW V) (uP V)).2)) = 1 := rfl
      have z3 : uC (ruGo b n V ((1, uE V, 0, if o ≤ 2 then 1 else 0), o :: (popW (tgO o) (uW V) (uP V)).1, (popW (tgO o) (uW V) (uP V)).2)) = 0 := rfl
      have z4 : uE (ruGo b n V ((1, uE V, 0, if o ≤ 2 then 1 else 0), o :: (popW (tgO o) (uW V) (uP V)).1, (popW (tgO o) (uW V) (uP V)).2)) = uE V := rfl
      have z5 : uM (ruGo b n V ((1, uE V, 0, if o ≤ 2 then 1 else 0), o :: (popW (tgO o) (uW V) (uP V)).1, (popW (tgO o) (uW V) (uP V)).2)) = if o ≤ 2 then 1 else 0 := rfl
      have z6 : uS (ruGo b n V ((1, uE V, 0, if o ≤ 2 then 1 else 0), o :: (popW (tgO o) (uW V) (uP V)).1, (popW (tgO o) (uW V) (uP V)).2)) = nx b n (uS V) := rfl
      generalize ruGo b n V ((1, uE V, 0, if o ≤ 2 then 1 else 0), o :: (popW (tgO o) (uW V) (uP V)).1, (popW (tgO o) (uW V) (uP V)).2) = U2 at *
      have F4 : Fj (Sxm tp) h g4 := F3.tr (G4.1.sub (fun _ _ q => Or.inl q))
      have S4 := F4.St hS0
      have e1 : hI g4 77 31 = nI (if sh = 1 then 0 else 5) := by rw [F4.I (by unfold Sxm SGr; omega)]; exact f1
      have e2 : hI g4 77 32 = nI (if sh = 1 then 6 else 8) := by rw [F4.I (by unfold Sxm SGr; omega)]; exact f2
      refine ⟨fun d => ?_, fun g5 x4 O => ?_⟩
      · have := q_operand (l := l) (d := d) S4 hsh hA e1 e2 htp z1 z2 z3 v1 (by omega) (by rw [z6]; exact G4.2) (M3.fj G4.1)
        rw [z5] at this; exact this
      · obtain ⟨F5, V2, hV2, O⟩ := O
        have F5' := F4.tr F5
        rcases O with ⟨q1, q2, q3, q4, q5, q6, q7⟩ | ⟨q1, ⟨s, q2⟩, W, p, q3, q4, q5, q6⟩
        · exact ih V2 g5 x4 (by omega) q1 q2 q3 q4 (hV2.trans fin2) q6 q7 F5'
        · have S5 := F5'.St hS0
          have y0 : 0 < uY V2 := by
            have r5 := q2.2.2.2.2.1
            rcases Nat.eq_zero_or_pos (uY V2) with e | e
            · exfalso
              have := (ru_done (b := b) (n := n) (sh := sh) hA (n + 1) U2 (by omega) z1 v1).2.2.2.2
              rw [← hV2, fin_t (show ¬ uQ V2 = 0 by omega)] at this
              have := (this (by omega)).1
              omega
            · exact e
          have bad : ¬ hI g5 77 13 = 0 := fun q => absurd (q2.good.mp q) (show ¬ uY V2 = 0 by omega)
          have ig5 := fun d => q_isGood (l := l) (d := d) S5
          rw [if_neg bad] at ig5
          have out := q_ex340 (l := l) (d := d) (cl := cl) (A := A) (x1 := x1) (x2 := x2) (x3 := 1) (x4 := x4) S5 F5' (hV2.trans fin2) q1 q2 y0 q3 q4 q5 q6
          have hS := S5
          refine go_iloadn dX10_expression_39 rfl ?_
          refine go_if_eq (tgt := 340) dX10_expression_40 (by decide) (fun c40 => absurd c40 (by decide)) (fun c40 => ?_)
          refine go_aloadn dX10_expression_43 rfl ?_
          refine sg_cVi (M' := mX10_isGood) ([]) dX10_expression_44 lX10_161 vX10_isGood (mo_L rfl) (by decide) rfl hS (ig5 _) rfl (Nat.le_of_ble_eq_true rfl) (Nat.zero_le _) (Nat.zero_le _) ?_
          refine go_if_eq (tgt := 340) dX10_expression_47 (by decide) (fun c47 => ?_) (fun c47 => absurd rfl c47)
          exact out
    -- drops, then waits: the heap
    have drp : ∀ m, m ≤ 6 → ∀ d, Ey l (d + 2) mX10_drops [.ref 77, .int (nI m)] g none (fun g1 => Fz (Sdm tp) g g1 ∧ SKm g1 tp (popW (max m 1) (uW V) (uP V)).1 (popW (max m 1) (uW V) (uP V)).2) := fun m hm d => q_drops hS M.1 w9 (by omega) (by omega) hm
    have wai : ∀ m o, 0 < m → ∀ g1, Fz (Sdm tp) g g1 ∧ SKm g1 tp (popW m (uW V) (uP V)).1 (popW m (uW V) (uP V)).2 → ∃ g2, (∀ d, Ex l (d + 1) mX10_waitsFor [.ref 77, .int (maN o)] g1 none g2) ∧ SKm g2 tp (o :: (popW m (uW V) (uP V)).1) (popW m (uW V) (uP V)).2 ∧ St g1 ∧ Fz (fun a k => Sdm tp a k ∨ a = 88) g g2 := by
      intro m o hm g1 G
      have S1 := G.1.St hS
      have pl := (popW_le (m := m) (uW V) (uP V)).1
      refine ⟨uI (uI g1 88 (popW m (uW V) (uP V)).1.length (maN o)) 77 33 (nI ((popW m (uW V) (uP V)).1.length + 1)), fun d => q_waitsFor S1 G.2.1 (by omega), G.2.push, S1, (G.1.sub (fun _ _ q => Or.inl q)).tr ((Fz.rf.uI (Or.inr rfl)).uI (Or.inl (Or.inl ⟨rfl, Or.inr rfl⟩)))⟩
    have xf : ∀ g2, Fz (fun a k => Sdm tp a k ∨ a = 88) g g2 → Fj (Sxm tp) h g2 ∧ RM g2 b n (uS V) (0, 0) ∧ St g2 ∧ hI g2 77 34 = nI (uE V + 1) ∧ ∀ j, hI g2 90 j = hI g 90 j := fun g2 F2 => ⟨F.tr (F2.j.sub (fun a k q => by unfold Sdm at q; unfold Sxm; omega)), R.fz F2 (fun k hk => by unfold Sdm; omega) (fun k => by unfold Sdm; omega), F2.St hS, by rw [F2.I (by unfold Sdm; omega)]; exact h34, fun j => F2.I (by unfold Sdm; omega)⟩
    have hk1 : ∀ o, kwN b n (uS V) = o → o < 20 → tkK b n (uS V) = 1 := fun o e lt => ((kwN_iff (b := b) (n := n) (s := uS V) (k := o) lt).mp e).1
    -- or, and
    have andor : ∀ o m kk, (o = 2 ∧ m = 2 ∧ kk = 17) ∨ (o = 1 ∧ m = 1 ∧ kk = 18) → kwN b n (uS V) = kk → ∀ g1, Fz (Sdm tp) g g1 ∧ SKm g1 tp (popW m (uW V) (uP V)).1 (popW m (uW V) (uP V)).2 → ∀ g2, SKm g2 tp (o :: (popW m (uW V) (uP V)).1) (popW m (uW V) (uP V)).2 → Fz (fun a k => Sdm tp a k ∨ a = 88) g g2 → Go l (rmOf (d + 6) (0, 0)) mX10_expression (hN h) (Zm (0, 0) (fun v h1 => v = none ∧ EXm h h1 b n sh tp cl A U0) noX) 102 [some (.ref 77), some (.int x1), some (.int x2), some (.int 1), some (.int (nI kk))] [] g2 0 0 := by
      intro o m kk hok hkw g1 G g2 H2 F2
      obtain ⟨X1, X2, X3, X4, X5⟩ := xf g2 F2
      have k1 := hk1 kk hkw (by omega)
      have eo : opF b n (uS V) = o := by
        rcases hok with ⟨e1, e2, e3⟩ | ⟨e1, e2, e3⟩
        · rw [e1]; exact op_kw.1 (hkw.trans e3)
        · rw [e1]; exact op_kw.2 (hkw.trans e3)
      have etg : tgO o = m ∧ bdN o = m ∧ ¬ bdN o = 4 ∧ ¬ o = 0 ∧ o ≤ 2 := by
        rcases hok with ⟨e1, e2, e3⟩ | ⟨e1, e2, e3⟩
        · rw [e1, e2]; decide
        · rw [e1, e2]; decide
      have F3 : Fz (fun a k => a = 90 ∧ k = uE V + 1) g2 (uI g2 90 (uE V + 1) 0) := Fz.rf.uI ⟨rfl, rfl⟩
      have w0 : hI (uI g2 90 (uE V + 1) 0) 90 (uE V + 1) = 0 := hI_uI_eq
      have fin : ∀ g3, g3 = uI g2 90 (uE V + 1) 0 → Go l (rmOf (d + 6) (0, 0)) mX10_expression (hN h) (Zm (0, 0) (fun v h1 => v = none ∧ EXm h h1 b n sh tp cl A U0) noX) 112 [some (.ref 77), some (.int x1), some (.int x2), some (.int 1), some (.int (nI kk))] [] g3 0 0 := by
        intro g3 hg
        rw [← hg] at F3 w0
        have S3 := F3.St X3
        have R3 := X2.fz F3 (fun k hk => by omega) (fun k => by omega)
        have H3 : SKm g3 tp (o :: (popW m (uW V) (uP V)).1) (popW m (uW V) (uP V)).2 := ⟨by rw [F3.I (by omega)]; exact H2.1, fun i hi => by rw [F3.I (by omega)]; exact H2.2.1 i hi, by rw [F3.I (by omega)]; exact H2.2.2.1, fun j hj => by rw [F3.I (by omega), F3.I (by omega)]; exact H2.2.2.2 j hj⟩
        have m0 : 0 < m := by omega
        have h0 : hsT (o :: (popW m (uW V) (uP V)).1) = 0 := by
          rw [hs_c, if_neg etg.2.2.2.1, if_neg (by omega)]
          have t := popW_top m0 (W := uW V) (p := uP V)
          have r := (rk_top (popW_ww (m := m) (p := uP V) ww)).2.1 (by omega)
          have := hs_le (W := (popW m (uW V) (uP V)).1)
          rcases Nat.lt_or_ge (hsT (popW m (uW V) (uP V)).1) 1 with q | q
          · omega
          · have := hs_rk (popW_ww (m := m) (p := uP V) ww) (by omega); omega
        have M3 := mu_op (b := b) (may := if o ≤ 2 then 1 else 0) M U etg.2.2.2.1 m0 H3 (by rw [F3.I (by omega), X4, h34]) (fun j hj => by rw [F3.I (by omega), X5]) (by rw [w0, h0]; rfl)
        rw [← etg.1] at M3
        have T := opT o eo etg.2.2.2.1 (by omega) (fun q => etg.2.2.1 q.1) g3 (X1.tr (F3.j.sub (fun a k q => by unfold Sxm; omega))) R3 M3
        rw [if_pos etg.2.2.2.2] at T
        have hS := S3
        refine go_aloadn dX10_expression_112 rfl ?_
        refine sg_rV0 (M' := mX10_goes) ([]) dX10_expression_113 lX10_165 vX10_goes (mo_L rfl) (by decide) rfl hS (q_goesR hS R3) rfl (Nat.le_of_ble_eq_true rfl) (Nat.zero_le _) (Nat.zero_le _) (fun g4 G4 => ?_)
        have hS := G4.1.St hS
        refine go_aloadn dX10_expression_116 rfl ?_
        refine go_iconst (v := 1) dX10_expression_117 rfl ?_
        refine sg_rV0 (M' := mX10_operand) ([.int (nI 1)]) dX10_expression_118 lX10_214 vX10_operand (mo_L rfl) (by decide) rfl hS ((T g4 G4).1 _) rfl (Nat.le_of_ble_eq_true rfl) (Nat.zero_le _) (Nat.zero_le _) (fun g5 O => ?_)
        refine go_goto (tgt := 337) dX10_expression_121 (by decide) ?_
        refine go_goto (tgt := 39) dX10_expression_337 (by decide) ?_
        exact (T g4 G4).2 g5 _ O
      have hS := X3
      refine go_aloadn dX10_expression_102 rfl ?_
      refine sg_getR dX10_expression_103 fX10_63 rfl (mo_L rfl) hS (mo_r41 hS rfl) ?_
      refine go_aloadn dX10_expression_106 rfl ?_
      refine sg_getI dX10_expression_107 fX10_196 rfl (mo_L rfl) hS ?_
      rw [X4]
      refine go_iconst (v := 0) dX10_expression_110 rfl ?_
      refine sg_zastN (i := uE V + 1) dX10_expression_111 (mo_41 rfl) hS (by simp only [lit_nI, nI_add, pk_mul, Nat.add_assoc, Nat.zero_add, Nat.add_zero]) (by omega) ?_
      exact fin _ rfl
    -- the state behind plus, minus, times, over
    have ari : ∀ o m, ((o = 6 ∨ o = 7) ∧ m = 5) ∨ ((o = 8 ∨ o = 9) ∧ m = 6) → tkK b n (uS V) = 3 → sgO (b (uS V)) = o → ∀ g2, SKm g2 tp (o :: (popW m (uW V) (uP V)).1) (popW m (uW V) (uP V)).2 → Fz (fun a k => Sdm tp a k ∨ a = 88) g g2 → St g2 ∧ RM g2 b n (uS V) (0, 0) ∧ ∀ g4, Fj SGr g2 g4 ∧ RM g4 b n (nx b n (uS V)) (0, 0) → (∀ d, Ey l (d + 5) mX10_operand [.ref 77, .int (nI 0)] g4 none (fun g5 => OPm g4 g5 b n sh tp cl A (ruGo b n V ((1, uE V, 0, 0), o :: (popW (tgO o) (uW V) (uP V)).1, (popW (tgO o) (uW V) (uP V)).2)))) ∧ ∀ g5 x4, OPm g4 g5 b n sh tp cl A (ruGo b n V ((1, uE V, 0, 0), o :: (popW (tgO o) (uW V) (uP V)).1, (popW (tgO o) (uW V) (uP V)).2)) → Go l (rmOf (d + 6) (0, 0)) mX10_expression (hN h) (Zm (0, 0) (fun v h1 => v = none ∧ EXm h h1 b n sh tp cl A U0) noX) 39 [some (.ref 77), some (.int x1), some (.int x2), some (.int 1), x4] [] g5 0 0 := by
      intro o m hom k3 ho g2 H2 F2
      obtain ⟨X1, X2, X3, X4, X5⟩ := xf g2 F2
      have eo : opF b n (uS V) = o := (op_sg k3).trans ho
      have etg : tgO o = m ∧ ¬ bdN o = 4 ∧ ¬ o = 0 ∧ ¬ o ≤ 2 := by
        rcases hom with ⟨e1 | e1, e2⟩ | ⟨e1 | e1, e2⟩ <;> rw [e1, e2] <;> decide
      have m5 : 5 ≤ m := by omega
      have h0 : hsT (o :: (popW m (uW V) (uP V)).1) = hsT (uW V) := by
        rw [hs_c, if_neg etg.2.2.1, if_neg (by omega), hs_pop m5 ww]
      have n41 : ¬ (tkK b n (uS V) = 3 ∧ b (uS V) = 41) := fun q => by
        rw [q.2] at ho
        have : (0 : Nat) = o := ho
        omega
      have M3 := mu_op (b := b) (may := 0) M U etg.2.2.1 (by omega) H2 (by rw [X4, h34]) (fun j hj => X5 j) (by rw [X5, h0]; exact h90)
      rw [← etg.1] at M3
      have T := opT o eo etg.2.2.1 n41 (fun q => etg.2.1 q.1) g2 X1 X2
      rw [if_neg etg.2.2.2] at T
      exact ⟨X3, X2, T M3⟩
    -- the state behind a test
    have tst : ∀ o, o = 4 ∨ o = 5 → tkK b n (uS V) = 3 → sgO (b (uS V)) = o → hsT (uW V) = 0 → ∀ g2, SKm g2 tp (o :: (popW 4 (uW V) (uP V)).1) (popW 4 (uW V) (uP V)).2 → Fz (fun a k => Sdm tp a k ∨ a = 88) g g2 → ∀ x4, Go l (rmOf (d + 6) (0, 0)) mX10_expression (hN h) (Zm (0, 0) (fun v h1 => v = none ∧ EXm h h1 b n sh tp cl A U0) noX) 179 [some (.ref 77), some (.int x1), some (.int x2), some (.int 1), x4] [] g2 0 0 := by
      intro o ho45 k3 ho hz g2 H2 F2 x4
      obtain ⟨X1, X2, X3, X4, X5⟩ := xf g2 F2
      have eo : opF b n (uS V) = o := (op_sg k3).trans ho
      have etg : tgO o = 5 ∧ ¬ o = 0 ∧ ¬ o ≤ 2 := by
        rcases ho45 with e1 | e1 <;> rw [e1] <;> decide
      rw [pop_45 ww hz] at H2
      have n41 : ¬ (tkK b n (uS V) = 3 ∧ b (uS V) = 41) := fun q => by
        rw [q.2] at ho
        have : (0 : Nat) = o := ho
        omega
      have nt : ¬ (bdN o = 4 ∧ topB (popW 5 (uW V) (uP V)).1 = 4) := fun q => by
        have := (hs_5 ww).mp q.2; omega
      have F3 : Fz (fun a k => a = 90 ∧ k = uE V + 1) g2 (uI g2 90 (uE V + 1) 1) := Fz.rf.uI ⟨rfl, rfl⟩
      have w0 : hI (uI g2 90 (uE V + 1) 1) 90 (uE V + 1) = 1 := hI_uI_eq
      have fin : ∀ g3, g3 = uI g2 90 (uE V + 1) 1 → Go l (rmOf (d + 6) (0, 0)) mX10_expression (hN h) (Zm (0, 0) (fun v h1 => v = none ∧ EXm h h1 b n sh tp cl A U0) noX) 189 [some (.ref 77), some (.int x1), some (.int x2), some (.int 1), x4] [] g3 0 0 := by
        intro g3 hg
        rw [← hg] at F3 w0
        have S3 := F3.St X3
        have R3 := X2.fz F3 (fun k hk => by omega) (fun k => by omega)
        have H3 : SKm g3 tp (o :: (popW 5 (uW V) (uP V)).1) (popW 5 (uW V) (uP V)).2 := ⟨by rw [F3.I (by omega)]; exact H2.1, fun i hi => by rw [F3.I (by omega)]; exact H2.2.1 i hi, by rw [F3.I (by omega)]; exact H2.2.2.1, fun j hj => by rw [F3.I (by omega), F3.I (by omega)]; exact H2.2.2.2 j hj⟩
        have h0 : hsT (o :: (popW 5 (uW V) (uP V)).1) = 1 := by rw [hs_c, if_neg etg.2.1, if_pos ho45]
        have M3 := mu_op (b := b) (may := 0) M U etg.2.1 (by decide) H3 (by rw [F3.I (by omega), X4, h34]) (fun j hj => by rw [F3.I (by omega), X5]) (by rw [w0, h0]; rfl)
        rw [← etg.1] at M3
        have T := opT o eo etg.2.1 n41 nt g3 (X1.tr (F3.j.sub (fun a k q => by unfold Sxm; omega))) R3
        rw [if_neg etg.2.2] at T
        have T := T M3
        have hS := S3
        refine go_aloadn dX10_expression_189 rfl ?_
        refine sg_rV0 (M' := mX10_goes) ([]) dX10_expression_190 lX10_165 vX10_goes (mo_L rfl) (by decide) rfl hS (q_goesR hS R3) rfl (Nat.le_of_ble_eq_true rfl) (Nat.zero_le _) (Nat.zero_le _) (fun g4 G4 => ?_)
        have hS := G4.1.St hS
        refine go_aloadn dX10_expression_193 rfl ?_
        refine go_iconst (v := 0) dX10_expression_194 rfl ?_
        refine sg_rV0 (M' := mX10_operand) ([.int (nI 0)]) dX10_expression_195 lX10_214 vX10_operand (mo_L rfl) (by decide) rfl hS ((T g4 G4).1 _) rfl (Nat.le_of_ble_eq_true rfl) (Nat.zero_le _) (Nat.zero_le _) (fun g5 O => ?_)
        refine go_goto (tgt := 337) dX10_expression_198 (by decide) ?_
        refine go_goto (tgt := 39) dX10_expression_337 (by decide) ?_
        exact (T g4 G4).2 g5 _ O
      have hS := X3
      refine go_aloadn dX10_expression_179 rfl ?_
      refine sg_getR dX10_expression_180 fX10_63 rfl (mo_L rfl) hS (mo_r41 hS rfl) ?_
      refine go_aloadn dX10_expression_183 rfl ?_
      refine sg_getI dX10_expression_184 fX10_196 rfl (mo_L rfl) hS ?_
      rw [X4]
      refine go_iconst (v := 1) dX10_expression_187 rfl ?_
      refine sg_zastN (i := uE V + 1) dX10_expression_188 (mo_41 rfl) hS (by simp only [lit_nI, nI_add, pk_mul, Nat.add_assoc, Nat.zero_add, Nat.add_zero]) (by omega) ?_
      exact fin _ rfl
    -- nothing that goes on
    have stp : rstB b n V = ruFl V 1 → ∀ x4, Go l (rmOf (d + 6) (0, 0)) mX10_expression (hN h) (Zm (0, 0) (fun v h1 => v = none ∧ EXm h h1 b n sh tp cl A U0) noX) 335 [some (.ref 77), some (.int x1), some (.int x2), some (.int 1), x4] [] g 0 0 := by
      intro st x4
      have out := q_stop (l := l) (d := d) (x1 := x1) (x2 := x2) (x3 := 0) (x4 := x4) hS F hV hq hd U htp E5 R M st
      refine go_iconst (v := 0) dX10_expression_335 rfl ?_
      refine go_ist3 dX10_expression_336 rfl ?_
      refine go_goto (tgt := 39) dX10_expression_337 (by decide) ?_
      skip
      refine go_iloadn dX10_expression_39 rfl ?_
      refine go_if_eq (tgt := 340) dX10_expression_40 (by decide) (fun c40 => ?_) (fun c40 => absurd rfl c40)
      exact out
    sorry
