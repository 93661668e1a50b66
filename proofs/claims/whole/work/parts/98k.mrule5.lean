/-! rules of the model: operand, closing -/
theorem q_operand {l : Launch} {d n tp sh cl : Nat} {b : Nat → Nat} {h : Hp} {U : Ru} {A : Nat → Prop} (hS : St h) (hsh : sh ≤ 1) (hA : ∀ k, vlA sh k → A (mvN k)) (f1 : hI h 77 31 = nI (if sh = 1 then 0 else 5)) (f2 : hI h 77 32 = nI (if sh = 1 then 6 else 8)) (htp : tp + 2 ≤ 2 * cl) (hq : uQ U = 0) (hd : uD U = 1) (hC : uC U = 0) (V : UV A n cl U) (E5 : uE U ≤ 5) (R : RM h b n (uS U) (0, 0)) (M : MU h tp U) : Ey l (d + 5) mX10_operand [.ref 77, .int (nI (uM U))] h none (fun g => OPm h g b n sh tp cl A U) := by
  refine run_lv [some (.ref 77), some (.int (nI (uM U))), none, none, none] (go := ?_)
  have gd : hI h 77 13 = 0 := R.good.mpr rfl
  have ig := fun d => q_isGood (l := l) (d := d) hS
  rw [if_pos gd] at ig
  have go := q_op18 (l := l) (d := d) (n := n) (tp := tp) (sh := sh) (cl := cl) (b := b) (h := h) (U0 := U) (A := A) (x1 := nI (uM U)) hS hsh hA f1 f2 htp (n + 1) U h (by omega) hq hd V E5 rfl (Nat.le_refl _) R M Fj.rf
  rw [hC] at go
  refine go_iloadn dX10_operand_0 rfl ?_
  refine go_ist2 dX10_operand_1 rfl ?_
  refine go_iconst (v := 1) dX10_operand_2 rfl ?_
  refine go_ist3 dX10_operand_3 rfl ?_
  refine go_iloadn dX10_operand_4 rfl ?_
  refine go_if_eq (tgt := 120) dX10_operand_5 (by decide) (fun c5 => absurd c5 (by decide)) (fun c5 => ?_)
  refine go_aloadn dX10_operand_8 rfl ?_
  refine sg_cVi (M' := mX10_isGood) ([]) dX10_operand_9 lX10_161 vX10_isGood (mo_L rfl) (by decide) rfl hS (ig _) rfl (Nat.le_of_ble_eq_true rfl) (Nat.zero_le _) (Nat.zero_le _) ?_
  refine go_if_eq (tgt := 120) dX10_operand_12 (by decide) (fun c12 => absurd c12 (by decide)) (fun c12 => ?_)
  refine go_iconst (v := 0) dX10_operand_15 rfl ?_
  refine go_ist4 dX10_operand_16 rfl ?_
  exact go
theorem q_isOpened {l : Launch} {d tp : Nat} {W : List Nat} {p : Pr} {h : Hp} (hS : St h) (H : SKm h tp W p) (hW : ∀ o, o ∈ W → o ≤ 9) (hl : W.length ≤ 900) : Ex l (d + 2) mX10_isOpened [.ref 77] h (some (.int (if zr W = 0 then 0 else 1))) h := by
  refine run_lv [some (.ref 77), none] (go := ?_)
  have h33 := H.1
  have lp : ∀ k, k ≤ W.length → zr (W.drop (W.length - k)) = zr W → Go l (rmOf (d + 2) (0, 0)) mX10_isOpened (hN h) (Zm (0, 0) (fun v h1 => v = some (.int (if zr W = 0 then 0 else 1)) ∧ h1 = h) noX) 7 [some (.ref 77), some (.int (nI k - 1))] [] h 0 0 := by
    intro k
    induction k with
    | zero =>
      intro _ hz
      rw [Nat.sub_zero, List.drop_length] at hz
      rw [if_pos (show zr W = 0 from hz.symm)]
      refine go_iloadn dX10_isOpened_7 rfl ?_
      refine go_if_lt (tgt := 29) dX10_isOpened_8 (by decide) (fun c8 => ?_) (fun c8 => absurd (by decide) c8)
      refine go_iloadn dX10_isOpened_29 rfl ?_
      refine go_if_lt (tgt := 37) dX10_isOpened_30 (by decide) (fun c30 => ?_) (fun c30 => absurd (by decide) c30)
      refine go_iconst (v := 0) dX10_isOpened_37 rfl ?_
      refine go_ireturn dX10_isOpened_38 rfl rfl (Nat.zero_le _) (Nat.zero_le _) ?_
      exact ⟨rfl, rfl⟩
    | succ k ih =>
      intro hk hz
      have es : nI (k + 1) - 1 = nI k := nI_sb (s := 1) (by omega)
      have hlt : W.length - (k + 1) < W.length := by omega
      have e88 : hI h 88 k = maN (W.getD (W.length - (k + 1)) 0) := by rw [H.2.1 k (by omega), show W.length - 1 - k = W.length - (k + 1) by omega]
      have hd : W.drop (W.length - (k + 1)) = W.getD (W.length - (k + 1)) 0 :: W.drop (W.length - k) := by
        rw [List.drop_eq_getElem_cons hlt, show W.length - (k + 1) + 1 = W.length - k by omega, List.getD_eq_getElem?_getD, List.getElem?_eq_getElem hlt]; rfl
      have ho : W.getD (W.length - (k + 1)) 0 ≤ 9 := hW _ (by rw [List.getD_eq_getElem?_getD, List.getElem?_eq_getElem hlt]; exact List.getElem_mem hlt)
      rw [hd] at hz
      generalize W.getD (W.length - (k + 1)) 0 = o at *
      rw [show zr (o :: W.drop (W.length - k)) = (if o = 0 then 1 else 0) + zr (W.drop (W.length - k)) from rfl] at hz
      have b1 := (ma_n ⟨o, by omega⟩).1
      dsimp only at b1
      have io := fun d => q_isOpen (l := l) (d := d) (y := maN o) (h := h)
      rw [es]
      by_cases o0 : o = 0
      · rw [if_neg (fun q => b1.mp q o0)] at io
        rw [if_pos o0] at hz
        rw [if_neg (by omega)]
        refine go_iloadn dX10_isOpened_7 rfl ?_
        refine go_if_lt (tgt := 29) dX10_isOpened_8 (by decide) (fun c8 => absurd c8 (Int32.not_lt.mpr (nI_le (a := 0) (by omega) (by omega)))) (fun c8 => ?_)
        refine go_aloadn dX10_isOpened_11 rfl ?_
        refine sg_getR dX10_isOpened_12 fX10_57 rfl (mo_L rfl) hS (mo_r39 hS rfl) ?_
        refine go_iloadn dX10_isOpened_15 rfl ?_
        refine sg_ialdN (i := k) (x := maN o) dX10_isOpened_16 (mo_39 rfl) hS (by simp only [lit_nI, nI_add, pk_mul, Nat.add_assoc, Nat.zero_add, Nat.add_zero]) (by omega) (e88) ?_
        refine sg_cSi (M' := mX10_isOpen) ([.int (maN o)]) dX10_isOpened_17 lX10_177 sX10_isOpen hS (io _) rfl (Nat.le_of_ble_eq_true rfl) (Nat.zero_le _) (Nat.zero_le _) ?_
        refine go_if_ne (tgt := 29) dX10_isOpened_20 (by decide) (fun c20 => ?_) (fun c20 => absurd c20 (by decide))
        refine go_iloadn dX10_isOpened_29 rfl ?_
        refine go_if_lt (tgt := 37) dX10_isOpened_30 (by decide) (fun c30 => absurd c30 (Int32.not_lt.mpr (nI_le (a := 0) (by omega) (by omega)))) (fun c30 => ?_)
        refine go_iconst (v := 1) dX10_isOpened_33 rfl ?_
        refine go_goto (tgt := 38) dX10_isOpened_34 (by decide) ?_
        refine go_ireturn dX10_isOpened_38 rfl rfl (Nat.zero_le _) (Nat.zero_le _) ?_
        exact ⟨rfl, rfl⟩
      · rw [if_pos (b1.mpr o0)] at io
        rw [if_neg o0, Nat.zero_add] at hz
        have go := ih (by omega) hz
        refine go_iloadn dX10_isOpened_7 rfl ?_
        refine go_if_lt (tgt := 29) dX10_isOpened_8 (by decide) (fun c8 => absurd c8 (Int32.not_lt.mpr (nI_le (a := 0) (by omega) (by omega)))) (fun c8 => ?_)
        refine go_aloadn dX10_isOpened_11 rfl ?_
        refine sg_getR dX10_isOpened_12 fX10_57 rfl (mo_L rfl) hS (mo_r39 hS rfl) ?_
        refine go_iloadn dX10_isOpened_15 rfl ?_
        refine sg_ialdN (i := k) (x := maN o) dX10_isOpened_16 (mo_39 rfl) hS (by simp only [lit_nI, nI_add, pk_mul, Nat.add_assoc, Nat.zero_add, Nat.add_zero]) (by omega) (e88) ?_
        refine sg_cSi (M' := mX10_isOpen) ([.int (maN o)]) dX10_isOpened_17 lX10_177 sX10_isOpen hS (io _) rfl (Nat.le_of_ble_eq_true rfl) (Nat.zero_le _) (Nat.zero_le _) ?_
        refine go_if_ne (tgt := 29) dX10_isOpened_20 (by decide) (fun c20 => absurd rfl c20) (fun c20 => ?_)
        refine go_iinc1 (c1 := -1) dX10_isOpened_23 rfl rfl ?_
        refine go_goto (tgt := 7) dX10_isOpened_26 (by decide) ?_
        rw [show nI k + (-1) = nI k - 1 from (Int32.sub_eq_add_neg ..).symm]; exact go
  have go := lp W.length (Nat.le_refl _) (by rw [Nat.sub_self]; rfl)
  refine go_aloadn dX10_isOpened_0 rfl ?_
  refine sg_getI dX10_isOpened_1 fX10_174 rfl (mo_L rfl) hS ?_
  rw [h33]
  refine go_iconst (v := 1) dX10_isOpened_4 rfl ?_
  refine go_isub dX10_isOpened_5 ?_
  refine go_ist1 dX10_isOpened_6 rfl ?_
  exact go
theorem q_closes {l : Launch} {d n tp sh cl : Nat} {b : Nat → Nat} {h : Hp} {U : Ru} {A : Nat → Prop} (hS : St h) (V : UV A n cl U) (htp : tp + 2 ≤ 2 * cl) (hd : uD U = 0) (hE : ¬ uE U = 0) (y : tkK b n (uS U) = 3 ∧ b (uS U) = 41) (R : RM h b n (uS U) (0, 0)) (M : MU h tp U) : Ey l (d + 4) mX10_closes [.ref 77] h none (fun g => Fj (Sxm tp) h g ∧ RM g b n (uS (rstB b n U)) (0, 0) ∧ MU g tp (rstB b n U)) := by
  refine run_lv [some (.ref 77)] (go := ?_)
  obtain ⟨H, h34, h90, hTB⟩ := M
  obtain ⟨⟨a1, a2, a3⟩, ⟨a4, a5, a6⟩, ⟨a7, a8, a9⟩, a10, a11, a12⟩ := V
  have wl := ww_len a7
  have wr := rk_le a7
  have w9 := ww_9 a7
  have mp := mp_le (p := uP U) (uP U).1
  have er : rstB b n U = ruGo b n U ((uD U, uE U - 1, uC U, uM U), (popW 1 (uW U) (uP U)).1.tail, (popW 1 (uW U) (uP U)).2) := by
    unfold rstB; rw [if_pos y, if_neg hE]
  rw [er]
  have dr := fun d => q_drops (l := l) (d := d) (m := 0) hS H w9 (by omega) (by omega) (by decide)
  rw [show max 0 1 = 1 from rfl] at dr
  have p1 := popW_ww (m := 1) (p := uP U) a7
  have p2 := popW_zr (m := 1) (by decide) (p := uP U) a7
  have p3 := popW_top (m := 1) (by decide) (W := uW U) (p := uP U)
  have p5 := popW_le (m := 1) (uW U) (uP U)
  have p6 := tb_pop (m := 1) (by decide) (p := uP U) a7 hTB
  generalize popW 1 (uW U) (uP U) = x at *
  obtain ⟨W, p⟩ := x
  dsimp only at *
  cases W with
  | nil => have : zr [] = 0 := rfl; omega
  | cons o W =>
    have o9 := p1.2.1
    have o0 := (bd_0 ⟨o, by omega⟩).1
    dsimp only at o0
    have p3 : bdN o < 1 := p3
    have o0 : o = 0 := o0.mp (by omega)
    subst o0
    rw [tb_c, if_pos rfl] at p6
    rw [show uE U + 1 - 1 = uE U by omega] at p6
    have fin : ∀ g, Fz (Sdm tp) h g ∧ SKm g tp (0 :: W) p → Go l (rmOf (d + 4) (0, 0)) mX10_closes (hN h) (Zm (0, 0) (fun v h1 => v = none ∧ Fj (Sxm tp) h h1 ∧ RM h1 b n (uS (ruGo b n U ((uD U, uE U - 1, uC U, uM U), (0 :: W).tail, p))) (0, 0) ∧ MU h1 tp (ruGo b n U ((uD U, uE U - 1, uC U, uM U), (0 :: W).tail, p))) noX) 5 [some (.ref 77)] [] g 0 0 := by
      intro g G
      have hS := G.1.St hS
      have e33 := G.2.1
      rw [List.length_cons] at e33
      have e34 : hI g 77 34 = nI (uE U + 1) := by rw [G.1.I (by unfold Sdm; omega)]; exact h34
      have F1 : Fz (fun a k => a = 77 ∧ (k = 33 ∨ k = 34)) g (uI (uI g 77 33 (nI W.length)) 77 34 (nI (uE U))) := (Fz.rf.uI (by omega)).uI (by omega)
      have w1 : hI (uI (uI g 77 33 (nI W.length)) 77 34 (nI (uE U))) 77 33 = nI W.length := by rw [hI_uI_ne (by omega), hI_uI_eq]
      have w2 : hI (uI (uI g 77 33 (nI W.length)) 77 34 (nI (uE U))) 77 34 = nI (uE U) := hI_uI_eq
      have wl2 : W.length + 1 ≤ (uW U).length := p5.1
      have fi2 : ∀ g2, g2 = uI (uI g 77 33 (nI W.length)) 77 34 (nI (uE U)) → Go l (rmOf (d + 4) (0, 0)) mX10_closes (hN h) (Zm (0, 0) (fun v h1 => v = none ∧ Fj (Sxm tp) h h1 ∧ RM h1 b n (uS (ruGo b n U ((uD U, uE U - 1, uC U, uM U), (0 :: W).tail, p))) (0, 0) ∧ MU h1 tp (ruGo b n U ((uD U, uE U - 1, uC U, uM U), (0 :: W).tail, p))) noX) 25 [some (.ref 77)] [] g2 0 0 := by
        intro g2 hg
        rw [← hg] at F1 w1 w2
        have hS := F1.St hS
        have R2 := (R.fz G.1 (fun k hk => by unfold Sdm; omega) (fun k => by unfold Sdm; omega)).fz F1 (fun k hk => by omega) (fun k => by omega)
        have e90 : ∀ j, hI g2 90 j = hI h 90 j := fun j => by rw [F1.I (by omega), G.1.I (by unfold Sdm; omega)]
        have H2 : SKm g2 tp W p := ⟨w1, fun i hi => by rw [F1.I (by omega), G.2.2.1 i (by rw [List.length_cons]; omega), List.length_cons, show W.length + 1 - 1 - i = (W.length - 1 - i) + 1 by omega]; rfl, by rw [F1.I (by omega)]; exact G.2.2.2.1, fun j hj => by rw [F1.I (by omega), F1.I (by omega)]; exact G.2.2.2.2 j hj⟩
        have Ff : Fj (Sxm tp) h g2 := (G.1.j.sub (fun a k q => by unfold Sdm at q; unfold Sxm; omega)).tr (F1.j.sub (fun a k q => by unfold Sxm; omega))
        refine go_aloadn dX10_closes_25 rfl ?_
        refine sg_rV0 (M' := mX10_goes) ([]) dX10_closes_26 lX10_165 vX10_goes (mo_L rfl) (by decide) rfl hS (q_goesR hS R2) rfl (Nat.le_of_ble_eq_true rfl) (Nat.zero_le _) (Nat.zero_le _) (fun g3 G3 => ?_)
        refine go_return dX10_closes_29 rfl (Nat.zero_le _) (Nat.zero_le _) ?_
        exact ⟨rfl, Ff.tr (G3.1.sub (fun _ _ q => Or.inl q)), G3.2, H2.fj G3.1, (show hI g3 77 34 = nI (uE U - 1 + 1) by rw [G3.1.I (by unfold SGr; omega), w2, show uE U - 1 + 1 = uE U by omega]), (show hI g3 90 (uE U - 1 + 1) = nI (hsT W) by rw [G3.1.I (by unfold SGr; omega), e90, show uE U - 1 + 1 = uE U by omega]; exact p6.2.1), (show TBl (hI g3 90) W (uE U - 1 + 1) by rw [show uE U - 1 + 1 = uE U by omega]; exact tb_cong (fun j _ => by rw [G3.1.I (by unfold SGr; omega), e90]) p6.2.2)⟩
      refine go_aloadn dX10_closes_5 rfl ?_
      refine go_dup dX10_closes_6 rfl ?_
      refine sg_getI dX10_closes_7 fX10_174 rfl (mo_L rfl) hS ?_
      refine go_iconst (v := 1) dX10_closes_10 rfl ?_
      refine go_isub dX10_closes_11 ?_
      rw [e33, show nI (W.length + 1) - 1 = nI W.length from nI_sb (s := 1) (by omega)]
      refine sg_putI dX10_closes_12 fX10_174 rfl rfl (mo_L rfl) hS ?_
      refine go_aloadn dX10_closes_15 rfl ?_
      refine go_dup dX10_closes_16 rfl ?_
      refine sg_getI dX10_closes_17 fX10_196 rfl (mo_L rfl) hS ?_
      refine go_iconst (v := 1) dX10_closes_20 rfl ?_
      refine go_isub dX10_closes_21 ?_
      rw [hI_uI_ne (by omega), e34, show nI (uE U + 1) - 1 = nI (uE U) from nI_sb (s := 1) (by omega)]
      refine sg_putI dX10_closes_22 fX10_196 rfl rfl (mo_L rfl) hS ?_
      exact fi2 _ rfl
    refine go_aloadn dX10_closes_0 rfl ?_
    refine go_iconst (v := 0) dX10_closes_1 rfl ?_
    refine sg_rV0 (M' := mX10_drops) ([.int (nI 0)]) dX10_closes_2 lX10_211 vX10_drops (mo_L rfl) (by decide) rfl hS (dr _) rfl (Nat.le_of_ble_eq_true rfl) (Nat.zero_le _) (Nat.zero_le _) (fun g G => ?_)
    exact fin g G
