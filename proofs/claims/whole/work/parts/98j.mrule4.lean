/-! rules of the model: an operand -/
theorem SKm.push {h : Hp} {tp o : Nat} {W : List Nat} {p : Pr} (H : SKm h tp W p) : SKm (uI (uI h 88 W.length (maN o)) 77 33 (nI (W.length + 1))) tp (o :: W) p := by
  have F1 : Fz (fun a k => (a = 77 ∧ k = 33) ∨ (a = 88 ∧ k = W.length)) h (uI (uI h 88 W.length (maN o)) 77 33 (nI (W.length + 1))) := (Fz.rf.uI (by omega)).uI (by omega)
  have w1 : hI (uI (uI h 88 W.length (maN o)) 77 33 (nI (W.length + 1))) 77 33 = nI (W.length + 1) := hI_uI_eq
  have w2 : hI (uI (uI h 88 W.length (maN o)) 77 33 (nI (W.length + 1))) 88 W.length = maN o := by rw [hI_uI_ne (by omega), hI_uI_eq]
  generalize uI (uI h 88 W.length (maN o)) 77 33 (nI (W.length + 1)) = g at *
  refine ⟨w1, fun i hi => ?_, by rw [F1.I (by omega)]; exact H.2.2.1, fun j hj => by rw [F1.I (by omega), F1.I (by omega)]; exact H.2.2.2 j hj⟩
  rw [List.length_cons] at hi ⊢
  by_cases q : i = W.length
  · rw [q, w2, show W.length + 1 - 1 - W.length = 0 by omega]; rfl
  · rw [F1.I (by omega), H.2.1 i (by omega), show W.length + 1 - 1 - i = (W.length - 1 - i) + 1 by omega]; rfl
/-- what an operand leaves -/
def OPm (h g : Hp) (b : Nat → Nat) (n sh tp cl : Nat) (A : Nat → Prop) (U : Ru) : Prop := Fj (Sxm tp) h g ∧ ∃ V, ruFin b n sh V = ruFin b n sh U ∧ ((uQ V = 0 ∧ uD V = 0 ∧ UV A n cl V ∧ uE V ≤ 5 ∧ uS U < uS V ∧ RM g b n (uS V) (0, 0) ∧ MU g tp V) ∨ (uQ V = 2 ∧ (∃ s, RM g b n s (uY V, uS V)) ∧ ∃ W p, SKm g tp W p ∧ (∀ o, o ∈ W → o ≤ 9) ∧ W.length ≤ 900 ∧ tp + mpF p p.1 + W.length + 1 ≤ 1400))
theorem q_partF {l : Launch} {d n s : Nat} {b : Nat → Nat} {f : Nat × Nat} {h : Hp} (hS : St h) (R : RM h b n s f) (hf : ¬ f.1 = 0) : Ex l (d + 2) mX10_part [.ref 77] h none h := by
  refine run_lv [some (.ref 77), none] (go := ?_)
  have ig := fun d => q_isGood (l := l) (d := d) hS
  rw [if_neg (fun q => hf (R.good.mp q))] at ig
  refine go_aloadn dX10_part_0 rfl ?_
  refine sg_cVi (M' := mX10_isGood) ([]) dX10_part_1 lX10_161 vX10_isGood (mo_L rfl) (by decide) rfl hS (ig _) rfl (Nat.le_of_ble_eq_true rfl) (Nat.zero_le _) (Nat.zero_le _) ?_
  refine go_if_ne (tgt := 8) dX10_part_4 (by decide) (fun c4 => absurd rfl c4) (fun c4 => ?_)
  refine go_return dX10_part_7 rfl (Nat.zero_le _) (Nat.zero_le _) ?_
  exact ⟨rfl, rfl⟩
theorem rst_P {b : Nat → Nat} {n sh : Nat} {U : Ru} (hq : uQ U = 0) (hd : uD U = 1) : rst b n sh U = rstP b n sh U := by rw [rst_q hq, if_neg (by omega)]
theorem q_op18 {l : Launch} {d n tp sh cl : Nat} {b : Nat → Nat} {h : Hp} {U0 : Ru} {A : Nat → Prop} {x1 : Int32} (hS0 : St h) (hsh : sh ≤ 1) (hA : ∀ k, vlA sh k → A (mvN k)) (f1 : hI h 77 31 = nI (if sh = 1 then 0 else 5)) (f2 : hI h 77 32 = nI (if sh = 1 then 6 else 8)) (htp : tp + 2 ≤ 2 * cl) : ∀ (k : Nat) (U : Ru) (g : Hp), n + 1 - uS U ≤ k → uQ U = 0 → uD U = 1 → UV A n cl U → uE U ≤ 5 → ruFin b n sh U = ruFin b n sh U0 → uS U0 ≤ uS U → RM g b n (uS U) (0, 0) → MU g tp U → Fj (Sxm tp) h g → Go l (rmOf (d + 5) (0, 0)) mX10_operand (hN h) (Zm (0, 0) (fun v h1 => v = none ∧ OPm h h1 b n sh tp cl A U0) noX) 18 [some (.ref 77), some (.int x1), some (.int (nI (uM U))), some (.int 1), some (.int (nI (uC U)))] [] g 0 0 := by
  intro k
  induction k with
  | zero => intro U g hk _ _ V; have := V.1.1; omega
  | succ k ih =>
    intro U g hk hq hd V E5 hfin hs0 R M F
    have hS := F.St hS0
    obtain ⟨H, h34, h90, hTB⟩ := M
    obtain ⟨⟨a1, a2, a3⟩, ⟨a4, a5, a6⟩, ⟨a7, a8, a9⟩, a10, a11, a12⟩ := V
    have V : UV A n cl U := ⟨⟨a1, a2, a3⟩, ⟨a4, a5, a6⟩, ⟨a7, a8, a9⟩, a10, a11, a12⟩
    have wl := ww_len a7
    have wr := rk_le a7
    have w9 := ww_9 a7
    have mp := mp_le (p := uP U) (uP U).1
    have gd : hI g 77 13 = 0 := R.good.mpr rfl
    have ig := fun d => q_isGood (l := l) (d := d) hS
    rw [if_pos gd] at ig
    have kw := fun d => q_knownWord (l := l) (d := d) hS R
    have kl := kwN_le (b := b) (n := n) (s := uS U)
    have isg := fun d => q_isSignR (l := l) (d := d) (c := 40) hS R (by decide)
    have f1' : hI g 77 31 = nI (if sh = 1 then 0 else 5) := by rw [F.I (by unfold Sxm SGr; omega)]; exact f1
    have f2' : hI g 77 32 = nI (if sh = 1 then 6 else 8) := by rw [F.I (by unfold Sxm SGr; omega)]; exact f2
    have finS : ruFin b n sh (rst b n sh U) = ruFin b n sh U0 := fin_s.trans hfin
    rw [rst_P hq hd] at finS
    -- a fault: the way out
    have out120 : ∀ g1 y s1 v2 v3 v4, 0 < y → (∃ V, ruFin b n sh V = ruFin b n sh U0 ∧ uQ V = 2 ∧ uY V = y ∧ uS V = s1) → (∃ s, RM g1 b n s (y, s1)) → Fj (Sxm tp) h g1 → (∃ W p, SKm g1 tp W p ∧ (∀ o, o ∈ W → o ≤ 9) ∧ W.length ≤ 900 ∧ tp + mpF p p.1 + W.length + 1 ≤ 1400) → Go l (rmOf (d + 5) (0, 0)) mX10_operand (hN h) (Zm (0, 0) (fun v h1 => v = none ∧ OPm h h1 b n sh tp cl A U0) noX) 120 [some (.ref 77), some (.int x1), some (.int v2), some (.int v3), some (.int v4)] [] g1 0 0 := by
      intro g1 y s1 v2 v3 v4 hy hV hR G hK
      obtain ⟨s, R1⟩ := hR
      obtain ⟨V, V1, V2, V3, V4⟩ := hV
      have hS := G.St hS0
      have pf := fun d => q_partF (l := l) (d := d) hS R1 (show ¬ y = 0 by omega)
      refine go_aloadn dX10_operand_120 rfl ?_
      refine sg_cV0 (M' := mX10_part) ([]) dX10_operand_121 lX10_208 vX10_part (mo_L rfl) (by decide) rfl hS (pf _) rfl (Nat.le_of_ble_eq_true rfl) (Nat.zero_le _) (Nat.zero_le _) ?_
      refine go_return dX10_operand_124 rfl (Nat.zero_le _) (Nat.zero_le _) ?_
      exact ⟨rfl, G, V, V1, Or.inr ⟨V2, ⟨s, by rw [V3, V4]; exact R1⟩, hK⟩⟩
    by_cases z : uM U = 1 ∧ kwN b n (uS U) = 19
    · rw [if_neg (by omega), z.2] at kw
      have k1 : tkK b n (uS U) = 1 := ((kwN_iff (b := b) (n := n) (s := uS U) (k := 19) (by decide)).mp z.2).1
      have sn := tk3 (b := b) (n := n) (s := uS U) (by omega)
      have er : rstP b n sh U = if 6 ≤ uC U then ruFl U 2 else ruGo b n U ((uD U, uE U, uC U + 1, uM U), 3 :: uW U, uP U) := by
        unfold rstP; rw [if_pos (Or.inr (Or.inl k1)), if_neg (by omega), if_neg (by omega), if_pos k1]; unfold rstW; rw [if_pos z]
      by_cases y : 6 ≤ uC U
      · have uc : uC U = 6 := by omega
        rw [er, if_pos y] at finS
        have W := R.wr (y := 2) (by decide) (by decide)
        rw [wrF, if_pos rfl] at W
        have wrg := fun d => q_wrong (l := l) (d := d) (y := nI 2) hS
        generalize wrH g (nI 2) = g1 at *
        have S1 := W.2.St hS
        have bad : ¬ hI g1 77 13 = 0 := fun q => absurd (W.1.good.mp q) (show ¬ (2 : Nat) = 0 by decide)
        have ig1 := fun d => q_isGood (l := l) (d := d) S1
        rw [if_neg bad] at ig1
        have o120 := out120 g1 2 (uS U) (nI (uM U)) 0 (nI 7) (by decide) ⟨ruFl U 2, finS, rfl, rfl, rfl⟩ ⟨_, W.1⟩ (F.tr (W.2.j.sub (fun _ _ q => Or.inl q))) ⟨uW U, uP U, H.fz0 W.2, w9, by omega, by omega⟩
        rw [z.1] at o120 ⊢
        rw [uc]
        refine go_aloadn dX10_operand_18 rfl ?_
        refine sg_cVi (M' := mX10_isGood) ([]) dX10_operand_19 lX10_161 vX10_isGood (mo_L rfl) (by decide) rfl hS (ig _) rfl (Nat.le_of_ble_eq_true rfl) (Nat.zero_le _) (Nat.zero_le _) ?_
        refine go_if_eq (tgt := 75) dX10_operand_22 (by decide) (fun c22 => absurd c22 (by decide)) (fun c22 => ?_)
        refine go_iloadn dX10_operand_25 rfl ?_
        refine go_if_eq (tgt := 75) dX10_operand_26 (by decide) (fun c26 => absurd c26 (by decide)) (fun c26 => ?_)
        refine go_aloadn dX10_operand_29 rfl ?_
        refine sg_cVi (M' := mX10_knownWord) ([]) dX10_operand_30 lX10_186 vX10_knownWord (mo_L rfl) (by decide) rfl hS (kw _) rfl (Nat.le_of_ble_eq_true rfl) (Nat.zero_le _) (Nat.zero_le _) ?_
        refine go_bipush (v := 19) dX10_operand_33 rfl ?_
        refine go_icmp_ne (tgt := 75) dX10_operand_35 (by decide) (fun c35 => absurd rfl c35) (fun c35 => ?_)
        refine go_iload dX10_operand_38 rfl ?_
        refine go_bipush (v := 6) dX10_operand_40 rfl ?_
        refine go_icmp_ne (tgt := 50) dX10_operand_42 (by decide) (fun c42 => absurd rfl c42) (fun c42 => ?_)
        refine go_aloadn dX10_operand_45 rfl ?_
        refine go_iconst (v := 2) dX10_operand_46 rfl ?_
        refine sg_cV0 (M' := mX10_wrong) ([.int (nI 2)]) dX10_operand_47 lX10_168 vX10_wrong (mo_L rfl) (by decide) rfl hS (wrg _) rfl (Nat.le_of_ble_eq_true rfl) (Nat.zero_le _) (Nat.zero_le _) ?_
        have hS := S1
        refine go_iinc4 (c1 := 1) dX10_operand_50 rfl rfl ?_
        refine go_aloadn dX10_operand_53 rfl ?_
        refine sg_cVi (M' := mX10_isGood) ([]) dX10_operand_54 lX10_161 vX10_isGood (mo_L rfl) (by decide) rfl hS (ig1 _) rfl (Nat.le_of_ble_eq_true rfl) (Nat.zero_le _) (Nat.zero_le _) ?_
        refine go_if_ne (tgt := 63) dX10_operand_57 (by decide) (fun c57 => absurd rfl c57) (fun c57 => ?_)
        refine go_goto (tgt := 18) dX10_operand_60 (by decide) ?_
        skip
        have hS := S1
        refine go_aloadn dX10_operand_18 rfl ?_
        refine sg_cVi (M' := mX10_isGood) ([]) dX10_operand_19 lX10_161 vX10_isGood (mo_L rfl) (by decide) rfl hS (ig1 _) rfl (Nat.le_of_ble_eq_true rfl) (Nat.zero_le _) (Nat.zero_le _) ?_
        refine go_if_eq (tgt := 75) dX10_operand_22 (by decide) (fun c22 => ?_) (fun c22 => absurd rfl c22)
        refine go_aloadn dX10_operand_75 rfl ?_
        refine sg_cVi (M' := mX10_isGood) ([]) dX10_operand_76 lX10_161 vX10_isGood (mo_L rfl) (by decide) rfl hS (ig1 _) rfl (Nat.le_of_ble_eq_true rfl) (Nat.zero_le _) (Nat.zero_le _) ?_
        refine go_if_eq (tgt := 95) dX10_operand_79 (by decide) (fun c79 => ?_) (fun c79 => absurd rfl c79)
        refine go_iconst (v := 0) dX10_operand_95 rfl ?_
        refine go_ist3 dX10_operand_96 rfl ?_
        refine go_iloadn dX10_operand_97 rfl ?_
        refine go_if_eq (tgt := 117) dX10_operand_98 (by decide) (fun c98 => ?_) (fun c98 => absurd rfl c98)
        refine go_goto (tgt := 4) dX10_operand_117 (by decide) ?_
        skip
        refine go_iloadn dX10_operand_4 rfl ?_
        refine go_if_eq (tgt := 120) dX10_operand_5 (by decide) (fun c5 => ?_) (fun c5 => absurd rfl c5)
        exact o120
      · rw [er, if_neg y] at finS
        have vq : uQ (rstP b n sh U) = 0 := by rw [er, if_neg y]; rfl
        obtain ⟨v1, v2⟩ := uv_P V hA hd vq
        rw [er, if_neg y] at v1 v2
        have wf := fun d => q_waitsFor (l := l) (d := d) (y := 3) hS H.1 (by omega)
        have P := H.push (o := 3)
        rw [show maN 3 = 3 from rfl] at P
        have F1 : Fz (fun a k => (a = 77 ∧ k = 33) ∨ a = 88) g (uI (uI g 88 (uW U).length 3) 77 33 (nI ((uW U).length + 1))) := (Fz.rf.uI (by omega)).uI (by omega)
        have fin : ∀ g1, g1 = uI (uI g 88 (uW U).length 3) 77 33 (nI ((uW U).length + 1)) → Go l (rmOf (d + 5) (0, 0)) mX10_operand (hN h) (Zm (0, 0) (fun v h1 => v = none ∧ OPm h h1 b n sh tp cl A U0) noX) 68 [some (.ref 77), some (.int x1), some (.int (nI (uM U))), some (.int 1), some (.int (nI (uC U + 1)))] [] g1 0 0 := by
          intro g1 hg
          rw [← hg] at F1 P
          have hS := F1.St hS
          have R1 := R.fz F1 (fun k hk => by omega) (fun k => by omega)
          refine go_aloadn dX10_operand_68 rfl ?_
          refine sg_rV0 (M' := mX10_goes) ([]) dX10_operand_69 lX10_165 vX10_goes (mo_L rfl) (by decide) rfl hS (q_goesR hS R1) rfl (Nat.le_of_ble_eq_true rfl) (Nat.zero_le _) (Nat.zero_le _) (fun g2 G => ?_)
          refine go_goto (tgt := 18) dX10_operand_72 (by decide) ?_
          exact ih (ruGo b n U ((uD U, uE U, uC U + 1, uM U), 3 :: uW U, uP U)) g2 (by omega) rfl hd v1 E5 finS (by omega) G.2 ⟨P.fj G.1, by rw [G.1.I (by unfold SGr; omega), F1.I (by omega)]; exact h34, (show hI g2 90 (uE U + 1) = nI (hsT (3 :: uW U)) by rw [G.1.I (by unfold SGr; omega), F1.I (by omega), h90]; rfl), tb_cong (fun j _ => by rw [G.1.I (by unfold SGr; omega), F1.I (by omega)]) (show TBl (hI g 90) (3 :: uW U) (uE U + 1) from hTB)⟩ (F.tr ((F1.j.sub (fun a k q => by unfold Sxm; omega)).tr (G.1.sub (fun _ _ q => Or.inl q))))
        rw [z.1] at fin ⊢
        refine go_aloadn dX10_operand_18 rfl ?_
        refine sg_cVi (M' := mX10_isGood) ([]) dX10_operand_19 lX10_161 vX10_isGood (mo_L rfl) (by decide) rfl hS (ig _) rfl (Nat.le_of_ble_eq_true rfl) (Nat.zero_le _) (Nat.zero_le _) ?_
        refine go_if_eq (tgt := 75) dX10_operand_22 (by decide) (fun c22 => absurd c22 (by decide)) (fun c22 => ?_)
        refine go_iloadn dX10_operand_25 rfl ?_
        refine go_if_eq (tgt := 75) dX10_operand_26 (by decide) (fun c26 => absurd c26 (by decide)) (fun c26 => ?_)
        refine go_aloadn dX10_operand_29 rfl ?_
        refine sg_cVi (M' := mX10_knownWord) ([]) dX10_operand_30 lX10_186 vX10_knownWord (mo_L rfl) (by decide) rfl hS (kw _) rfl (Nat.le_of_ble_eq_true rfl) (Nat.zero_le _) (Nat.zero_le _) ?_
        refine go_bipush (v := 19) dX10_operand_33 rfl ?_
        refine go_icmp_ne (tgt := 75) dX10_operand_35 (by decide) (fun c35 => absurd rfl c35) (fun c35 => ?_)
        refine go_iload dX10_operand_38 rfl ?_
        refine go_bipush (v := 6) dX10_operand_40 rfl ?_
        refine go_icmp_ne (tgt := 50) dX10_operand_42 (by decide) (fun c42 => ?_) (fun c42 => absurd ((nI_eq (b := 6) (by omega) (by decide)).mp c42) (by omega))
        refine go_iinc4 (c1 := 1) dX10_operand_50 rfl rfl ?_
        rw [nI_1]
        refine go_aloadn dX10_operand_53 rfl ?_
        refine sg_cVi (M' := mX10_isGood) ([]) dX10_operand_54 lX10_161 vX10_isGood (mo_L rfl) (by decide) rfl hS (ig _) rfl (Nat.le_of_ble_eq_true rfl) (Nat.zero_le _) (Nat.zero_le _) ?_
        refine go_if_ne (tgt := 63) dX10_operand_57 (by decide) (fun c57 => ?_) (fun c57 => absurd c57 (by decide))
        refine go_aloadn dX10_operand_63 rfl ?_
        refine go_iconst (v := 3) dX10_operand_64 rfl ?_
        refine sg_cV0 (M' := mX10_waitsFor) ([.int 3]) dX10_operand_65 lX10_202 vX10_waitsFor (mo_L rfl) (by decide) rfl hS (wf _) rfl (Nat.le_of_ble_eq_true rfl) (Nat.zero_le _) (Nat.zero_le _) ?_
        exact fin _ rfl
    · -- no further not
      have go75 : Go l (rmOf (d + 5) (0, 0)) mX10_operand (hN h) (Zm (0, 0) (fun v h1 => v = none ∧ OPm h h1 b n sh tp cl A U0) noX) 75 [some (.ref 77), some (.int x1), some (.int (nI (uM U))), some (.int 1), some (.int (nI (uC U)))] [] g 0 0 := by
        by_cases y : tkK b n (uS U) = 3 ∧ b (uS U) = 40
        · rw [if_pos y] at isg
          have sn := tk3 (b := b) (n := n) (s := uS U) (by omega)
          have er : rstP b n sh U = ruGo b n U ((uD U, uE U + 1, 0, 1), 0 :: uW U, uP U) := by
            unfold rstP; rw [if_pos (Or.inr (Or.inr y)), if_neg (by omega), if_neg (by omega), if_neg (by omega)]
          have vq : uQ (rstP b n sh U) = 0 := by rw [er]; rfl
          obtain ⟨v1, v2⟩ := uv_P V hA hd vq
          rw [er] at v1 v2 finS
          have wf := fun d => q_waitsFor (l := l) (d := d) (y := 14) hS H.1 (by omega)
          have P := H.push (o := 0)
          rw [show maN 0 = 14 from rfl] at P
          have F1 : Fz (fun a k => (a = 77 ∧ k = 33) ∨ a = 88) g (uI (uI g 88 (uW U).length 14) 77 33 (nI ((uW U).length + 1))) := (Fz.rf.uI (by omega)).uI (by omega)
          have fin : ∀ g1, g1 = uI (uI g 88 (uW U).length 14) 77 33 (nI ((uW U).length + 1)) → Go l (rmOf (d + 5) (0, 0)) mX10_operand (hN h) (Zm (0, 0) (fun v h1 => v = none ∧ OPm h h1 b n sh tp cl A U0) noX) 107 [some (.ref 77), some (.int x1), some (.int (nI (uM U))), some (.int 1), some (.int (nI (uC U)))] [] g1 0 0 := by
            intro g1 hg
            rw [← hg] at F1 P
            have hS := F1.St hS
            have R1 := R.fz F1 (fun k hk => by omega) (fun k => by omega)
            refine go_aloadn dX10_operand_107 rfl ?_
            refine sg_rV0 (M' := mX10_goes) ([]) dX10_operand_108 lX10_165 vX10_goes (mo_L rfl) (by decide) rfl hS (q_goesR hS R1) rfl (Nat.le_of_ble_eq_true rfl) (Nat.zero_le _) (Nat.zero_le _) (fun g2 G => ?_)
            skip
            have S2 := G.1.St hS
            have e34 : hI g2 77 34 = nI (uE U + 1) := by rw [G.1.I (by unfold SGr; omega), F1.I (by omega)]; exact h34
            have F2 : Fj (Sxm tp) h g2 := F.tr ((F1.j.sub (fun a k q => by unfold Sxm; omega)).tr (G.1.sub (fun _ _ q => Or.inl q)))
            have P2 := P.fj G.1
            have hS := S2
            by_cases e5 : uE U = 5
            · rw [e5] at e34
              have dpF' := fun d => q_deeperF (l := l) (d := d) hS e34 G.2
              generalize hkk : (if tkK b n (nx b n (uS U)) = 2 ∨ tkK b n (nx b n (uS U)) = 1 ∨ (tkK b n (nx b n (uS U)) = 3 ∧ b (nx b n (uS U)) = 40) then 2 else 1) = kk at dpF'
              have kk2 : 0 < kk ∧ kk ≤ 2 := by rw [← hkk]; split <;> omega
              have W := G.2.wr (y := kk) kk2.1 (by omega)
              rw [wrF, if_pos rfl] at W
              have fin2 : ruFin b n sh (ruFl (ruGo b n U ((uD U, uE U + 1, 0, 1), 0 :: uW U, uP U)) kk) = ruFin b n sh U0 := by
                have er2 : rst b n sh (ruGo b n U ((uD U, uE U + 1, 0, 1), 0 :: uW U, uP U)) = ruFl (ruGo b n U ((uD U, uE U + 1, 0, 1), 0 :: uW U, uP U)) kk := by
                  rw [rst_P (U := ruGo b n U ((uD U, uE U + 1, 0, 1), 0 :: uW U, uP U)) rfl hd]
                  unfold rstP
                  have ee : 6 ≤ uE (ruGo b n U ((uD U, uE U + 1, 0, 1), 0 :: uW U, uP U)) := by show 6 ≤ uE U + 1; omega
                  rw [if_pos ee, ← hkk]
                  by_cases q : tkK b n (nx b n (uS U)) = 2 ∨ tkK b n (nx b n (uS U)) = 1 ∨ (tkK b n (nx b n (uS U)) = 3 ∧ b (nx b n (uS U)) = 40)
                  · rw [if_pos (show tkK b n (uS (ruGo b n U ((uD U, uE U + 1, 0, 1), 0 :: uW U, uP U))) = 2 ∨ tkK b n (uS (ruGo b n U ((uD U, uE U + 1, 0, 1), 0 :: uW U, uP U))) = 1 ∨ (tkK b n (uS (ruGo b n U ((uD U, uE U + 1, 0, 1), 0 :: uW U, uP U))) = 3 ∧ b (uS (ruGo b n U ((uD U, uE U + 1, 0, 1), 0 :: uW U, uP U))) = 40) from q), if_pos q]
                  · rw [if_neg (show ¬ (tkK b n (uS (ruGo b n U ((uD U, uE U + 1, 0, 1), 0 :: uW U, uP U))) = 2 ∨ tkK b n (uS (ruGo b n U ((uD U, uE U + 1, 0, 1), 0 :: uW U, uP U))) = 1 ∨ (tkK b n (uS (ruGo b n U ((uD U, uE U + 1, 0, 1), 0 :: uW U, uP U))) = 3 ∧ b (uS (ruGo b n U ((uD U, uE U + 1, 0, 1), 0 :: uW U, uP U))) = 40)) from q), if_neg q]
                rw [← er2]; exact fin_s.trans finS
              generalize wrH g2 (nI kk) = g3 at *
              have S3 := W.2.St hS
              have bad : ¬ hI g3 77 13 = 0 := fun q => absurd (W.1.good.mp q) (show ¬ kk = 0 by omega)
              have ig1 := fun d => q_isGood (l := l) (d := d) S3
              rw [if_neg bad] at ig1
              have v11 := v1.1
              have o120 := out120 g3 kk (nx b n (uS U)) 1 1 (nI (uC U)) kk2.1 ⟨ruFl (ruGo b n U ((uD U, uE U + 1, 0, 1), 0 :: uW U, uP U)) kk, fin2, rfl, rfl, rfl⟩ ⟨_, W.1⟩ (F2.tr (W.2.j.sub (fun _ _ q => Or.inl q))) ⟨0 :: uW U, uP U, P2.fz0 W.2, fun o ho => by rcases List.mem_cons.mp ho with q | q; omega; exact w9 o q, by rw [List.length_cons]; omega, by rw [List.length_cons]; have := nx_le (b := b) a1; omega⟩
              refine go_aloadn dX10_operand_111 rfl ?_
              refine sg_cV0 (M' := mX10_deeper) ([]) dX10_operand_112 lX10_205 vX10_deeper (mo_L rfl) (by decide) rfl hS (dpF' _) rfl (Nat.le_of_ble_eq_true rfl) (Nat.zero_le _) (Nat.zero_le _) ?_
              have hS := S3
              refine go_iconst (v := 1) dX10_operand_115 rfl ?_
              refine go_ist2 dX10_operand_116 rfl ?_
              refine go_goto (tgt := 4) dX10_operand_117 (by decide) ?_
              skip
              have hS := S3
              refine go_iloadn dX10_operand_4 rfl ?_
              refine go_if_eq (tgt := 120) dX10_operand_5 (by decide) (fun c5 => absurd c5 (by decide)) (fun c5 => ?_)
              refine go_aloadn dX10_operand_8 rfl ?_
              refine sg_cVi (M' := mX10_isGood) ([]) dX10_operand_9 lX10_161 vX10_isGood (mo_L rfl) (by decide) rfl hS (ig1 _) rfl (Nat.le_of_ble_eq_true rfl) (Nat.zero_le _) (Nat.zero_le _) ?_
              refine go_if_eq (tgt := 120) dX10_operand_12 (by decide) (fun c12 => ?_) (fun c12 => absurd rfl c12)
              exact o120
            · have dp := fun d => q_deeper (l := l) (d := d) hS e34 (by omega)
              have F3 : Fz (fun a k => (a = 77 ∧ k = 34) ∨ (a = 90 ∧ k = uE U + 1 + 1)) g2 (uI (uI g2 77 34 (nI (uE U + 1 + 1))) 90 (uE U + 1 + 1) 0) := (Fz.rf.uI (by omega)).uI (by omega)
              have w1 : hI (uI (uI g2 77 34 (nI (uE U + 1 + 1))) 90 (uE U + 1 + 1) 0) 77 34 = nI (uE U + 1 + 1) := by rw [hI_uI_ne (by omega), hI_uI_eq]
              have w2 : hI (uI (uI g2 77 34 (nI (uE U + 1 + 1))) 90 (uE U + 1 + 1) 0) 90 (uE U + 1 + 1) = 0 := hI_uI_eq
              generalize uI (uI g2 77 34 (nI (uE U + 1 + 1))) 90 (uE U + 1 + 1) 0 = g3 at *
              have S3 := F3.St hS
              have R3 := G.2.fz F3 (fun k hk => by omega) (fun k => by omega)
              have H3 : SKm g3 tp (0 :: uW U) (uP U) := ⟨by rw [F3.I (by omega)]; exact P2.1, fun i hi => by rw [F3.I (by omega)]; exact P2.2.1 i hi, by rw [F3.I (by omega)]; exact P2.2.2.1, fun j hj => by rw [F3.I (by omega), F3.I (by omega)]; exact P2.2.2.2 j hj⟩
              have gd3 : hI g3 77 13 = 0 := R3.good.mpr rfl
              have ig1 := fun d => q_isGood (l := l) (d := d) S3
              rw [if_pos gd3] at ig1
              have e90 : ∀ j, ¬ j = uE U + 1 + 1 → hI g3 90 j = hI g 90 j := fun j hj => by rw [F3.I (by omega), G.1.I (by unfold SGr; omega), F1.I (by omega)]
              have M3 : MU g3 tp (ruGo b n U ((uD U, uE U + 1, 0, 1), 0 :: uW U, uP U)) := by
                refine ⟨H3, w1, w2, ?_⟩
                show TBl (hI g3 90) (0 :: uW U) (uE U + 1 + 1)
                rw [tb_c, if_pos rfl]
                refine ⟨by omega, ?_, ?_⟩
                · rw [show uE U + 1 + 1 - 1 = uE U + 1 by omega, e90 _ (by omega)]; exact h90
                · rw [show uE U + 1 + 1 - 1 = uE U + 1 by omega]
                  exact tb_cong (fun j hj => e90 j (by omega)) hTB
              have nxt := ih (ruGo b n U ((uD U, uE U + 1, 0, 1), 0 :: uW U, uP U)) g3 (by omega) rfl hd v1 (by show uE U + 1 ≤ 5; omega) finS (by omega) R3 M3 (F2.tr (F3.j.sub (fun a k q => by unfold Sxm; omega)))
              refine go_aloadn dX10_operand_111 rfl ?_
              refine sg_cV0 (M' := mX10_deeper) ([]) dX10_operand_112 lX10_205 vX10_deeper (mo_L rfl) (by decide) rfl hS (dp _) rfl (Nat.le_of_ble_eq_true rfl) (Nat.zero_le _) (Nat.zero_le _) ?_
              have hS := S3
              refine go_iconst (v := 1) dX10_operand_115 rfl ?_
              refine go_ist2 dX10_operand_116 rfl ?_
              refine go_goto (tgt := 4) dX10_operand_117 (by decide) ?_
              skip
              have hS := S3
              refine go_iloadn dX10_operand_4 rfl ?_
              refine go_if_eq (tgt := 120) dX10_operand_5 (by decide) (fun c5 => absurd c5 (by decide)) (fun c5 => ?_)
              refine go_aloadn dX10_operand_8 rfl ?_
              refine sg_cVi (M' := mX10_isGood) ([]) dX10_operand_9 lX10_161 vX10_isGood (mo_L rfl) (by decide) rfl hS (ig1 _) rfl (Nat.le_of_ble_eq_true rfl) (Nat.zero_le _) (Nat.zero_le _) ?_
              refine go_if_eq (tgt := 120) dX10_operand_12 (by decide) (fun c12 => absurd c12 (by decide)) (fun c12 => ?_)
              refine go_iconst (v := 0) dX10_operand_15 rfl ?_
              refine go_ist4 dX10_operand_16 rfl ?_
              exact nxt
          refine go_aloadn dX10_operand_75 rfl ?_
          refine sg_cVi (M' := mX10_isGood) ([]) dX10_operand_76 lX10_161 vX10_isGood (mo_L rfl) (by decide) rfl hS (ig _) rfl (Nat.le_of_ble_eq_true rfl) (Nat.zero_le _) (Nat.zero_le _) ?_
          refine go_if_eq (tgt := 95) dX10_operand_79 (by decide) (fun c79 => absurd c79 (by decide)) (fun c79 => ?_)
          refine go_aloadn dX10_operand_82 rfl ?_
          refine go_bipush (v := 40) dX10_operand_83 rfl ?_
          refine sg_cVi (M' := mX10_isSign) ([.int (nI 40)]) dX10_operand_85 lX10_199 vX10_isSign (mo_L rfl) (by decide) rfl hS (isg _) rfl (Nat.le_of_ble_eq_true rfl) (Nat.zero_le _) (Nat.zero_le _) ?_
          refine go_if_eq (tgt := 95) dX10_operand_88 (by decide) (fun c88 => absurd c88 (by decide)) (fun c88 => ?_)
          refine go_iconst (v := 1) dX10_operand_91 rfl ?_
          refine go_goto (tgt := 96) dX10_operand_92 (by decide) ?_
          refine go_ist3 dX10_operand_96 rfl ?_
          refine go_iloadn dX10_operand_97 rfl ?_
          refine go_if_eq (tgt := 117) dX10_operand_98 (by decide) (fun c98 => absurd c98 (by decide)) (fun c98 => ?_)
          refine go_aloadn dX10_operand_101 rfl ?_
          refine go_bipush (v := 14) dX10_operand_102 rfl ?_
          refine sg_cV0 (M' := mX10_waitsFor) ([.int 14]) dX10_operand_104 lX10_202 vX10_waitsFor (mo_L rfl) (by decide) rfl hS (wf _) rfl (Nat.le_of_ble_eq_true rfl) (Nat.zero_le _) (Nat.zero_le _) ?_
          exact fin _ rfl
        · rw [if_neg y] at isg
          have bt : tp + mpF (uP U) (uP U).1 + 2 ≤ 1400 := by omega
          have pt := fun d => q_part (l := l) (d := d) hS R H hsh f1' f2' bt E5 y z
          have go120 : ∀ v2 v3 v4, Go l (rmOf (d + 5) (0, 0)) mX10_operand (hN h) (Zm (0, 0) (fun v h1 => v = none ∧ OPm h h1 b n sh tp cl A U0) noX) 120 [some (.ref 77), some (.int x1), some (.int v2), some (.int v3), some (.int v4)] [] g 0 0 := by
            intro v2 v3 v4
            have post : ∀ g2, PPm g g2 b n tp U (rstP b n sh U) → OPm h g2 b n sh tp cl A U0 := by
              intro g2 P
              obtain ⟨P1, P2, P3, P4, P5⟩ := P
              refine ⟨F.tr P1, rstP b n sh U, finS, ?_⟩
              by_cases x : uQ (rstP b n sh U) = 0
              · obtain ⟨Q1, Q2⟩ := P4 x
                obtain ⟨v1, v2⟩ := uv_P V hA hd x
                have hd0 : uD (rstP b n sh U) = 0 ∧ uE (rstP b n sh U) = uE U ∧ uW (rstP b n sh U) = uW U := by
                  unfold rstP at x ⊢
                  by_cases a1 : tkK b n (uS U) = 2 ∨ tkK b n (uS U) = 1 ∨ (tkK b n (uS U) = 3 ∧ b (uS U) = 40)
                  · rw [if_pos a1, if_neg (by omega)] at x ⊢
                    by_cases a3 : tkK b n (uS U) = 2
                    · rw [if_pos a3] at x ⊢
                      by_cases a4 : ftF b n (uS U) = 0
                      · rw [if_pos a4]; exact ⟨rfl, rfl, rfl⟩
                      · rw [if_neg a4] at x; exact absurd x (show ¬ (2 : Nat) = 0 by decide)
                    · rw [if_neg a3] at x ⊢
                      by_cases a5 : tkK b n (uS U) = 1
                      · rw [if_pos a5] at x ⊢
                        unfold rstW at x ⊢
                        rw [if_neg z] at x ⊢
                        by_cases a7 : vlA sh (kwN b n (uS U))
                        · rw [if_pos a7]; exact ⟨rfl, rfl, rfl⟩
                        · rw [if_neg a7] at x; exact absurd x (show ¬ (2 : Nat) = 0 by decide)
                      · exact absurd (a1.resolve_left a3 |>.resolve_left a5) y
                  · rw [if_neg a1] at x; exact absurd x (show ¬ (2 : Nat) = 0 by decide)
                obtain ⟨c1, c2, c3⟩ := hd0
                refine Or.inl ⟨x, c1, v1, by omega, by omega, Q1, Q2, ?_, ?_, ?_⟩
                · rw [P2 34 (by omega) (by omega), c2]; exact h34
                · rw [P3, c2, c3]; exact h90
                · rw [c2, c3]; exact tb_cong (fun j _ => P3 j) hTB
              · obtain ⟨Q1, p, Q2, Q3⟩ := P5 x
                obtain ⟨u1, u2⟩ := uy_P x
                obtain ⟨s1, s2⟩ := sf_P x
                have ub : tp + mpF p p.1 + (uW U).length + 1 ≤ 1400 := by
                  by_cases e : tkK b n (uS U) = 0
                  · rw [if_pos e] at Q3; omega
                  · rw [if_neg e] at Q3
                    have := tk3 (b := b) (n := n) (s := uS U) e
                    omega
                exact Or.inr ⟨u1, ⟨uS U, by rw [s1]; exact Q1⟩, uW U, p, Q2, w9, by omega, ub⟩
            refine go_aloadn dX10_operand_120 rfl ?_
            refine sg_rV0 (M' := mX10_part) ([]) dX10_operand_121 lX10_208 vX10_part (mo_L rfl) (by decide) rfl hS (pt _) rfl (Nat.le_of_ble_eq_true rfl) (Nat.zero_le _) (Nat.zero_le _) (fun g2 P => ?_)
            refine go_return dX10_operand_124 rfl (Nat.zero_le _) (Nat.zero_le _) ?_
            exact ⟨rfl, post g2 P⟩
          refine go_aloadn dX10_operand_75 rfl ?_
          refine sg_cVi (M' := mX10_isGood) ([]) dX10_operand_76 lX10_161 vX10_isGood (mo_L rfl) (by decide) rfl hS (ig _) rfl (Nat.le_of_ble_eq_true rfl) (Nat.zero_le _) (Nat.zero_le _) ?_
          refine go_if_eq (tgt := 95) dX10_operand_79 (by decide) (fun c79 => absurd c79 (by decide)) (fun c79 => ?_)
          refine go_aloadn dX10_operand_82 rfl ?_
          refine go_bipush (v := 40) dX10_operand_83 rfl ?_
          refine sg_cVi (M' := mX10_isSign) ([.int (nI 40)]) dX10_operand_85 lX10_199 vX10_isSign (mo_L rfl) (by decide) rfl hS (isg _) rfl (Nat.le_of_ble_eq_true rfl) (Nat.zero_le _) (Nat.zero_le _) ?_
          refine go_if_eq (tgt := 95) dX10_operand_88 (by decide) (fun c88 => ?_) (fun c88 => absurd rfl c88)
          refine go_iconst (v := 0) dX10_operand_95 rfl ?_
          refine go_ist3 dX10_operand_96 rfl ?_
          refine go_iloadn dX10_operand_97 rfl ?_
          refine go_if_eq (tgt := 117) dX10_operand_98 (by decide) (fun c98 => ?_) (fun c98 => absurd rfl c98)
          refine go_goto (tgt := 4) dX10_operand_117 (by decide) ?_
          skip
          refine go_iloadn dX10_operand_4 rfl ?_
          refine go_if_eq (tgt := 120) dX10_operand_5 (by decide) (fun c5 => ?_) (fun c5 => absurd rfl c5)
          exact go120 _ _ _
      by_cases y : uM U = 1
      · have kz : ¬ kwN b n (uS U) = 19 := fun q => z ⟨y, q⟩
        have k19 : ¬ (if kwN b n (uS U) = 20 then (-1 : Int32) else nI (kwN b n (uS U))) = 19 := by
          by_cases q : kwN b n (uS U) = 20
          · rw [if_pos q]; decide
          · rw [if_neg q]; exact fun e => kz ((nI_eq (b := 19) (by omega) (by decide)).mp e)
        rw [y] at go75 ⊢
        refine go_aloadn dX10_operand_18 rfl ?_
        refine sg_cVi (M' := mX10_isGood) ([]) dX10_operand_19 lX10_161 vX10_isGood (mo_L rfl) (by decide) rfl hS (ig _) rfl (Nat.le_of_ble_eq_true rfl) (Nat.zero_le _) (Nat.zero_le _) ?_
        refine go_if_eq (tgt := 75) dX10_operand_22 (by decide) (fun c22 => absurd c22 (by decide)) (fun c22 => ?_)
        refine go_iloadn dX10_operand_25 rfl ?_
        refine go_if_eq (tgt := 75) dX10_operand_26 (by decide) (fun c26 => absurd c26 (by decide)) (fun c26 => ?_)
        refine go_aloadn dX10_operand_29 rfl ?_
        refine sg_cVi (M' := mX10_knownWord) ([]) dX10_operand_30 lX10_186 vX10_knownWord (mo_L rfl) (by decide) rfl hS (kw _) rfl (Nat.le_of_ble_eq_true rfl) (Nat.zero_le _) (Nat.zero_le _) ?_
        refine go_bipush (v := 19) dX10_operand_33 rfl ?_
        refine go_icmp_ne (tgt := 75) dX10_operand_35 (by decide) (fun c35 => ?_) (fun c35 => absurd c35 k19)
        exact go75
      · have y0 : uM U = 0 := by omega
        rw [y0] at go75 ⊢
        refine go_aloadn dX10_operand_18 rfl ?_
        refine sg_cVi (M' := mX10_isGood) ([]) dX10_operand_19 lX10_161 vX10_isGood (mo_L rfl) (by decide) rfl hS (ig _) rfl (Nat.le_of_ble_eq_true rfl) (Nat.zero_le _) (Nat.zero_le _) ?_
        refine go_if_eq (tgt := 75) dX10_operand_22 (by decide) (fun c22 => absurd c22 (by decide)) (fun c22 => ?_)
        refine go_iloadn dX10_operand_25 rfl ?_
        refine go_if_eq (tgt := 75) dX10_operand_26 (by decide) (fun c26 => ?_) (fun c26 => absurd rfl c26)
        exact go75
