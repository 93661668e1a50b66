/-! rules: behind a part -/
theorem op_bd : ∀ o : Fin 10, 0 < o.val → 0 < bdN o.val ∧ bdN o.val ≤ 6 ∧ tgO o.val ≤ 6 ∧ max (tgO o.val) 1 = tgO o.val ∧ bndV o.val = nI (bdN o.val) := by decide +kernel
theorem r_behindPart {l : Launch} {d n c cl : Nat} {b : Nat → Nat} {h : Hp} {U : Ru} (hS : St h) (R : RC h b n (uS U)) (hc : CityAt c) (hC : hR h 3 7 = some c) (K : KU h c cl U) (B : UB n cl U) (hz : 0 < uE U → 0 < (uW U).length) : Ey l (d + 7) mX3_behindPart [.ref 3] h (some (.int (if uQ (rstB b n U) = 0 then 1 else 0))) (fun g => PRu h g c cl (rstB b n U)) := by
  refine run_lv [some (.ref 3), none, none] (go := ?_)
  have hc' := at_c hc
  have cls := fun d => r_close (l := l) (d := d) hS R hc hC K B hz
  have opr := fun d => r_operatorRead (l := l) (d := d) hS R
  have isg := fun d => r_isSign (l := l) (d := d) (c := 41) hS R (by decide)
  obtain ⟨H, e14, e15, e16, e17⟩ := K
  obtain ⟨b1, b2, b3, b4, b5, b6, b7, b8, b9⟩ := B
  have q0 : ∀ x, uQ (ruGo b n U x) = 0 := fun x => rfl
  have q2 : ∀ y, ¬ uQ (ruFl U y) = 0 := fun y => by show ¬ (2 : Nat) = 0; decide
  unfold rstB
  by_cases z : tkK b n (uS U) = 3 ∧ b (uS U) = 41
  · rw [if_pos z]
    rw [if_pos z] at isg
    by_cases y : uE U = 0
    · rw [if_pos y, if_neg (q2 _)]
      rw [if_pos y, if_pos y] at cls
      refine go_aloadn dX3_behindPart_0 rfl ?_
      refine go_bipush (v := 41) dX3_behindPart_1 rfl ?_
      refine sg_cVi (M' := mX3_isSign) ([.int (nI 41)]) dX3_behindPart_3 lX3_134 vX3_isSign (rd_L rfl) (by decide) rfl hS (isg _) rfl (Nat.le_of_ble_eq_true rfl) (Nat.zero_le _) (Nat.zero_le _) ?_
      refine go_if_eq (tgt := 14) dX3_behindPart_6 (by decide) (fun c6 => absurd c6 (by decide)) (fun c6 => ?_)
      refine go_aloadn dX3_behindPart_9 rfl ?_
      refine sg_rVi (M' := mX3_close) ([]) dX3_behindPart_10 lX3_267 vX3_close (rd_L rfl) (by decide) rfl hS (cls _) rfl (Nat.le_of_ble_eq_true rfl) (Nat.zero_le _) (Nat.zero_le _) (fun g2 G => ?_)
      refine go_ireturn dX3_behindPart_13 rfl rfl (Nat.zero_le _) (Nat.zero_le _) ?_
      exact ⟨rfl, G⟩
    · rw [if_neg y, if_pos (q0 _)]
      rw [if_neg y, if_neg y] at cls
      refine go_aloadn dX3_behindPart_0 rfl ?_
      refine go_bipush (v := 41) dX3_behindPart_1 rfl ?_
      refine sg_cVi (M' := mX3_isSign) ([.int (nI 41)]) dX3_behindPart_3 lX3_134 vX3_isSign (rd_L rfl) (by decide) rfl hS (isg _) rfl (Nat.le_of_ble_eq_true rfl) (Nat.zero_le _) (Nat.zero_le _) ?_
      refine go_if_eq (tgt := 14) dX3_behindPart_6 (by decide) (fun c6 => absurd c6 (by decide)) (fun c6 => ?_)
      refine go_aloadn dX3_behindPart_9 rfl ?_
      refine sg_rVi (M' := mX3_close) ([]) dX3_behindPart_10 lX3_267 vX3_close (rd_L rfl) (by decide) rfl hS (cls _) rfl (Nat.le_of_ble_eq_true rfl) (Nat.zero_le _) (Nat.zero_le _) (fun g2 G => ?_)
      refine go_ireturn dX3_behindPart_13 rfl rfl (Nat.zero_le _) (Nat.zero_le _) ?_
      exact ⟨rfl, G⟩
  · rw [if_neg z]
    rw [if_neg z] at isg
    have ol := op_le (b := b) (n := n) (s := uS U)
    by_cases y : opF b n (uS U) = 0
    · rw [if_pos y, if_neg (q2 _)]
      rw [if_pos y] at opr
      refine go_aloadn dX3_behindPart_0 rfl ?_
      refine go_bipush (v := 41) dX3_behindPart_1 rfl ?_
      refine sg_cVi (M' := mX3_isSign) ([.int (nI 41)]) dX3_behindPart_3 lX3_134 vX3_isSign (rd_L rfl) (by decide) rfl hS (isg _) rfl (Nat.le_of_ble_eq_true rfl) (Nat.zero_le _) (Nat.zero_le _) ?_
      refine go_if_eq (tgt := 14) dX3_behindPart_6 (by decide) (fun c6 => ?_) (fun c6 => absurd rfl c6)
      refine go_aloadn dX3_behindPart_14 rfl ?_
      refine sg_cVi (M' := mX3_operatorRead) ([]) dX3_behindPart_15 lX3_270 vX3_operatorRead (rd_L rfl) (by decide) rfl hS (opr _) rfl (Nat.le_of_ble_eq_true rfl) (Nat.zero_le _) (Nat.zero_le _) ?_
      refine go_ist1 dX3_behindPart_18 rfl ?_
      refine go_iloadn dX3_behindPart_19 rfl ?_
      refine go_iconst (v := -1) dX3_behindPart_20 rfl ?_
      refine go_icmp_ne (tgt := 30) dX3_behindPart_21 (by decide) (fun c21 => absurd rfl c21) (fun c21 => ?_)
      refine go_aloadn dX3_behindPart_24 rfl ?_
      refine go_iconst (v := 1) dX3_behindPart_25 rfl ?_
      refine sg_cVi (M' := mX3_fail) ([.int (nI 1)]) dX3_behindPart_26 lX3_131 vX3_fail (rd_L rfl) (by decide) rfl hS (r_failR hS R (by decide)) rfl (Nat.le_of_ble_eq_true rfl) (Nat.zero_le _) (Nat.zero_le _) ?_
      refine go_ireturn dX3_behindPart_29 rfl rfl (Nat.zero_le _) (Nat.zero_le _) ?_
      exact ⟨rfl, pr_fl Fz.rf (by decide)⟩
    · rw [if_neg y]
      rw [if_neg y] at opr
      have nt : tkK b n (uS U) = 1 ∨ tkK b n (uS U) = 3 := by
        unfold opF at y
        by_cases k1 : tkK b n (uS U) = 1
        · exact Or.inl k1
        · rw [if_neg k1] at y
          by_cases k3 : tkK b n (uS U) = 3
          · exact Or.inr k3
          · rw [if_neg k3] at y; exact absurd rfl y
      generalize opF b n (uS U) = o at *
      obtain ⟨o1, o2, o3, o4, o5⟩ := op_bd ⟨o, by omega⟩ (by show 0 < o; omega)
      dsimp only at o1 o2 o3 o4 o5
      have pt := fun d => r_putTighter (l := l) (d := d) (m := tgO o) hS hc hC H b5 (by omega) (by omega) o3
      rw [o4] at pt
      have pl := (popW_le (m := tgO o) (uW U) (uP U)).1
      have pm := fun x => popW_mem (m := tgO o) (x := x) (uW U) (uP U)
      have pk := popW_len (m := tgO o) (uW U) (uP U)
      have t45 : bdN o = 4 → tgO o = 5 := fun q => by unfold tgO; rw [if_pos q]
      have t46 : ¬ bdN o = 4 → tgO o = bdN o := fun q => by unfold tgO; rw [if_neg q]
      have ex4 : nI (bdN o) = 4 ↔ bdN o = 4 := nI_eq (b := 4) (by omega) (by decide)
      generalize hY : (if bdN o = 4 ∧ topB (popW 5 (uW U) (uP U)).1 = 4 then ruFl U 1 else ruGo b n U ((1, uE U, 0, if o ≤ 2 then 1 else 0), o :: (popW (tgO o) (uW U) (uP U)).1, (popW (tgO o) (uW U) (uP U)).2)) = Y
      have go71 : ∀ g, Fz (Spt c cl) h g ∧ SKc g c cl (popW (tgO o) (uW U) (uP U)).1 (popW (tgO o) (uW U) (uP U)).2 → ¬ (bdN o = 4 ∧ topB (popW 5 (uW U) (uP U)).1 = 4) → Go l (rmOf (d + 7) (0, 0)) mX3_behindPart (hN h) (Zm (0, 0) (fun v0 h1 => v0 = some (.int (if uQ Y = 0 then 1 else 0)) ∧ PRu h h1 c cl Y) noX) 71 [some (.ref 3), some (.int (nI o)), some (.int (nI (bdN o)))] [] g 0 0 := by
        intro g G nf
        rw [if_neg nf] at hY
        rw [← hY, if_pos (q0 _)]
        have hS := G.1.St hS
        have go97 : ∀ v : Int32, v = nI (if o ≤ 2 then 1 else 0) → Go l (rmOf (d + 7) (0, 0)) mX3_behindPart (hN h) (Zm (0, 0) (fun v0 h1 => v0 = some (.int 1) ∧ PRu h h1 c cl (ruGo b n U ((1, uE U, 0, if o ≤ 2 then 1 else 0), o :: (popW (tgO o) (uW U) (uP U)).1, (popW (tgO o) (uW U) (uP U)).2))) noX) 97 [some (.ref 3), some (.int (nI o)), some (.int (nI (bdN o)))] [.int v, .ref 3] (uI (uI g 3 16 1) 3 15 0) 0 0 := by
          intro v hv
          have F1 : Fz (fun a k => a = 3 ∧ (k = 15 ∨ k = 16 ∨ k = 17)) g (uI (uI (uI g 3 16 1) 3 15 0) 3 17 v) := ((Fz.rf.uI ⟨rfl, Or.inr (Or.inl rfl)⟩).uI ⟨rfl, Or.inl rfl⟩).uI ⟨rfl, Or.inr (Or.inr rfl)⟩
          have w1 : hI (uI (uI (uI g 3 16 1) 3 15 0) 3 17 v) 3 15 = 0 := by rw [hI_uI_ne (by omega), hI_uI_eq]
          have w2 : hI (uI (uI (uI g 3 16 1) 3 15 0) 3 17 v) 3 16 = 1 := by rw [hI_uI_ne (by omega), hI_uI_ne (by omega), hI_uI_eq]
          have w3 : hI (uI (uI (uI g 3 16 1) 3 15 0) 3 17 v) 3 17 = v := hI_uI_eq
          refine sg_putZ dX3_behindPart_97 fX3_230 rfl rfl (rd_L rfl) hS (by rw [hv]; by_cases q : o ≤ 2; rw [if_pos q]; exact Or.inr rfl; rw [if_neg q]; exact Or.inl rfl) ?_
          skip
          generalize uI (uI (uI g 3 16 1) 3 15 0) 3 17 v = g1 at *
          have hS := F1.St hS
          have H2 := G.2.fz F1 (by omega) (fun k => by omega) (by omega) (fun k => by omega)
          refine go_aloadn dX3_behindPart_100 rfl ?_
          refine go_iloadn dX3_behindPart_101 rfl ?_
          refine sg_rVi (M' := mX3_await) ([.int (nI o)]) dX3_behindPart_102 lX3_239 vX3_await (rd_L rfl) (by decide) rfl hS (r_await (c := c) (cl := cl) hS H2 (by omega) hc') rfl (Nat.le_of_ble_eq_true rfl) (Nat.zero_le _) (Nat.zero_le _) (fun g2 A => ?_)
          refine go_ireturn dX3_behindPart_105 rfl rfl (Nat.zero_le _) (Nat.zero_le _) ?_
          exact ⟨rfl, pr_ok ((G.1.sub (fun a k q => by unfold Spt at q; unfold Sr; omega)).tr ((F1.sub (fun a k q => by unfold Sr; omega)).tr (A.1.sub (fun a k q => by unfold Sr; omega)))) ⟨A.2, by rw [A.1.I (by omega), F1.I (by omega), G.1.I (by unfold Spt; omega)]; exact e14, by rw [A.1.I (by omega), w1]; rfl, by rw [A.1.I (by omega), w2]; rfl, by rw [A.1.I (by omega), w3]; exact hv⟩ rfl⟩
        have eo1 : nI o = 1 ↔ o = 1 := nI_eq (b := 1) (by omega) (by decide)
        have eo2 : nI o = 2 ↔ o = 2 := nI_eq (b := 2) (by omega) (by decide)
        refine go_aloadn dX3_behindPart_71 rfl ?_
        refine go_iconst (v := 1) dX3_behindPart_72 rfl ?_
        refine sg_putZ dX3_behindPart_73 fX3_203 rfl rfl (rd_L rfl) hS (Or.inr rfl) ?_
        refine go_aloadn dX3_behindPart_76 rfl ?_
        refine go_iconst (v := 0) dX3_behindPart_77 rfl ?_
        refine sg_putI dX3_behindPart_78 fX3_227 rfl rfl (rd_L rfl) hS ?_
        refine go_aloadn dX3_behindPart_81 rfl ?_
        refine go_iloadn dX3_behindPart_82 rfl ?_
        refine go_iconst (v := 1) dX3_behindPart_83 rfl ?_
        refine go_icmp_eq (tgt := 92) dX3_behindPart_84 (by decide) (fun c84 => ?_) (fun c84 => ?_)
        · refine go_iconst (v := 1) dX3_behindPart_92 rfl ?_
          refine go_goto (tgt := 97) dX3_behindPart_93 (by decide) ?_
          first | exact go97 _ (by rw [if_pos (by have := eo1.mp c84; omega)]; rfl) | exact go97 _ (by rw [if_pos (by have := eo2.mp c89; omega)]; rfl) | exact go97 _ (by rw [if_neg (by have h1 : ¬ o = 1 := fun q => c84 (eo1.mpr q); have h2 : ¬ o = 2 := fun q => c89 (eo2.mpr q); omega)]; rfl)
        · refine go_iloadn dX3_behindPart_87 rfl ?_
          refine go_iconst (v := 2) dX3_behindPart_88 rfl ?_
          refine go_icmp_ne (tgt := 96) dX3_behindPart_89 (by decide) (fun c89 => ?_) (fun c89 => ?_)
          · refine go_iconst (v := 0) dX3_behindPart_96 rfl ?_
            first | exact go97 _ (by rw [if_pos (by have := eo1.mp c84; omega)]; rfl) | exact go97 _ (by rw [if_pos (by have := eo2.mp c89; omega)]; rfl) | exact go97 _ (by rw [if_neg (by have h1 : ¬ o = 1 := fun q => c84 (eo1.mpr q); have h2 : ¬ o = 2 := fun q => c89 (eo2.mpr q); omega)]; rfl)
          · refine go_iconst (v := 1) dX3_behindPart_92 rfl ?_
            refine go_goto (tgt := 97) dX3_behindPart_93 (by decide) ?_
            first | exact go97 _ (by rw [if_pos (by have := eo1.mp c84; omega)]; rfl) | exact go97 _ (by rw [if_pos (by have := eo2.mp c89; omega)]; rfl) | exact go97 _ (by rw [if_neg (by have h1 : ¬ o = 1 := fun q => c84 (eo1.mpr q); have h2 : ¬ o = 2 := fun q => c89 (eo2.mpr q); omega)]; rfl)
      have go52 : ∀ g, Fz (Spt c cl) h g ∧ SKc g c cl (popW (tgO o) (uW U) (uP U)).1 (popW (tgO o) (uW U) (uP U)).2 → Go l (rmOf (d + 7) (0, 0)) mX3_behindPart (hN h) (Zm (0, 0) (fun v0 h1 => v0 = some (.int (if uQ Y = 0 then 1 else 0)) ∧ PRu h h1 c cl Y) noX) 52 [some (.ref 3), some (.int (nI o)), some (.int (nI (bdN o)))] [] g 0 0 := by
        intro g G
        have hS := G.1.St hS
        by_cases x : bdN o = 4
        · have t5 := t45 x
          have bt := fun d => r_bindingOnTop (l := l) (d := d) hS G.2 (fun x hx => b5 x (pm x hx)) (by omega)
          have bl : topB (popW (tgO o) (uW U) (uP U)).1 ≤ 6 := by
            unfold topB
            generalize hWW : (popW (tgO o) (uW U) (uP U)).1 = WW at pm
            cases WW with
            | nil => show bdN 0 ≤ 6; decide
            | cons a t => exact (bnd_n ⟨a, by have := b5 a (pm a (by simp)); omega⟩).2.1
          by_cases w : topB (popW 5 (uW U) (uP U)).1 = 4
          · rw [if_pos ⟨x, w⟩] at hY
            rw [← hY, if_neg (q2 _)]
            rw [t5, w] at bt
            have R2 := R.fz G.1 (fun k => by unfold Spt; omega) (fun k hk => by unfold Spt; omega)
            refine go_iloadn dX3_behindPart_52 rfl ?_
            refine go_iconst (v := 4) dX3_behindPart_53 rfl ?_
            refine go_icmp_ne (tgt := 71) dX3_behindPart_54 (by decide) (fun c54 => absurd (ex4.mpr x) c54) (fun c54 => ?_)
            refine go_aloadn dX3_behindPart_57 rfl ?_
            refine sg_cVi (M' := mX3_bindingOnTop) ([]) dX3_behindPart_58 lX3_276 vX3_bindingOnTop (rd_L rfl) (by decide) rfl hS (bt _) rfl (Nat.le_of_ble_eq_true rfl) (Nat.zero_le _) (Nat.zero_le _) ?_
            refine go_iloadn dX3_behindPart_61 rfl ?_
            refine go_icmp_ne (tgt := 71) dX3_behindPart_62 (by decide) (fun c62 => absurd (by rw [x]) c62) (fun c62 => ?_)
            refine go_aloadn dX3_behindPart_65 rfl ?_
            refine go_iconst (v := 1) dX3_behindPart_66 rfl ?_
            refine sg_cVi (M' := mX3_fail) ([.int (nI 1)]) dX3_behindPart_67 lX3_131 vX3_fail (rd_L rfl) (by decide) rfl hS (r_failR hS R2 (by decide)) rfl (Nat.le_of_ble_eq_true rfl) (Nat.zero_le _) (Nat.zero_le _) ?_
            refine go_ireturn dX3_behindPart_70 rfl rfl (Nat.zero_le _) (Nat.zero_le _) ?_
            exact ⟨rfl, pr_fl (G.1.sub (fun a k q => by unfold Spt at q; unfold Scy; omega)) (by decide)⟩
          · have go := go71 g G (fun q => w q.2)
            rw [t5] at bl
            rw [t5] at bt
            refine go_iloadn dX3_behindPart_52 rfl ?_
            refine go_iconst (v := 4) dX3_behindPart_53 rfl ?_
            refine go_icmp_ne (tgt := 71) dX3_behindPart_54 (by decide) (fun c54 => absurd (ex4.mpr x) c54) (fun c54 => ?_)
            refine go_aloadn dX3_behindPart_57 rfl ?_
            refine sg_cVi (M' := mX3_bindingOnTop) ([]) dX3_behindPart_58 lX3_276 vX3_bindingOnTop (rd_L rfl) (by decide) rfl hS (bt _) rfl (Nat.le_of_ble_eq_true rfl) (Nat.zero_le _) (Nat.zero_le _) ?_
            refine go_iloadn dX3_behindPart_61 rfl ?_
            refine go_icmp_ne (tgt := 71) dX3_behindPart_62 (by decide) (fun c62 => ?_) (fun c62 => absurd (((nI_eq (by omega) (by omega)).mp c62).trans x) w)
            exact go
        · have go := go71 g G (fun q => x q.1)
          refine go_iloadn dX3_behindPart_52 rfl ?_
          refine go_iconst (v := 4) dX3_behindPart_53 rfl ?_
          refine go_icmp_ne (tgt := 71) dX3_behindPart_54 (by decide) (fun c54 => ?_) (fun c54 => absurd (ex4.mp c54) x)
          exact go
      have go49 : Go l (rmOf (d + 7) (0, 0)) mX3_behindPart (hN h) (Zm (0, 0) (fun v0 h1 => v0 = some (.int (if uQ Y = 0 then 1 else 0)) ∧ PRu h h1 c cl Y) noX) 49 [some (.ref 3), some (.int (nI o)), some (.int (nI (bdN o)))] [.int (nI (tgO o)), .ref 3] h 0 0 := by
        refine sg_rV0 (M' := mX3_putTighter) ([.int (nI (tgO o))]) dX3_behindPart_49 lX3_216 vX3_putTighter (rd_L rfl) (by decide) rfl hS (pt _) rfl (Nat.le_of_ble_eq_true rfl) (Nat.zero_le _) (Nat.zero_le _) (fun g2 G => ?_)
        exact go52 g2 G
      refine go_aloadn dX3_behindPart_0 rfl ?_
      refine go_bipush (v := 41) dX3_behindPart_1 rfl ?_
      refine sg_cVi (M' := mX3_isSign) ([.int (nI 41)]) dX3_behindPart_3 lX3_134 vX3_isSign (rd_L rfl) (by decide) rfl hS (isg _) rfl (Nat.le_of_ble_eq_true rfl) (Nat.zero_le _) (Nat.zero_le _) ?_
      refine go_if_eq (tgt := 14) dX3_behindPart_6 (by decide) (fun c6 => ?_) (fun c6 => absurd rfl c6)
      refine go_aloadn dX3_behindPart_14 rfl ?_
      refine sg_cVi (M' := mX3_operatorRead) ([]) dX3_behindPart_15 lX3_270 vX3_operatorRead (rd_L rfl) (by decide) rfl hS (opr _) rfl (Nat.le_of_ble_eq_true rfl) (Nat.zero_le _) (Nat.zero_le _) ?_
      refine go_ist1 dX3_behindPart_18 rfl ?_
      refine go_iloadn dX3_behindPart_19 rfl ?_
      refine go_iconst (v := -1) dX3_behindPart_20 rfl ?_
      refine go_icmp_ne (tgt := 30) dX3_behindPart_21 (by decide) (fun c21 => ?_) (fun c21 => absurd c21 (nI_m1 (by omega)))
      refine go_bnd dX3_behindPart_30 fs_bnd ?_
      refine go_iloadn dX3_behindPart_33 rfl ?_
      refine go_bndld dX3_behindPart_34 (vp_in_nI (show o < 10 by omega) (by decide)) ?_
      rw [cl_nI (by omega), o5]
      refine go_ist2 dX3_behindPart_35 rfl ?_
      refine go_aloadn dX3_behindPart_36 rfl ?_
      refine go_iloadn dX3_behindPart_37 rfl ?_
      refine go_iconst (v := 4) dX3_behindPart_38 rfl ?_
      refine go_icmp_ne (tgt := 48) dX3_behindPart_39 (by decide) (fun c39 => ?_) (fun c39 => ?_)
      · refine go_iloadn dX3_behindPart_48 rfl ?_
        first | exact (by rw [t46 (fun q => c39 (ex4.mpr q))] at go49; exact go49) | exact (by have e := ex4.mp c39; rw [t45 e] at go49; rw [e]; rw [e] at go49; exact go49)
      · refine go_iloadn dX3_behindPart_42 rfl ?_
        refine go_iconst (v := 1) dX3_behindPart_43 rfl ?_
        refine go_iadd dX3_behindPart_44 ?_
        refine go_goto (tgt := 49) dX3_behindPart_45 (by decide) ?_
        first | exact (by rw [t46 (fun q => c39 (ex4.mpr q))] at go49; exact go49) | exact (by have e := ex4.mp c39; rw [t45 e] at go49; rw [e]; rw [e] at go49; exact go49)
/-- one step of a rule -/
def rst (b : Nat → Nat) (n sh : Nat) (U : Ru) : Ru :=
  if uQ U = 0 then (if uD U = 0 then (if uE U = 0 ∧ tkK b n (uS U) = 3 ∧ b (uS U) = 59 then ((uS U, 1, 0), U.2.1, popW 1 (uW U) (uP U)) else rstB b n U) else rstP b n sh U) else U
def rfn (b : Nat → Nat) (n sh : Nat) : Nat → Ru → Ru
  | 0, U => U
  | k + 1, U => rfn b n sh k (rst b n sh U)
theorem rst_t {b : Nat → Nat} {n sh : Nat} {U : Ru} (h : ¬ uQ U = 0) : rst b n sh U = U := by unfold rst; rw [if_neg h]
theorem rfn_t {b : Nat → Nat} {n sh : Nat} {U : Ru} (h : ¬ uQ U = 0) : ∀ k, rfn b n sh k U = U
  | 0 => rfl
  | k + 1 => by show rfn b n sh k (rst b n sh U) = U; rw [rst_t h]; exact rfn_t h k
theorem rfn_add {b : Nat → Nat} {n sh : Nat} : ∀ (j k : Nat) (U : Ru), rfn b n sh (j + k) U = rfn b n sh k (rfn b n sh j U)
  | 0, k, U => by rw [Nat.zero_add]; rfl
  | j + 1, k, U => by rw [show j + 1 + k = (j + k) + 1 by omega]; exact rfn_add j k (rst b n sh U)
theorem rfn_u {b : Nat → Nat} {n sh j k : Nat} {U : Ru} (hj : ¬ uQ (rfn b n sh j U) = 0) (hk : ¬ uQ (rfn b n sh k U) = 0) : rfn b n sh j U = rfn b n sh k U := by
  have h1 := rfn_add (b := b) (n := n) (sh := sh) j k U
  have h2 := rfn_add (b := b) (n := n) (sh := sh) k j U
  rw [rfn_t hj] at h1
  rw [rfn_t hk, Nat.add_comm] at h2
  exact h1.symm.trans h2
/-- where a rule comes to its end -/
noncomputable def ruFin (b : Nat → Nat) (n sh : Nat) (U : Ru) : Ru :=
  haveI := Classical.propDecidable (∃ k, ¬ uQ (rfn b n sh k U) = 0)
  if h : ∃ k, ¬ uQ (rfn b n sh k U) = 0 then rfn b n sh (Classical.choose h) U else ((0, 2, 1), (0, 0, 0, 0), [], (0, fun _ => (0, 0)))
theorem fin_of {b : Nat → Nat} {n sh k : Nat} {U : Ru} (h : ¬ uQ (rfn b n sh k U) = 0) : ruFin b n sh U = rfn b n sh k U := by
  have hx : ∃ k, ¬ uQ (rfn b n sh k U) = 0 := ⟨k, h⟩
  unfold ruFin
  rw [dif_pos hx]
  exact rfn_u (Classical.choose_spec hx) h
theorem fin_t {b : Nat → Nat} {n sh : Nat} {U : Ru} (h : ¬ uQ U = 0) : ruFin b n sh U = U := fin_of (k := 0) h
theorem fin_s {b : Nat → Nat} {n sh : Nat} {U : Ru} : ruFin b n sh (rst b n sh U) = ruFin b n sh U := by
  by_cases hx : ∃ k, ¬ uQ (rfn b n sh k U) = 0
  · obtain ⟨k, hk⟩ := hx
    rw [fin_of hk]
    cases k with
    | zero =>
      have hk : ¬ uQ U = 0 := hk
      rw [rst_t hk, fin_t hk]; rfl
    | succ k => exact fin_of (k := k) hk
  · have hy : ¬ ∃ k, ¬ uQ (rfn b n sh k (rst b n sh U)) = 0 := fun ⟨k, q⟩ => hx ⟨k + 1, q⟩
    unfold ruFin
    rw [dif_neg hx, dif_neg hy]
