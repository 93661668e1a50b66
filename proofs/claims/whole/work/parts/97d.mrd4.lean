/-! the model's reader: one of so many -/
def onF (b : Nat → Nat) (n s m : Nat) : Nat := if tkK b n s = 2 then (if 4 < tkE b n s - s then 2 else if m ≤ nvT b n s then 3 else 0) else 1
theorem q_isOneOf {l : Launch} {d n s m : Nat} {b : Nat → Nat} {f : Nat × Nat} {h : Hp} (hS : St h) (R : RM h b n s f) (hm : m ≤ 100) : Ey l (d + 3) mX10_isOneOf [.ref 77, .int (nI m)] h (some (.int (if f.1 = 0 ∧ onF b n s m = 0 then 1 else 0))) (fun g => Fj SGr h g ∧ RM g b n s (if f.1 = 0 ∧ ¬ onF b n s m = 0 then (onF b n s m, s) else f)) := by
  refine run_lv [some (.ref 77), some (.int (nI m))] (go := ?_)
  have gd := R.good
  have n7 := R.1.2.1
  have sn := R.2.2.1
  have te := tkE_le (b := b) sn
  have k5 := tkK_lt (b := b) (n := n) (s := s)
  have e18 := R.2.1.2.1
  have e20 := R.2.1.2.2.2.1
  have e21 := R.val
  by_cases z : f.1 = 0
  · by_cases k2 : tkK b n s = 2
    · have nl := nvT_lt k2
      rw [k2] at e18
      rw [if_pos k2] at e21
      by_cases b4 : 4 < tkE b n s - s
      · have nf : onF b n s m = 2 := by unfold onF; rw [if_pos k2, if_pos b4]
        rw [nf, if_neg (fun q => absurd q.2 (by decide)), if_pos ⟨z, by decide⟩]
        have W := R.wr (y := 2) (by decide) (by decide)
        rw [wrF, if_pos z] at W
        have S2 := W.2.St hS
        have g2 : ¬ hI (wrH h (nI 2)) 77 13 = 0 := fun q => absurd (W.1.good.mp q) (show ¬ (2 : Nat) = 0 by decide)
        have r2 := fun d => q_wrong (l := l) (d := d) (y := nI 2) hS
        generalize wrH h (nI 2) = w at *
        refine go_aloadn dX10_isOneOf_0 rfl ?_
        refine sg_cVi (M' := mX10_isGood) ([]) dX10_isOneOf_1 lX10_161 vX10_isGood (mo_L rfl) (by decide) rfl hS (q_isGood hS) rfl (Nat.le_of_ble_eq_true rfl) (Nat.zero_le _) (Nat.zero_le _) ?_
        rw [if_pos (gd.mpr z)]
        refine go_if_ne (tgt := 9) dX10_isOneOf_4 (by decide) (fun c4 => ?_) (fun c4 => absurd c4 (by decide))
        refine go_aloadn dX10_isOneOf_9 rfl ?_
        refine sg_getI dX10_isOneOf_10 fX10_135 rfl (mo_L rfl) hS ?_
        refine go_iconst (v := 2) dX10_isOneOf_13 rfl ?_
        rw [e18]
        refine go_icmp_eq (tgt := 25) dX10_isOneOf_14 (by decide) (fun c14 => ?_) (fun c14 => absurd rfl c14)
        refine go_aloadn dX10_isOneOf_25 rfl ?_
        refine sg_getI dX10_isOneOf_26 fX10_145 rfl (mo_L rfl) hS ?_
        refine go_iconst (v := 4) dX10_isOneOf_29 rfl ?_
        rw [e20]
        refine go_icmp_le (tgt := 41) dX10_isOneOf_30 (by decide) (fun c30 => absurd c30 (Int32.not_le.mpr (nI_lt (a := 4) b4 (by omega)))) (fun c30 => ?_)
        refine go_aloadn dX10_isOneOf_33 rfl ?_
        refine go_iconst (v := 2) dX10_isOneOf_34 rfl ?_
        refine sg_cV0 (M' := mX10_wrong) ([.int (nI 2)]) dX10_isOneOf_35 lX10_168 vX10_wrong (mo_L rfl) (by decide) rfl hS (r2 _) rfl (Nat.le_of_ble_eq_true rfl) (Nat.zero_le _) (Nat.zero_le _) ?_
        refine go_goto (tgt := 54) dX10_isOneOf_38 (by decide) ?_
        have hS := S2
        refine go_aloadn dX10_isOneOf_54 rfl ?_
        refine sg_cVi (M' := mX10_isGood) ([]) dX10_isOneOf_55 lX10_161 vX10_isGood (mo_L rfl) (by decide) rfl hS (q_isGood S2) rfl (Nat.le_of_ble_eq_true rfl) (Nat.zero_le _) (Nat.zero_le _) ?_
        rw [if_neg g2]
        refine go_ireturn dX10_isOneOf_58 rfl rfl (Nat.zero_le _) (Nat.zero_le _) ?_
        exact ⟨rfl, W.2.j, W.1⟩
      · by_cases bm : m ≤ nvT b n s
        · have nf : onF b n s m = 3 := by unfold onF; rw [if_pos k2, if_neg b4, if_pos bm]
          rw [nf, if_neg (fun q => absurd q.2 (by decide)), if_pos ⟨z, by decide⟩]
          have W := R.wr (y := 3) (by decide) (by decide)
          rw [wrF, if_pos z] at W
          have S2 := W.2.St hS
          have g2 : ¬ hI (wrH h (nI 3)) 77 13 = 0 := fun q => absurd (W.1.good.mp q) (show ¬ (3 : Nat) = 0 by decide)
          have r2 := fun d => q_wrong (l := l) (d := d) (y := nI 3) hS
          generalize wrH h (nI 3) = w at *
          refine go_aloadn dX10_isOneOf_0 rfl ?_
          refine sg_cVi (M' := mX10_isGood) ([]) dX10_isOneOf_1 lX10_161 vX10_isGood (mo_L rfl) (by decide) rfl hS (q_isGood hS) rfl (Nat.le_of_ble_eq_true rfl) (Nat.zero_le _) (Nat.zero_le _) ?_
          rw [if_pos (gd.mpr z)]
          refine go_if_ne (tgt := 9) dX10_isOneOf_4 (by decide) (fun c4 => ?_) (fun c4 => absurd c4 (by decide))
          refine go_aloadn dX10_isOneOf_9 rfl ?_
          refine sg_getI dX10_isOneOf_10 fX10_135 rfl (mo_L rfl) hS ?_
          refine go_iconst (v := 2) dX10_isOneOf_13 rfl ?_
          rw [e18]
          refine go_icmp_eq (tgt := 25) dX10_isOneOf_14 (by decide) (fun c14 => ?_) (fun c14 => absurd rfl c14)
          refine go_aloadn dX10_isOneOf_25 rfl ?_
          refine sg_getI dX10_isOneOf_26 fX10_145 rfl (mo_L rfl) hS ?_
          refine go_iconst (v := 4) dX10_isOneOf_29 rfl ?_
          rw [e20]
          refine go_icmp_le (tgt := 41) dX10_isOneOf_30 (by decide) (fun c30 => ?_) (fun c30 => absurd (nI_le (b := 4) (by omega) (by decide)) c30)
          refine go_aloadn dX10_isOneOf_41 rfl ?_
          refine sg_getI dX10_isOneOf_42 fX10_129 rfl (mo_L rfl) hS ?_
          refine go_iloadn dX10_isOneOf_45 rfl ?_
          rw [e21]
          refine go_icmp_lt (tgt := 54) dX10_isOneOf_46 (by decide) (fun c46 => absurd c46 (nI_nlt bm (by omega))) (fun c46 => ?_)
          refine go_aloadn dX10_isOneOf_49 rfl ?_
          refine go_iconst (v := 3) dX10_isOneOf_50 rfl ?_
          refine sg_cV0 (M' := mX10_wrong) ([.int (nI 3)]) dX10_isOneOf_51 lX10_168 vX10_wrong (mo_L rfl) (by decide) rfl hS (r2 _) rfl (Nat.le_of_ble_eq_true rfl) (Nat.zero_le _) (Nat.zero_le _) ?_
          have hS := S2
          refine go_aloadn dX10_isOneOf_54 rfl ?_
          refine sg_cVi (M' := mX10_isGood) ([]) dX10_isOneOf_55 lX10_161 vX10_isGood (mo_L rfl) (by decide) rfl hS (q_isGood S2) rfl (Nat.le_of_ble_eq_true rfl) (Nat.zero_le _) (Nat.zero_le _) ?_
          rw [if_neg g2]
          refine go_ireturn dX10_isOneOf_58 rfl rfl (Nat.zero_le _) (Nat.zero_le _) ?_
          exact ⟨rfl, W.2.j, W.1⟩
        · have nf : onF b n s m = 0 := by unfold onF; rw [if_pos k2, if_neg b4, if_neg bm]
          rw [nf, if_pos ⟨z, rfl⟩, if_neg (fun q => q.2 rfl)]
          refine go_aloadn dX10_isOneOf_0 rfl ?_
          refine sg_cVi (M' := mX10_isGood) ([]) dX10_isOneOf_1 lX10_161 vX10_isGood (mo_L rfl) (by decide) rfl hS (q_isGood hS) rfl (Nat.le_of_ble_eq_true rfl) (Nat.zero_le _) (Nat.zero_le _) ?_
          rw [if_pos (gd.mpr z)]
          refine go_if_ne (tgt := 9) dX10_isOneOf_4 (by decide) (fun c4 => ?_) (fun c4 => absurd c4 (by decide))
          refine go_aloadn dX10_isOneOf_9 rfl ?_
          refine sg_getI dX10_isOneOf_10 fX10_135 rfl (mo_L rfl) hS ?_
          refine go_iconst (v := 2) dX10_isOneOf_13 rfl ?_
          rw [e18]
          refine go_icmp_eq (tgt := 25) dX10_isOneOf_14 (by decide) (fun c14 => ?_) (fun c14 => absurd rfl c14)
          refine go_aloadn dX10_isOneOf_25 rfl ?_
          refine sg_getI dX10_isOneOf_26 fX10_145 rfl (mo_L rfl) hS ?_
          refine go_iconst (v := 4) dX10_isOneOf_29 rfl ?_
          rw [e20]
          refine go_icmp_le (tgt := 41) dX10_isOneOf_30 (by decide) (fun c30 => ?_) (fun c30 => absurd (nI_le (b := 4) (by omega) (by decide)) c30)
          refine go_aloadn dX10_isOneOf_41 rfl ?_
          refine sg_getI dX10_isOneOf_42 fX10_129 rfl (mo_L rfl) hS ?_
          refine go_iloadn dX10_isOneOf_45 rfl ?_
          rw [e21]
          refine go_icmp_lt (tgt := 54) dX10_isOneOf_46 (by decide) (fun c46 => ?_) (fun c46 => absurd (nI_lt (by omega) (by omega)) c46)
          refine go_aloadn dX10_isOneOf_54 rfl ?_
          refine sg_cVi (M' := mX10_isGood) ([]) dX10_isOneOf_55 lX10_161 vX10_isGood (mo_L rfl) (by decide) rfl hS (q_isGood hS) rfl (Nat.le_of_ble_eq_true rfl) (Nat.zero_le _) (Nat.zero_le _) ?_
          rw [if_pos (gd.mpr z)]
          refine go_ireturn dX10_isOneOf_58 rfl rfl (Nat.zero_le _) (Nat.zero_le _) ?_
          exact ⟨rfl, Fj.rf, R⟩
    · have nf : onF b n s m = 1 := by unfold onF; rw [if_neg k2]
      rw [nf, if_neg (fun q => absurd q.2 (by decide)), if_pos ⟨z, by decide⟩]
      have W := R.wr (y := 1) (by decide) (by decide)
      rw [wrF, if_pos z] at W
      have S2 := W.2.St hS
      have g2 : ¬ hI (wrH h (nI 1)) 77 13 = 0 := fun q => absurd (W.1.good.mp q) (show ¬ (1 : Nat) = 0 by decide)
      have r2 := fun d => q_wrong (l := l) (d := d) (y := nI 1) hS
      generalize wrH h (nI 1) = w at *
      refine go_aloadn dX10_isOneOf_0 rfl ?_
      refine sg_cVi (M' := mX10_isGood) ([]) dX10_isOneOf_1 lX10_161 vX10_isGood (mo_L rfl) (by decide) rfl hS (q_isGood hS) rfl (Nat.le_of_ble_eq_true rfl) (Nat.zero_le _) (Nat.zero_le _) ?_
      rw [if_pos (gd.mpr z)]
      refine go_if_ne (tgt := 9) dX10_isOneOf_4 (by decide) (fun c4 => ?_) (fun c4 => absurd c4 (by decide))
      refine go_aloadn dX10_isOneOf_9 rfl ?_
      refine sg_getI dX10_isOneOf_10 fX10_135 rfl (mo_L rfl) hS ?_
      refine go_iconst (v := 2) dX10_isOneOf_13 rfl ?_
      rw [e18]
      refine go_icmp_eq (tgt := 25) dX10_isOneOf_14 (by decide) (fun c14 => absurd ((nI_eq (b := 2) (by omega) (by decide)).mp c14) k2) (fun c14 => ?_)
      refine go_aloadn dX10_isOneOf_17 rfl ?_
      refine go_iconst (v := 1) dX10_isOneOf_18 rfl ?_
      refine sg_cV0 (M' := mX10_wrong) ([.int (nI 1)]) dX10_isOneOf_19 lX10_168 vX10_wrong (mo_L rfl) (by decide) rfl hS (r2 _) rfl (Nat.le_of_ble_eq_true rfl) (Nat.zero_le _) (Nat.zero_le _) ?_
      refine go_goto (tgt := 54) dX10_isOneOf_22 (by decide) ?_
      have hS := S2
      refine go_aloadn dX10_isOneOf_54 rfl ?_
      refine sg_cVi (M' := mX10_isGood) ([]) dX10_isOneOf_55 lX10_161 vX10_isGood (mo_L rfl) (by decide) rfl hS (q_isGood S2) rfl (Nat.le_of_ble_eq_true rfl) (Nat.zero_le _) (Nat.zero_le _) ?_
      rw [if_neg g2]
      refine go_ireturn dX10_isOneOf_58 rfl rfl (Nat.zero_le _) (Nat.zero_le _) ?_
      exact ⟨rfl, W.2.j, W.1⟩
  · rw [if_neg (fun q => z q.1), if_neg (fun q => z q.1)]
    refine go_aloadn dX10_isOneOf_0 rfl ?_
    refine sg_cVi (M' := mX10_isGood) ([]) dX10_isOneOf_1 lX10_161 vX10_isGood (mo_L rfl) (by decide) rfl hS (q_isGood hS) rfl (Nat.le_of_ble_eq_true rfl) (Nat.zero_le _) (Nat.zero_le _) ?_
    rw [if_neg (fun q => z (gd.mp q))]
    refine go_if_ne (tgt := 9) dX10_isOneOf_4 (by decide) (fun c4 => absurd rfl c4) (fun c4 => ?_)
    refine go_iconst (v := 0) dX10_isOneOf_7 rfl ?_
    refine go_ireturn dX10_isOneOf_8 rfl rfl (Nat.zero_le _) (Nat.zero_le _) ?_
    exact ⟨rfl, Fj.rf, R⟩
