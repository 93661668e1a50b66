/-! the model's reader: numbers -/
def nvT (b : Nat → Nat) (n s : Nat) : Nat := nvN b s (tkE b n s - s)
theorem nv_le {b : Nat → Nat} {s k : Nat} (h : ∀ j, j < k → isD (b (s + j)) = true) : nvN b s k < 10 ^ min k 4 := by
  induction k with
  | zero => show 0 < 1; decide
  | succ k ih =>
    have i1 := ih (fun j hj => h j (by omega))
    have hc := isD_n (h k (by omega))
    have es : nvN b s (k + 1) = if k < 4 then 10 * nvN b s k + (b (s + k) - 48) else nvN b s k := rfl
    rw [es]
    by_cases z : k < 4
    · rw [if_pos z, show min (k + 1) 4 = k + 1 by omega, Nat.pow_succ]
      rw [show min k 4 = k by omega] at i1
      omega
    · rw [if_neg z, show min (k + 1) 4 = 4 by omega]
      rw [show min k 4 = 4 by omega] at i1
      exact i1
theorem nvT_lt {b : Nat → Nat} {n s : Nat} (h : tkK b n s = 2) : nvT b n s < 10000 := by
  have tE : tkE b n s = spn (fun j => isD (b j)) n s := by
    unfold tkK at h
    unfold tkE
    by_cases a : n ≤ s
    · rw [if_pos a] at h; exact absurd h (by decide)
    · rw [if_neg a] at h ⊢
      by_cases c : isL (b s) = true
      · rw [if_pos c] at h; exact absurd h (by decide)
      · rw [if_neg c] at h ⊢
        by_cases e : isD (b s) = true
        · rw [if_pos e]
        · rw [if_neg e] at h; split at h <;> exact absurd h (by decide)
  unfold nvT
  have := nv_le (b := b) (s := s) (k := tkE b n s - s) (fun j hj => by
    rw [tE] at hj
    exact ((spn_ok (p := fun j => isD (b j)) (n := n) (i := s)).1 (s + j) (by omega) (by omega)).2)
  have p : 10 ^ min (tkE b n s - s) 4 ≤ 10 ^ 4 := Nat.pow_le_pow_right (by decide) (by omega)
  omega
/-- the fault of a number that is wanted within bounds -/
def nmF (b : Nat → Nat) (n s lo hi : Nat) : Nat := if tkK b n s = 2 then (if 4 < tkE b n s - s ∨ nvT b n s < lo ∨ hi < nvT b n s then 2 else 0) else 1
theorem RM.val {h : Hp} {b : Nat → Nat} {n s : Nat} {f : Nat × Nat} (R : RM h b n s f) : hI h 77 21 = (if tkK b n s = 2 then nI (nvT b n s) else 0) := R.2.1.2.2.2.2.1
theorem tkK_lt {b : Nat → Nat} {n s : Nat} : tkK b n s < 5 := by
  unfold tkK; split; decide; split; decide; split; decide; split <;> decide
theorem q_number {l : Launch} {d n s lo hi : Nat} {b : Nat → Nat} {f : Nat × Nat} {h : Hp} (hS : St h) (R : RM h b n s f) (hlo : lo ≤ 100) (hhi : hi ≤ 100) : Ey l (d + 3) mX10_number [.ref 77, .int (nI lo), .int (nI hi)] h (some (.int (if f.1 = 0 ∧ tkK b n s = 2 then nI (nvT b n s) else 0))) (fun g => Fj SGr h g ∧ RM g b n (if f.1 = 0 ∧ nmF b n s lo hi = 0 then nx b n s else s) (if f.1 = 0 ∧ ¬ nmF b n s lo hi = 0 then (nmF b n s lo hi, s) else f)) := by
  refine run_lv [some (.ref 77), some (.int (nI lo)), some (.int (nI hi)), none] (go := ?_)
  have gd := R.good
  have n7 := R.1.2.1
  have sn := R.2.2.1
  have te := tkE_le (b := b) sn
  have k5 := tkK_lt (b := b) (n := n) (s := s)
  have e18 := R.2.1.2.1
  have e20 := R.2.1.2.2.2.1
  have e21 := R.val
  by_cases z : f.1 = 0
  · by_cases k2 : tkK b n s = 2
    · have nl := nvT_lt k2
      rw [k2] at e18
      rw [if_pos k2] at e21
      rw [if_pos ⟨z, k2⟩]
      by_cases bd : 4 < tkE b n s - s ∨ nvT b n s < lo ∨ hi < nvT b n s
      · have nf : nmF b n s lo hi = 2 := by unfold nmF; rw [if_pos k2, if_pos bd]
        rw [nf, if_neg (fun q => absurd q.2 (by decide)), if_pos ⟨z, by decide⟩]
        have W := R.wr (y := 2) (by decide) (by decide)
        rw [wrF, if_pos z] at W
        have S2 := W.2.St hS
        have v2 := W.1.val
        rw [if_pos k2] at v2
        have g2 : ¬ hI (wrH h (nI 2)) 77 13 = 0 := fun q => absurd (W.1.good.mp q) (show ¬ (2 : Nat) = 0 by decide)
        have r2 := fun d => q_wrong (l := l) (d := d) (y := nI 2) hS
        generalize wrH h (nI 2) = w at *
        have e49 : Go l (rmOf (d + 3) (0, 0)) mX10_number (hN h) (Zm (0, 0) (fun v h1 => v = some (.int (nI (nvT b n s))) ∧ Fj SGr h h1 ∧ RM h1 b n s (2, s)) noX) 49 [some (.ref 77), some (.int (nI lo)), some (.int (nI hi)), none] [] h 0 0 := by
          refine go_aloadn dX10_number_49 rfl ?_
          refine go_iconst (v := 2) dX10_number_50 rfl ?_
          refine sg_cV0 (M' := mX10_wrong) ([.int (nI 2)]) dX10_number_51 lX10_168 vX10_wrong (mo_L rfl) (by decide) rfl hS (r2 _) rfl (Nat.le_of_ble_eq_true rfl) (Nat.zero_le _) (Nat.zero_le _) ?_
          have hS := S2
          refine go_aloadn dX10_number_54 rfl ?_
          refine sg_getI dX10_number_55 fX10_129 rfl (mo_L rfl) hS ?_
          rw [v2]
          refine go_ist3 dX10_number_58 rfl ?_
          refine go_aloadn dX10_number_59 rfl ?_
          refine sg_cVi (M' := mX10_isGood) ([]) dX10_number_60 lX10_161 vX10_isGood (mo_L rfl) (by decide) rfl hS (q_isGood hS) rfl (Nat.le_of_ble_eq_true rfl) (Nat.zero_le _) (Nat.zero_le _) ?_
          rw [if_neg g2]
          refine go_if_eq (tgt := 70) dX10_number_63 (by decide) (fun c63 => ?_) (fun c63 => absurd rfl c63)
          refine go_iloadn dX10_number_70 rfl ?_
          refine go_ireturn dX10_number_71 rfl rfl (Nat.zero_le _) (Nat.zero_le _) ?_
          exact ⟨rfl, W.2.j, W.1⟩
        refine go_aloadn dX10_number_0 rfl ?_
        refine sg_cVi (M' := mX10_isGood) ([]) dX10_number_1 lX10_161 vX10_isGood (mo_L rfl) (by decide) rfl hS (q_isGood hS) rfl (Nat.le_of_ble_eq_true rfl) (Nat.zero_le _) (Nat.zero_le _) ?_
        rw [if_pos (gd.mpr z)]
        refine go_if_ne (tgt := 9) dX10_number_4 (by decide) (fun c4 => ?_) (fun c4 => absurd c4 (by decide))
        refine go_aloadn dX10_number_9 rfl ?_
        refine sg_getI dX10_number_10 fX10_135 rfl (mo_L rfl) hS ?_
        refine go_iconst (v := 2) dX10_number_13 rfl ?_
        rw [e18]
        refine go_icmp_eq (tgt := 25) dX10_number_14 (by decide) (fun c14 => ?_) (fun c14 => absurd rfl c14)
        refine go_aloadn dX10_number_25 rfl ?_
        refine sg_getI dX10_number_26 fX10_145 rfl (mo_L rfl) hS ?_
        refine go_iconst (v := 4) dX10_number_29 rfl ?_
        rw [e20]
        refine go_icmp_gt (tgt := 49) dX10_number_30 (by decide) (fun c30 => ?_) (fun c30 => ?_)
        · exact e49
        · refine go_aloadn dX10_number_33 rfl ?_
          refine sg_getI dX10_number_34 fX10_129 rfl (mo_L rfl) hS ?_
          refine go_iloadn dX10_number_37 rfl ?_
          rw [e21]
          refine go_icmp_lt (tgt := 49) dX10_number_38 (by decide) (fun c38 => ?_) (fun c38 => ?_)
          · exact e49
          · refine go_aloadn dX10_number_41 rfl ?_
            refine sg_getI dX10_number_42 fX10_129 rfl (mo_L rfl) hS ?_
            refine go_iloadn dX10_number_45 rfl ?_
            rw [e21]
            refine go_icmp_le (tgt := 54) dX10_number_46 (by decide) (fun c46 => absurd bd (fun q => q.elim (fun q => c30 (nI_lt (a := 4) q (by omega))) (fun q => q.elim (fun q => c38 (nI_lt q (by omega))) (fun q => absurd c46 (Int32.not_le.mpr (nI_lt q (by omega))))))) (fun c46 => ?_)
            exact e49
      · have nf : nmF b n s lo hi = 0 := by unfold nmF; rw [if_pos k2, if_neg bd]
        rw [nf, if_pos ⟨z, rfl⟩, if_neg (fun q => q.2 rfl)]
        refine go_aloadn dX10_number_0 rfl ?_
        refine sg_cVi (M' := mX10_isGood) ([]) dX10_number_1 lX10_161 vX10_isGood (mo_L rfl) (by decide) rfl hS (q_isGood hS) rfl (Nat.le_of_ble_eq_true rfl) (Nat.zero_le _) (Nat.zero_le _) ?_
        rw [if_pos (gd.mpr z)]
        refine go_if_ne (tgt := 9) dX10_number_4 (by decide) (fun c4 => ?_) (fun c4 => absurd c4 (by decide))
        refine go_aloadn dX10_number_9 rfl ?_
        refine sg_getI dX10_number_10 fX10_135 rfl (mo_L rfl) hS ?_
        refine go_iconst (v := 2) dX10_number_13 rfl ?_
        rw [e18]
        refine go_icmp_eq (tgt := 25) dX10_number_14 (by decide) (fun c14 => ?_) (fun c14 => absurd rfl c14)
        refine go_aloadn dX10_number_25 rfl ?_
        refine sg_getI dX10_number_26 fX10_145 rfl (mo_L rfl) hS ?_
        refine go_iconst (v := 4) dX10_number_29 rfl ?_
        rw [e20]
        refine go_icmp_gt (tgt := 49) dX10_number_30 (by decide) (fun c30 => absurd c30 (nI_nlt (a := 4) (by omega) (by omega))) (fun c30 => ?_)
        refine go_aloadn dX10_number_33 rfl ?_
        refine sg_getI dX10_number_34 fX10_129 rfl (mo_L rfl) hS ?_
        refine go_iloadn dX10_number_37 rfl ?_
        rw [e21]
        refine go_icmp_lt (tgt := 49) dX10_number_38 (by decide) (fun c38 => absurd c38 (nI_nlt (by omega) (by omega))) (fun c38 => ?_)
        refine go_aloadn dX10_number_41 rfl ?_
        refine sg_getI dX10_number_42 fX10_129 rfl (mo_L rfl) hS ?_
        refine go_iloadn dX10_number_45 rfl ?_
        rw [e21]
        refine go_icmp_le (tgt := 54) dX10_number_46 (by decide) (fun c46 => ?_) (fun c46 => absurd (nI_le (by omega) (by omega)) c46)
        refine go_aloadn dX10_number_54 rfl ?_
        refine sg_getI dX10_number_55 fX10_129 rfl (mo_L rfl) hS ?_
        rw [e21]
        refine go_ist3 dX10_number_58 rfl ?_
        refine go_aloadn dX10_number_59 rfl ?_
        refine sg_cVi (M' := mX10_isGood) ([]) dX10_number_60 lX10_161 vX10_isGood (mo_L rfl) (by decide) rfl hS (q_isGood hS) rfl (Nat.le_of_ble_eq_true rfl) (Nat.zero_le _) (Nat.zero_le _) ?_
        rw [if_pos (gd.mpr z)]
        refine go_if_eq (tgt := 70) dX10_number_63 (by decide) (fun c63 => absurd c63 (by decide)) (fun c63 => ?_)
        refine go_aloadn dX10_number_66 rfl ?_
        refine sg_rV0 (M' := mX10_goes) ([]) dX10_number_67 lX10_165 vX10_goes (mo_L rfl) (by decide) rfl hS (q_goesR hS R) rfl (Nat.le_of_ble_eq_true rfl) (Nat.zero_le _) (Nat.zero_le _) (fun g F => ?_)
        refine go_iloadn dX10_number_70 rfl ?_
        refine go_ireturn dX10_number_71 rfl rfl (Nat.zero_le _) (Nat.zero_le _) ?_
        exact ⟨rfl, F⟩
    · have nf : nmF b n s lo hi = 1 := by unfold nmF; rw [if_neg k2]
      rw [nf, if_neg (fun q => k2 q.2), if_neg (fun q => absurd q.2 (by decide)), if_pos ⟨z, by decide⟩]
      have W := R.wr (y := 1) (by decide) (by decide)
      rw [wrF, if_pos z] at W
      have S2 := W.2.St hS
      have v2 := W.1.val
      rw [if_neg k2] at v2
      have g2 : ¬ hI (wrH h (nI 1)) 77 13 = 0 := fun q => absurd (W.1.good.mp q) (show ¬ (1 : Nat) = 0 by decide)
      have r2 := fun d => q_wrong (l := l) (d := d) (y := nI 1) hS
      generalize wrH h (nI 1) = w at *
      refine go_aloadn dX10_number_0 rfl ?_
      refine sg_cVi (M' := mX10_isGood) ([]) dX10_number_1 lX10_161 vX10_isGood (mo_L rfl) (by decide) rfl hS (q_isGood hS) rfl (Nat.le_of_ble_eq_true rfl) (Nat.zero_le _) (Nat.zero_le _) ?_
      rw [if_pos (gd.mpr z)]
      refine go_if_ne (tgt := 9) dX10_number_4 (by decide) (fun c4 => ?_) (fun c4 => absurd c4 (by decide))
      refine go_aloadn dX10_number_9 rfl ?_
      refine sg_getI dX10_number_10 fX10_135 rfl (mo_L rfl) hS ?_
      refine go_iconst (v := 2) dX10_number_13 rfl ?_
      rw [e18]
      refine go_icmp_eq (tgt := 25) dX10_number_14 (by decide) (fun c14 => absurd ((nI_eq (b := 2) (by omega) (by decide)).mp c14) k2) (fun c14 => ?_)
      refine go_aloadn dX10_number_17 rfl ?_
      refine go_iconst (v := 1) dX10_number_18 rfl ?_
      refine sg_cV0 (M' := mX10_wrong) ([.int (nI 1)]) dX10_number_19 lX10_168 vX10_wrong (mo_L rfl) (by decide) rfl hS (r2 _) rfl (Nat.le_of_ble_eq_true rfl) (Nat.zero_le _) (Nat.zero_le _) ?_
      have hS := S2
      refine go_goto (tgt := 54) dX10_number_22 (by decide) ?_
      refine go_aloadn dX10_number_54 rfl ?_
      refine sg_getI dX10_number_55 fX10_129 rfl (mo_L rfl) hS ?_
      rw [v2]
      refine go_ist3 dX10_number_58 rfl ?_
      refine go_aloadn dX10_number_59 rfl ?_
      refine sg_cVi (M' := mX10_isGood) ([]) dX10_number_60 lX10_161 vX10_isGood (mo_L rfl) (by decide) rfl hS (q_isGood hS) rfl (Nat.le_of_ble_eq_true rfl) (Nat.zero_le _) (Nat.zero_le _) ?_
      rw [if_neg g2]
      refine go_if_eq (tgt := 70) dX10_number_63 (by decide) (fun c63 => ?_) (fun c63 => absurd rfl c63)
      refine go_iloadn dX10_number_70 rfl ?_
      refine go_ireturn dX10_number_71 rfl rfl (Nat.zero_le _) (Nat.zero_le _) ?_
      exact ⟨rfl, W.2.j, W.1⟩
  · rw [if_neg (fun q => z q.1), if_neg (fun q => z q.1), if_neg (fun q => z q.1)]
    refine go_aloadn dX10_number_0 rfl ?_
    refine sg_cVi (M' := mX10_isGood) ([]) dX10_number_1 lX10_161 vX10_isGood (mo_L rfl) (by decide) rfl hS (q_isGood hS) rfl (Nat.le_of_ble_eq_true rfl) (Nat.zero_le _) (Nat.zero_le _) ?_
    rw [if_neg (fun q => z (gd.mp q))]
    refine go_if_ne (tgt := 9) dX10_number_4 (by decide) (fun c4 => absurd rfl c4) (fun c4 => ?_)
    refine go_iconst (v := 0) dX10_number_7 rfl ?_
    refine go_ireturn dX10_number_8 rfl rfl (Nat.zero_le _) (Nat.zero_le _) ?_
    exact ⟨rfl, Fj.rf, R⟩
