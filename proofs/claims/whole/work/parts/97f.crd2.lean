/-! the class's reader: a number that fits -/
/-- the heap behind a fault y at s, or as it was -/
def fuH (h : Hp) (s y : Nat) : Hp := if y = 0 then h else uI (uI h 3 10 (nI y)) 3 11 (nI s)
def ftF (b : Nat → Nat) (n s : Nat) : Nat := if tkK b n s = 2 then (if 4 < tkE b n s - s then 2 else 0) else 1
theorem r_failR {l : Launch} {d n s y : Nat} {b : Nat → Nat} {h : Hp} (hS : St h) (R : RC h b n s) (hy : 0 < y) : Ex l (d + 1) mX3_fail [.ref 3, .int (nI y)] h (some (.int 0)) (fuH h s y) := by
  have := r_fail (l := l) (d := d) (w := nI y) hS
  rw [R.2.2.1] at this
  rw [fuH, if_neg (by omega)]; exact this
theorem r_isFitNumber {l : Launch} {d n s : Nat} {b : Nat → Nat} {h : Hp} (hS : St h) (R : RC h b n s) : Ex l (d + 2) mX3_isFitNumber [.ref 3] h (some (.int (if ftF b n s = 0 then 1 else 0))) (fuH h s (ftF b n s)) := by
  have n7 := R.1.2.2.1
  have te := tkE_le (b := b) R.2.2.2.2.1
  have r2 := R.2.1
  have k5 := tkK_lt (b := b) (n := n) (s := s)
  refine run_lv [some (.ref 3)] (go := ?_)
  by_cases z : tkK b n s = 2
  · have r6 := (R.2.2.2.2.2 z).2
    rw [z] at r2
    by_cases q : 4 < tkE b n s - s
    · have e : ftF b n s = 2 := by unfold ftF; rw [if_pos z, if_pos q]
      have rf := fun d => r_failR (l := l) (d := d) (y := 2) hS R (by decide)
      rw [e, if_neg (by decide)]
      refine go_aloadn dX3_isFitNumber_0 rfl ?_
      refine sg_getI dX3_isFitNumber_1 fX3_57 rfl (rd_L rfl) hS ?_
      rw [r2]
      refine go_iconst (v := 2) dX3_isFitNumber_4 rfl ?_
      refine go_icmp_eq (tgt := 14) dX3_isFitNumber_5 (by decide) (fun c5 => ?_) (fun c5 => absurd rfl c5)
      refine go_aloadn dX3_isFitNumber_14 rfl ?_
      refine sg_getI dX3_isFitNumber_15 fX3_80 rfl (rd_L rfl) hS ?_
      rw [r6]
      refine go_iconst (v := 4) dX3_isFitNumber_18 rfl ?_
      refine go_icmp_le (tgt := 30) dX3_isFitNumber_19 (by decide) (fun c19 => absurd c19 (Int32.not_le.mpr (nI_lt (a := 4) q (by omega)))) (fun c19 => ?_)
      refine go_aloadn dX3_isFitNumber_22 rfl ?_
      refine go_iconst (v := 2) dX3_isFitNumber_23 rfl ?_
      refine sg_cVi (M' := mX3_fail) ([.int (nI 2)]) dX3_isFitNumber_24 lX3_131 vX3_fail (rd_L rfl) (by decide) rfl hS (rf _) rfl (Nat.le_of_ble_eq_true rfl) (Nat.zero_le _) (Nat.zero_le _) ?_
      refine go_if_eq (tgt := 34) dX3_isFitNumber_27 (by decide) (fun c27 => ?_) (fun c27 => absurd rfl c27)
      refine go_iconst (v := 0) dX3_isFitNumber_34 rfl ?_
      refine go_ireturn dX3_isFitNumber_35 rfl rfl (Nat.zero_le _) (Nat.zero_le _) ?_
      exact ⟨rfl, rfl⟩
    · have e : ftF b n s = 0 := by unfold ftF; rw [if_pos z, if_neg q]
      rw [e, if_pos rfl]
      refine go_aloadn dX3_isFitNumber_0 rfl ?_
      refine sg_getI dX3_isFitNumber_1 fX3_57 rfl (rd_L rfl) hS ?_
      rw [r2]
      refine go_iconst (v := 2) dX3_isFitNumber_4 rfl ?_
      refine go_icmp_eq (tgt := 14) dX3_isFitNumber_5 (by decide) (fun c5 => ?_) (fun c5 => absurd rfl c5)
      refine go_aloadn dX3_isFitNumber_14 rfl ?_
      refine sg_getI dX3_isFitNumber_15 fX3_80 rfl (rd_L rfl) hS ?_
      rw [r6]
      refine go_iconst (v := 4) dX3_isFitNumber_18 rfl ?_
      refine go_icmp_le (tgt := 30) dX3_isFitNumber_19 (by decide) (fun c19 => ?_) (fun c19 => absurd (nI_le (b := 4) (by omega) (by decide)) c19)
      refine go_iconst (v := 1) dX3_isFitNumber_30 rfl ?_
      refine go_goto (tgt := 35) dX3_isFitNumber_31 (by decide) ?_
      refine go_ireturn dX3_isFitNumber_35 rfl rfl (Nat.zero_le _) (Nat.zero_le _) ?_
      exact ⟨rfl, rfl⟩
  · have e : ftF b n s = 1 := by unfold ftF; rw [if_neg z]
    have rf := fun d => r_failR (l := l) (d := d) (y := 1) hS R (by decide)
    rw [e, if_neg (by decide)]
    refine go_aloadn dX3_isFitNumber_0 rfl ?_
    refine sg_getI dX3_isFitNumber_1 fX3_57 rfl (rd_L rfl) hS ?_
    rw [r2]
    refine go_iconst (v := 2) dX3_isFitNumber_4 rfl ?_
    refine go_icmp_eq (tgt := 14) dX3_isFitNumber_5 (by decide) (fun c5 => absurd ((nI_eq (b := 2) (by omega) (by decide)).mp c5) z) (fun c5 => ?_)
    refine go_aloadn dX3_isFitNumber_8 rfl ?_
    refine go_iconst (v := 1) dX3_isFitNumber_9 rfl ?_
    refine sg_cVi (M' := mX3_fail) ([.int (nI 1)]) dX3_isFitNumber_10 lX3_131 vX3_fail (rd_L rfl) (by decide) rfl hS (rf _) rfl (Nat.le_of_ble_eq_true rfl) (Nat.zero_le _) (Nat.zero_le _) ?_
    refine go_ireturn dX3_isFitNumber_13 rfl rfl (Nat.zero_le _) (Nat.zero_le _) ?_
    exact ⟨rfl, rfl⟩
