/-! tokens: numbers, signs -/
def nvN (b : Nat → Nat) (i : Nat) : Nat → Nat := foF (fun j a => if j < 4 then 10 * a + (b (i + j) - 48) else a) 0
theorem dig_n {a c : Nat} (h : 48 ≤ c) : nI a * 10 + nI c - 48 = nI (10 * a + (c - 48)) := by
  have e : nI c = nI (c - 48) + 48 := by
    rw [show (48 : Int32) = nI 48 from rfl, nI_add, show c - 48 + 48 = c by omega]
  rw [e, ← Int32.add_assoc, Int32.add_sub_cancel, show (10 : Int32) = nI 10 from rfl, pk_mul, nI_add, Nat.mul_comm]
theorem isD_n {c : Nat} (h : isD c = true) : 48 ≤ c ∧ c ≤ 57 := by
  unfold isD at h
  rw [Bool.and_eq_true, decide_eq_true_eq, decide_eq_true_eq] at h; exact h
def SN3 (a k : Nat) : Prop := a = 3 ∧ (k = 2 ∨ k = 4 ∨ k = 5 ∨ k = 6)
theorem r_nextNumber {l : Launch} {d n i : Nat} {b : Nat → Nat} {h : Hp} (hS : St h) (H : TX h b n) (he : hI h 3 4 = nI i) (hi : i ≤ n) : Ey l (d + 1) mX3_nextNumber [.ref 3] h none (fun g => Fz SN3 h g ∧ hI g 3 2 = 2 ∧ hI g 3 4 = nI (spn (fun j => isD (b j)) n i) ∧ hI g 3 5 = nI (nvN b i (spn (fun j => isD (b j)) n i - i)) ∧ hI g 3 6 = nI (spn (fun j => isD (b j)) n i - i)) := by
  have n7 := H.2.2.1
  obtain ⟨s1, s2, s3, s4⟩ := spn_ok (p := fun j => isD (b j)) (n := n) (i := i)
  have s4 := s4 hi
  generalize spn (fun j => isD (b j)) n i = e at *
  refine run_lv [some (.ref 3)] (go := ?_)
  refine go_aloadn dX3_nextNumber_0 rfl ?_
  refine go_iconst (v := 2) dX3_nextNumber_1 rfl ?_
  refine sg_putI dX3_nextNumber_2 fX3_57 rfl rfl (rd_L rfl) hS ?_
  refine go_aloadn dX3_nextNumber_5 rfl ?_
  refine go_iconst (v := 0) dX3_nextNumber_6 rfl ?_
  refine sg_putI dX3_nextNumber_7 fX3_77 rfl rfl (rd_L rfl) hS ?_
  refine go_aloadn dX3_nextNumber_10 rfl ?_
  refine go_iconst (v := 0) dX3_nextNumber_11 rfl ?_
  refine sg_putI dX3_nextNumber_12 fX3_80 rfl rfl (rd_L rfl) hS ?_
  refine go_cong (go_loopR (lvf := fun _ => [some (.ref 3)]) (e - i) (fun k g => Fz SN3 h g ∧ hI g 3 2 = 2 ∧ hI g 3 4 = nI (i + k) ∧ hI g 3 5 = nI (nvN b i k) ∧ hI g 3 6 = nI k) (fun k g hk hh ih => ?_) (fun g hh => ?_) 0 (uI (uI (uI h 3 2 2) 3 5 0) 3 6 0) (Nat.zero_le _) ⟨((Fz.rf.uI (by unfold SN3; omega)).uI (by unfold SN3; omega)).uI (by unfold SN3; omega), by rw [hI_uI_ne (by omega), hI_uI_ne (by omega), hI_uI_eq], by rw [hI_uI_ne (by omega), hI_uI_ne (by omega), hI_uI_ne (by omega)]; exact he, by rw [hI_uI_ne (by omega), hI_uI_eq]; rfl, by rw [hI_uI_eq]; rfl⟩) rfl rfl
  · obtain ⟨F, e2, e4, e5, e6⟩ := hh
    have hS := F.St hS
    have H2 := H.fz F (by unfold SN3; exact ⟨by omega, fun k => by omega⟩)
    obtain ⟨k1, k2⟩ := s1 (i + k) (by omega) (by omega)
    obtain ⟨t1, t2⟩ := H2.2.2.2 _ k1
    have kd := isD_n k2
    have k3 := k2
    rw [by_D ⟨_, t2⟩, Bool.and_eq_true, decide_eq_true_eq, decide_eq_true_eq] at k3
    have t3 : hI g 1 (i + k) = nI (b (i + k)) := t1.trans (by_n ⟨_, by omega⟩)
    have es : nvN b i (k + 1) = if k < 4 then 10 * nvN b i k + (b (i + k) - 48) else nvN b i k := rfl
    by_cases z : k < 4
    · rw [if_pos z] at es
      rw [es] at ih
      refine go_aloadn dX3_nextNumber_15 rfl ?_
      refine sg_getI dX3_nextNumber_16 fX3_38 rfl (rd_L rfl) hS ?_
      rw [e4]
      refine go_aloadn dX3_nextNumber_19 rfl ?_
      refine sg_getI dX3_nextNumber_20 fX3_25 rfl (rd_L rfl) hS ?_
      rw [H2.2.1]
      refine go_icmp_ge (tgt := 109) dX3_nextNumber_23 (by decide) (fun c23 => absurd c23 (nI_ge k1 (by omega))) (fun c23 => ?_)
      refine go_aloadn dX3_nextNumber_26 rfl ?_
      refine sg_getR dX3_nextNumber_27 fX3_9 rfl (rd_L rfl) hS H2.1 ?_
      refine go_aloadn dX3_nextNumber_30 rfl ?_
      refine sg_getI dX3_nextNumber_31 fX3_38 rfl (rd_L rfl) hS ?_
      rw [e4]
      refine sg_baldN (i := i + k) (x := byI (b (i + k))) dX3_nextNumber_34 rfl hS (by simp only [lit_nI, nI_add, pk_mul, Nat.add_assoc, Nat.zero_add, Nat.add_zero]) (by omega) (t1) ?_
      refine go_bipush (v := 48) dX3_nextNumber_35 rfl ?_
      refine go_icmp_lt (tgt := 109) dX3_nextNumber_37 (by decide) (fun c37 => absurd c37 (Int32.not_lt.mpr k3.1)) (fun c37 => ?_)
      refine go_aloadn dX3_nextNumber_40 rfl ?_
      refine sg_getR dX3_nextNumber_41 fX3_9 rfl (rd_L rfl) hS H2.1 ?_
      refine go_aloadn dX3_nextNumber_44 rfl ?_
      refine sg_getI dX3_nextNumber_45 fX3_38 rfl (rd_L rfl) hS ?_
      rw [e4]
      refine sg_baldN (i := i + k) (x := byI (b (i + k))) dX3_nextNumber_48 rfl hS (by simp only [lit_nI, nI_add, pk_mul, Nat.add_assoc, Nat.zero_add, Nat.add_zero]) (by omega) (t1) ?_
      refine go_bipush (v := 57) dX3_nextNumber_49 rfl ?_
      refine go_icmp_gt (tgt := 109) dX3_nextNumber_51 (by decide) (fun c51 => absurd c51 (Int32.not_lt.mpr k3.2)) (fun c51 => ?_)
      refine go_aloadn dX3_nextNumber_54 rfl ?_
      refine sg_getI dX3_nextNumber_55 fX3_80 rfl (rd_L rfl) hS ?_
      rw [e6]
      refine go_iconst (v := 4) dX3_nextNumber_58 rfl ?_
      refine go_icmp_ge (tgt := 86) dX3_nextNumber_59 (by decide) (fun c59 => absurd c59 (nI_ge (b := 4) z (by decide))) (fun c59 => ?_)
      refine go_aloadn dX3_nextNumber_62 rfl ?_
      refine go_aloadn dX3_nextNumber_63 rfl ?_
      refine sg_getI dX3_nextNumber_64 fX3_77 rfl (rd_L rfl) hS ?_
      rw [e5]
      refine go_bipush (v := 10) dX3_nextNumber_67 rfl ?_
      refine go_imul dX3_nextNumber_69 ?_
      refine go_aloadn dX3_nextNumber_70 rfl ?_
      refine sg_getR dX3_nextNumber_71 fX3_9 rfl (rd_L rfl) hS H2.1 ?_
      refine go_aloadn dX3_nextNumber_74 rfl ?_
      refine sg_getI dX3_nextNumber_75 fX3_38 rfl (rd_L rfl) hS ?_
      rw [e4]
      refine sg_baldN (i := i + k) (x := nI (b (i + k))) dX3_nextNumber_78 rfl hS (by simp only [lit_nI, nI_add, pk_mul, Nat.add_assoc, Nat.zero_add, Nat.add_zero]) (by omega) (t3) ?_
      refine go_iadd dX3_nextNumber_79 ?_
      refine go_bipush (v := 48) dX3_nextNumber_80 rfl ?_
      refine go_isub dX3_nextNumber_82 ?_
      rw [dig_n kd.1]
      refine sg_putI dX3_nextNumber_83 fX3_77 rfl rfl (rd_L rfl) hS ?_
      refine go_aloadn dX3_nextNumber_86 rfl ?_
      refine go_dup dX3_nextNumber_87 rfl ?_
      refine sg_getI dX3_nextNumber_88 fX3_80 rfl (rd_L rfl) hS ?_
      refine go_iconst (v := 1) dX3_nextNumber_91 rfl ?_
      refine go_iadd dX3_nextNumber_92 ?_
      rw [hI_uI_ne (by omega), e6, nI_1]
      refine sg_putI dX3_nextNumber_93 fX3_80 rfl rfl (rd_L rfl) hS ?_
      refine go_aloadn dX3_nextNumber_96 rfl ?_
      refine go_dup dX3_nextNumber_97 rfl ?_
      refine sg_getI dX3_nextNumber_98 fX3_38 rfl (rd_L rfl) hS ?_
      refine go_iconst (v := 1) dX3_nextNumber_101 rfl ?_
      refine go_iadd dX3_nextNumber_102 ?_
      rw [hI_uI_ne (by omega), hI_uI_ne (by omega), e4, nI_1]
      refine sg_putI dX3_nextNumber_103 fX3_38 rfl rfl (rd_L rfl) hS ?_
      refine go_goto (tgt := 15) dX3_nextNumber_106 (by decide) ?_
      exact go_cong (ih _ ⟨((F.uI (by unfold SN3; omega)).uI (by unfold SN3; omega)).uI (by unfold SN3; omega), by rw [hI_uI_ne (by omega), hI_uI_ne (by omega), hI_uI_ne (by omega)]; exact e2, hI_uI_eq, by rw [hI_uI_ne (by omega), hI_uI_ne (by omega), hI_uI_eq], by rw [hI_uI_ne (by omega), hI_uI_eq]⟩) rfl rfl
    · rw [if_neg z] at es
      rw [es] at ih
      refine go_aloadn dX3_nextNumber_15 rfl ?_
      refine sg_getI dX3_nextNumber_16 fX3_38 rfl (rd_L rfl) hS ?_
      rw [e4]
      refine go_aloadn dX3_nextNumber_19 rfl ?_
      refine sg_getI dX3_nextNumber_20 fX3_25 rfl (rd_L rfl) hS ?_
      rw [H2.2.1]
      refine go_icmp_ge (tgt := 109) dX3_nextNumber_23 (by decide) (fun c23 => absurd c23 (nI_ge k1 (by omega))) (fun c23 => ?_)
      refine go_aloadn dX3_nextNumber_26 rfl ?_
      refine sg_getR dX3_nextNumber_27 fX3_9 rfl (rd_L rfl) hS H2.1 ?_
      refine go_aloadn dX3_nextNumber_30 rfl ?_
      refine sg_getI dX3_nextNumber_31 fX3_38 rfl (rd_L rfl) hS ?_
      rw [e4]
      refine sg_baldN (i := i + k) (x := byI (b (i + k))) dX3_nextNumber_34 rfl hS (by simp only [lit_nI, nI_add, pk_mul, Nat.add_assoc, Nat.zero_add, Nat.add_zero]) (by omega) (t1) ?_
      refine go_bipush (v := 48) dX3_nextNumber_35 rfl ?_
      refine go_icmp_lt (tgt := 109) dX3_nextNumber_37 (by decide) (fun c37 => absurd c37 (Int32.not_lt.mpr k3.1)) (fun c37 => ?_)
      refine go_aloadn dX3_nextNumber_40 rfl ?_
      refine sg_getR dX3_nextNumber_41 fX3_9 rfl (rd_L rfl) hS H2.1 ?_
      refine go_aloadn dX3_nextNumber_44 rfl ?_
      refine sg_getI dX3_nextNumber_45 fX3_38 rfl (rd_L rfl) hS ?_
      rw [e4]
      refine sg_baldN (i := i + k) (x := byI (b (i + k))) dX3_nextNumber_48 rfl hS (by simp only [lit_nI, nI_add, pk_mul, Nat.add_assoc, Nat.zero_add, Nat.add_zero]) (by omega) (t1) ?_
      refine go_bipush (v := 57) dX3_nextNumber_49 rfl ?_
      refine go_icmp_gt (tgt := 109) dX3_nextNumber_51 (by decide) (fun c51 => absurd c51 (Int32.not_lt.mpr k3.2)) (fun c51 => ?_)
      refine go_aloadn dX3_nextNumber_54 rfl ?_
      refine sg_getI dX3_nextNumber_55 fX3_80 rfl (rd_L rfl) hS ?_
      rw [e6]
      refine go_iconst (v := 4) dX3_nextNumber_58 rfl ?_
      refine go_icmp_ge (tgt := 86) dX3_nextNumber_59 (by decide) (fun c59 => ?_) (fun c59 => absurd (nI_le (a := 4) (by omega) (by omega)) c59)
      refine go_aloadn dX3_nextNumber_86 rfl ?_
      refine go_dup dX3_nextNumber_87 rfl ?_
      refine sg_getI dX3_nextNumber_88 fX3_80 rfl (rd_L rfl) hS ?_
      refine go_iconst (v := 1) dX3_nextNumber_91 rfl ?_
      refine go_iadd dX3_nextNumber_92 ?_
      rw [e6, nI_1]
      refine sg_putI dX3_nextNumber_93 fX3_80 rfl rfl (rd_L rfl) hS ?_
      refine go_aloadn dX3_nextNumber_96 rfl ?_
      refine go_dup dX3_nextNumber_97 rfl ?_
      refine sg_getI dX3_nextNumber_98 fX3_38 rfl (rd_L rfl) hS ?_
      refine go_iconst (v := 1) dX3_nextNumber_101 rfl ?_
      refine go_iadd dX3_nextNumber_102 ?_
      rw [hI_uI_ne (by omega), e4, nI_1]
      refine sg_putI dX3_nextNumber_103 fX3_38 rfl rfl (rd_L rfl) hS ?_
      refine go_goto (tgt := 15) dX3_nextNumber_106 (by decide) ?_
      exact go_cong (ih _ ⟨(F.uI (by unfold SN3; omega)).uI (by unfold SN3; omega), by rw [hI_uI_ne (by omega), hI_uI_ne (by omega)]; exact e2, hI_uI_eq, by rw [hI_uI_ne (by omega), hI_uI_ne (by omega)]; exact e5, by rw [hI_uI_ne (by omega), hI_uI_eq]⟩) rfl rfl
  · obtain ⟨F, e2, e4, e5, e6⟩ := hh
    have hS := F.St hS
    have H2 := H.fz F (by unfold SN3; exact ⟨by omega, fun k => by omega⟩)
    rw [show i + (e - i) = e by omega] at e4
    by_cases q : e < n
    · obtain ⟨t1, t2⟩ := H2.2.2.2 _ q
      have k2 : ¬ isD (b e) = true := fun z => s2 ⟨q, z⟩
      rw [by_D ⟨_, t2⟩, Bool.and_eq_true, decide_eq_true_eq, decide_eq_true_eq] at k2
      refine go_aloadn dX3_nextNumber_15 rfl ?_
      refine sg_getI dX3_nextNumber_16 fX3_38 rfl (rd_L rfl) hS ?_
      rw [e4]
      refine go_aloadn dX3_nextNumber_19 rfl ?_
      refine sg_getI dX3_nextNumber_20 fX3_25 rfl (rd_L rfl) hS ?_
      rw [H2.2.1]
      refine go_icmp_ge (tgt := 109) dX3_nextNumber_23 (by decide) (fun c23 => absurd c23 (nI_ge q (by omega))) (fun c23 => ?_)
      refine go_aloadn dX3_nextNumber_26 rfl ?_
      refine sg_getR dX3_nextNumber_27 fX3_9 rfl (rd_L rfl) hS H2.1 ?_
      refine go_aloadn dX3_nextNumber_30 rfl ?_
      refine sg_getI dX3_nextNumber_31 fX3_38 rfl (rd_L rfl) hS ?_
      rw [e4]
      refine sg_baldN (i := e) (x := byI (b e)) dX3_nextNumber_34 rfl hS (by simp only [lit_nI, nI_add, pk_mul, Nat.add_assoc, Nat.zero_add, Nat.add_zero]) (by omega) (t1) ?_
      refine go_bipush (v := 48) dX3_nextNumber_35 rfl ?_
      refine go_icmp_lt (tgt := 109) dX3_nextNumber_37 (by decide) (fun c37 => ?_) (fun c37 => ?_)
      · refine go_return dX3_nextNumber_109 rfl (Nat.zero_le _) (Nat.zero_le _) ?_
        exact ⟨rfl, F, e2, e4, e5, e6⟩
      · refine go_aloadn dX3_nextNumber_40 rfl ?_
        refine sg_getR dX3_nextNumber_41 fX3_9 rfl (rd_L rfl) hS H2.1 ?_
        refine go_aloadn dX3_nextNumber_44 rfl ?_
        refine sg_getI dX3_nextNumber_45 fX3_38 rfl (rd_L rfl) hS ?_
        rw [e4]
        refine sg_baldN (i := e) (x := byI (b e)) dX3_nextNumber_48 rfl hS (by simp only [lit_nI, nI_add, pk_mul, Nat.add_assoc, Nat.zero_add, Nat.add_zero]) (by omega) (t1) ?_
        refine go_bipush (v := 57) dX3_nextNumber_49 rfl ?_
        refine go_icmp_gt (tgt := 109) dX3_nextNumber_51 (by decide) (fun c51 => ?_) (fun c51 => absurd ⟨Int32.not_lt.mp c37, Int32.not_lt.mp c51⟩ k2)
        refine go_return dX3_nextNumber_109 rfl (Nat.zero_le _) (Nat.zero_le _) ?_
        exact ⟨rfl, F, e2, e4, e5, e6⟩
    · refine go_aloadn dX3_nextNumber_15 rfl ?_
      refine sg_getI dX3_nextNumber_16 fX3_38 rfl (rd_L rfl) hS ?_
      rw [e4]
      refine go_aloadn dX3_nextNumber_19 rfl ?_
      refine sg_getI dX3_nextNumber_20 fX3_25 rfl (rd_L rfl) hS ?_
      rw [H2.2.1]
      refine go_icmp_ge (tgt := 109) dX3_nextNumber_23 (by decide) (fun c23 => ?_) (fun c23 => absurd (nI_le (by omega) (by omega)) c23)
      refine go_return dX3_nextNumber_109 rfl (Nat.zero_le _) (Nat.zero_le _) ?_
      exact ⟨rfl, F, e2, e4, e5, e6⟩
theorem r_fail {l : Launch} {d : Nat} {w : Int32} {h : Hp} (hS : St h) : Ex l (d + 1) mX3_fail [.ref 3, .int w] h (some (.int 0)) (uI (uI h 3 10 w) 3 11 (hI h 3 3)) := by
  refine run_lv [some (.ref 3), some (.int w)] (go := ?_)
  refine go_aloadn dX3_fail_0 rfl ?_
  refine go_iloadn dX3_fail_1 rfl ?_
  refine sg_putI dX3_fail_2 fX3_48 rfl rfl (rd_L rfl) hS ?_
  refine go_aloadn dX3_fail_5 rfl ?_
  refine go_aloadn dX3_fail_6 rfl ?_
  refine sg_getI dX3_fail_7 fX3_60 rfl (rd_L rfl) hS ?_
  rw [hI_uI_ne (by omega)]
  refine sg_putI dX3_fail_10 fX3_51 rfl rfl (rd_L rfl) hS ?_
  refine go_iconst (v := 0) dX3_fail_13 rfl ?_
  refine go_ireturn dX3_fail_14 rfl rfl (Nat.zero_le _) (Nat.zero_le _) ?_
  exact ⟨rfl, rfl⟩
/-! the model's tokens -/
def TM (g : Hp) (b : Nat → Nat) (n : Nat) : Prop := hI g 77 16 = nI n ∧ n ≤ 700 ∧ ∀ i, i < n → hI g 82 i = nI (b i) ∧ b i < 256
theorem q_byteAt {l : Launch} {d n i : Nat} {b : Nat → Nat} {h : Hp} (hS : St h) (H : TM h b n) (hi : i ≤ 1000) : Ex l (d + 1) mX10_byteAt [.ref 77, .int (nI i)] h (some (.int (nI (if i < n then b i else 0)))) h := by
  have n7 := H.2.1
  refine run_lv [some (.ref 77), some (.int (nI i))] (go := ?_)
  by_cases q : i < n
  · rw [if_pos q]
    refine go_iloadn dX10_byteAt_0 rfl ?_
    refine go_aloadn dX10_byteAt_1 rfl ?_
    refine sg_getI dX10_byteAt_2 fX10_112 rfl (mo_L rfl) hS ?_
    rw [H.1]
    refine go_icmp_ge (tgt := 17) dX10_byteAt_5 (by decide) (fun c5 => absurd c5 (nI_ge q (by omega))) (fun c5 => ?_)
    refine go_aloadn dX10_byteAt_8 rfl ?_
    refine sg_getR dX10_byteAt_9 fX10_36 rfl (mo_L rfl) hS (mo_r11 hS rfl) ?_
    refine go_iloadn dX10_byteAt_12 rfl ?_
    refine sg_ialdN (i := i) dX10_byteAt_13 (mo_11 rfl) hS (by simp only [lit_nI, nI_add, pk_mul, Nat.add_assoc, Nat.zero_add, Nat.add_zero]) (by omega) ((H.2.2 i q).1) ?_
    refine go_goto (tgt := 18) dX10_byteAt_14 (by decide) ?_
    refine go_ireturn dX10_byteAt_18 rfl rfl (Nat.zero_le _) (Nat.zero_le _) ?_
    exact ⟨rfl, rfl⟩
  · rw [if_neg q]
    refine go_iloadn dX10_byteAt_0 rfl ?_
    refine go_aloadn dX10_byteAt_1 rfl ?_
    refine sg_getI dX10_byteAt_2 fX10_112 rfl (mo_L rfl) hS ?_
    rw [H.1]
    refine go_icmp_ge (tgt := 17) dX10_byteAt_5 (by decide) (fun c5 => ?_) (fun c5 => absurd (nI_le (by omega) (by omega)) c5)
    refine go_iconst (v := 0) dX10_byteAt_17 rfl ?_
    refine go_ireturn dX10_byteAt_18 rfl rfl (Nat.zero_le _) (Nat.zero_le _) ?_
    exact ⟨rfl, rfl⟩
theorem nI_L : ∀ n : Fin 256, isL n.val = (decide ((97 : Int32) ≤ nI n.val) && decide (nI n.val ≤ (122 : Int32))) := by decide +kernel
theorem nI_D : ∀ n : Fin 256, isD n.val = (decide ((48 : Int32) ≤ nI n.val) && decide (nI n.val ≤ (57 : Int32))) := by decide +kernel
theorem q_isLetter {l : Launch} {d c : Nat} {h : Hp} (hc : c < 256) : Ex l (d + 1) mX10_isLetter [.int (nI c)] h (some (.int (if isL c = true then 1 else 0))) h := by
  refine run_lv [some (.int (nI c))] (go := ?_)
  have ei : isL c = true ↔ (97 : Int32) ≤ nI c ∧ nI c ≤ (122 : Int32) := by rw [nI_L ⟨c, hc⟩, Bool.and_eq_true, decide_eq_true_eq, decide_eq_true_eq]
  refine go_iloadn dX10_isLetter_0 rfl ?_
  refine go_bipush (v := 97) dX10_isLetter_1 rfl ?_
  refine go_icmp_lt (tgt := 16) dX10_isLetter_3 (by decide) (fun c3 => ?_) (fun c3 => ?_)
  · refine go_iconst (v := 0) dX10_isLetter_16 rfl ?_
    refine go_ireturn dX10_isLetter_17 rfl rfl (Nat.zero_le _) (Nat.zero_le _) ?_
    first | exact ⟨by rw [if_pos (ei.mpr (And.intro (Int32.not_lt.mp c3) (Int32.not_lt.mp c9)))], rfl⟩ | exact ⟨by rw [if_neg (fun q => Int32.not_lt.mpr (ei.mp q).2 c9)], rfl⟩ | exact ⟨by rw [if_neg (fun q => Int32.not_lt.mpr (ei.mp q).1 c3)], rfl⟩
  · refine go_iloadn dX10_isLetter_6 rfl ?_
    refine go_bipush (v := 122) dX10_isLetter_7 rfl ?_
    refine go_icmp_gt (tgt := 16) dX10_isLetter_9 (by decide) (fun c9 => ?_) (fun c9 => ?_)
    · refine go_iconst (v := 0) dX10_isLetter_16 rfl ?_
      refine go_ireturn dX10_isLetter_17 rfl rfl (Nat.zero_le _) (Nat.zero_le _) ?_
      first | exact ⟨by rw [if_pos (ei.mpr (And.intro (Int32.not_lt.mp c3) (Int32.not_lt.mp c9)))], rfl⟩ | exact ⟨by rw [if_neg (fun q => Int32.not_lt.mpr (ei.mp q).2 c9)], rfl⟩ | exact ⟨by rw [if_neg (fun q => Int32.not_lt.mpr (ei.mp q).1 c3)], rfl⟩
    · refine go_iconst (v := 1) dX10_isLetter_12 rfl ?_
      refine go_goto (tgt := 17) dX10_isLetter_13 (by decide) ?_
      refine go_ireturn dX10_isLetter_17 rfl rfl (Nat.zero_le _) (Nat.zero_le _) ?_
      first | exact ⟨by rw [if_pos (ei.mpr (And.intro (Int32.not_lt.mp c3) (Int32.not_lt.mp c9)))], rfl⟩ | exact ⟨by rw [if_neg (fun q => Int32.not_lt.mpr (ei.mp q).2 c9)], rfl⟩ | exact ⟨by rw [if_neg (fun q => Int32.not_lt.mpr (ei.mp q).1 c3)], rfl⟩
theorem q_isDigit {l : Launch} {d c : Nat} {h : Hp} (hc : c < 256) : Ex l (d + 1) mX10_isDigit [.int (nI c)] h (some (.int (if isD c = true then 1 else 0))) h := by
  refine run_lv [some (.int (nI c))] (go := ?_)
  have ei : isD c = true ↔ (48 : Int32) ≤ nI c ∧ nI c ≤ (57 : Int32) := by rw [nI_D ⟨c, hc⟩, Bool.and_eq_true, decide_eq_true_eq, decide_eq_true_eq]
  refine go_iloadn dX10_isDigit_0 rfl ?_
  refine go_bipush (v := 48) dX10_isDigit_1 rfl ?_
  refine go_icmp_lt (tgt := 16) dX10_isDigit_3 (by decide) (fun c3 => ?_) (fun c3 => ?_)
  · refine go_iconst (v := 0) dX10_isDigit_16 rfl ?_
    refine go_ireturn dX10_isDigit_17 rfl rfl (Nat.zero_le _) (Nat.zero_le _) ?_
    first | exact ⟨by rw [if_pos (ei.mpr (And.intro (Int32.not_lt.mp c3) (Int32.not_lt.mp c9)))], rfl⟩ | exact ⟨by rw [if_neg (fun q => Int32.not_lt.mpr (ei.mp q).2 c9)], rfl⟩ | exact ⟨by rw [if_neg (fun q => Int32.not_lt.mpr (ei.mp q).1 c3)], rfl⟩
  · refine go_iloadn dX10_isDigit_6 rfl ?_
    refine go_bipush (v := 57) dX10_isDigit_7 rfl ?_
    refine go_icmp_gt (tgt := 16) dX10_isDigit_9 (by decide) (fun c9 => ?_) (fun c9 => ?_)
    · refine go_iconst (v := 0) dX10_isDigit_16 rfl ?_
      refine go_ireturn dX10_isDigit_17 rfl rfl (Nat.zero_le _) (Nat.zero_le _) ?_
      first | exact ⟨by rw [if_pos (ei.mpr (And.intro (Int32.not_lt.mp c3) (Int32.not_lt.mp c9)))], rfl⟩ | exact ⟨by rw [if_neg (fun q => Int32.not_lt.mpr (ei.mp q).2 c9)], rfl⟩ | exact ⟨by rw [if_neg (fun q => Int32.not_lt.mpr (ei.mp q).1 c3)], rfl⟩
    · refine go_iconst (v := 1) dX10_isDigit_12 rfl ?_
      refine go_goto (tgt := 17) dX10_isDigit_13 (by decide) ?_
      refine go_ireturn dX10_isDigit_17 rfl rfl (Nat.zero_le _) (Nat.zero_le _) ?_
      first | exact ⟨by rw [if_pos (ei.mpr (And.intro (Int32.not_lt.mp c3) (Int32.not_lt.mp c9)))], rfl⟩ | exact ⟨by rw [if_neg (fun q => Int32.not_lt.mpr (ei.mp q).2 c9)], rfl⟩ | exact ⟨by rw [if_neg (fun q => Int32.not_lt.mpr (ei.mp q).1 c3)], rfl⟩
