/-! days behind each other; Notes -/
theorem TI.pd {b c N P fs ns fr nr D : Nat} {h : Hp} {fog : Int32} (H : TI h b c N P fs ns fr nr D) (hD : D + 1 < 2 ^ 30) : TI (pdH h b c N P fs ns fr nr D fog) b c N P fs ns fr nr (D + 1) := by
  have H1 := H.dy ((dy_d1H (c := c) (P := P) (fs := fs) (ns := ns) (D := D) (fog := fog) N).tr (dy_d2H (c := c) (N := N) (fr := fr) (nr := nr) P))
  obtain ⟨h1, h2, h3, h4, h5, h6⟩ := H1
  unfold pdH
  generalize d2H (d1H h b c P fs ns D fog N) b c N fr nr P = g at *
  have F : FrT b g (dyH g b) := FrT.rf.uI (Or.inl rfl)
  refine ⟨h1.fr F, h2.fr h1.2.1 h1.2.2.1 F, h3.fr h1.2.1 h1.2.2.1 F, fun t ht => ?_, ?_, hD⟩
  · rw [dyH, hI_uI_ne (by omega)]; exact h4 t ht
  · rw [dyH, hI_uI_eq, h5, nI_1]
theorem fr_pdH {b c N P fs ns fr nr D : Nat} {h : Hp} {fog : Int32} : FrT b h (pdH h b c N P fs ns fr nr D fog) := by
  unfold pdH
  exact (((dy_d1H (c := c) (P := P) (fs := fs) (ns := ns) (D := D) (fog := fog) N).tr (dy_d2H (c := c) (N := N) (fr := fr) (nr := nr) P)).1).uI (Or.inl rfl)
/-- so many days go by -/
def dnH (h : Hp) (b c N P fs ns fr nr D : Nat) : Nat → Hp := foF (fun j g => pdH g b c N P fs ns fr nr (D + j) 0) h
theorem TI.dn {b c N P fs ns fr nr D : Nat} {h : Hp} (H : TI h b c N P fs ns fr nr D) {k : Nat} (hD : D + k < 2 ^ 30) : TI (dnH h b c N P fs ns fr nr D k) b c N P fs ns fr nr (D + k) := by
  induction k with
  | zero => exact H
  | succ k ih => exact (ih (by omega)).pd (by omega)
theorem fr_dnH {b c N P fs ns fr nr D : Nat} {h : Hp} (k : Nat) : FrT b h (dnH h b c N P fs ns fr nr D k) := by
  induction k with
  | zero => exact FrT.rf
  | succ k ih => exact ih.tr fr_pdH
theorem tt_a {b a : Nat} (hb : TownAt b) (h : 42 ≤ a ∧ a ≤ 55 ∨ 68 ≤ a ∨ a < 30) : ¬ Tt b a := by unfold Tt; rcases hb with rfl | rfl <;> omega
/-- what is noted -/
def NI (h : Hp) (n M N : Nat) : Prop := hI h n 0 = nI M ∧ M ≤ 8 ∧ ∀ i, i < M → (∃ t, t < N ∧ hI h (n + 1) i = nI t) ∧ (∃ e, e ≤ 30 ∧ hI h (n + 2) i = nI e) ∧ (hI h (n + 3) i = 0 ∨ hI h (n + 3) i = 1)
theorem no_a {n i : Nat} (hn : NotesAt n) (hi : i ≤ 3) : 42 ≤ n + i ∧ n + i ≤ 55 ∨ 68 ≤ n + i ∨ n + i < 30 := by rcases hn with rfl | rfl <;> omega
theorem NI.fr {h g : Hp} {n M N b : Nat} (H : NI h n M N) (hn : NotesAt n) (hb : TownAt b) (F : FrT b h g) : NI g n M N := by
  obtain ⟨h1, h2, h3⟩ := H
  have e : ∀ i, i ≤ 3 → ∀ k, hI g (n + i) k = hI h (n + i) k := fun i hi k => F.2.2.2 _ _ (tt_a hb (no_a hn hi))
  refine ⟨by have := e 0 (by omega) 0; exact this.trans h1, h2, fun i hi => ?_⟩
  rw [e 1 (by omega), e 2 (by omega), e 3 (by omega)]; exact h3 i hi
theorem r_isFull {l : Launch} {d n M N : Nat} {h : Hp} (hS : St h) (hn : NotesAt n) (H : NI h n M N) : Ex l (d + 1) mX2_isFull [.ref n] h (some (.int (if M = 8 then 1 else 0))) h := by
  obtain ⟨h1, h2, -⟩ := H
  refine run_lv [some (.ref n)] (go := ?_)
  refine go_aloadn dX2_isFull_0 rfl ?_
  refine sg_getI dX2_isFull_1 fX2_21 rfl (no_L hn) hS ?_
  rw [h1]
  refine go_bipush (v := 8) dX2_isFull_4 rfl ?_
  refine go_icmp_lt (tgt := 13) dX2_isFull_6 (by decide) (fun c6 => ?_) (fun c6 => ?_)
  · refine go_iconst (v := 0) dX2_isFull_13 rfl ?_
    refine go_ireturn dX2_isFull_14 rfl rfl (Nat.zero_le _) (Nat.zero_le _) ?_
    exact ⟨by first | rw [if_neg (fun q => nI_nlt (a := M) (b := 8) (by omega) (by omega) c6)] | rw [if_pos (by have := mt (nI_lt (a := M) (b := 8) · (by decide)) c6; omega)], rfl⟩
  · refine go_iconst (v := 1) dX2_isFull_9 rfl ?_
    refine go_goto (tgt := 14) dX2_isFull_10 (by decide) ?_
    refine go_ireturn dX2_isFull_14 rfl rfl (Nat.zero_le _) (Nat.zero_le _) ?_
    exact ⟨by first | rw [if_neg (fun q => nI_nlt (a := M) (b := 8) (by omega) (by omega) c6)] | rw [if_pos (by have := mt (nI_lt (a := M) (b := 8) · (by decide)) c6; omega)], rfl⟩
theorem r_nClear {l : Launch} {d n : Nat} {h : Hp} (hS : St h) (hn : NotesAt n) : Ex l (d + 1) mX2_clear [.ref n] h none (uI h n 0 0) := by
  refine run_lv [some (.ref n)] (go := ?_)
  refine go_aloadn dX2_clear_0 rfl ?_
  refine go_iconst (v := 0) dX2_clear_1 rfl ?_
  refine sg_putI dX2_clear_2 fX2_21 rfl rfl (no_L hn) hS ?_
  refine go_return dX2_clear_5 rfl (Nat.zero_le _) (Nat.zero_le _) ?_
  exact ⟨rfl, rfl⟩
theorem r_put {l : Launch} {d n M N : Nat} {h : Hp} {t e v : Int32} (hS : St h) (hn : NotesAt n) (H : NI h n M N) (hM : M < 8) : Ex l (d + 2) mX2_put [.ref n, .int t, .int e, .int v] h none (uI (uI (uI (uI h (n + 1) M t) (n + 2) M e) (n + 3) M (if v = 0 then 0 else 1)) n 0 (nI (M + 1))) := by
  obtain ⟨h1, h2, -⟩ := id H
  have hv : vp_in (nI M) 8 := vp_in_nI hM (by decide)
  have e0 : (nI M).toNatClampNeg = M := cl_nI (by omega)
  refine run_lv [some (.ref n), some (.int t), some (.int e), some (.int v)] (go := ?_)
  refine go_aloadn dX2_put_0 rfl ?_
  refine sg_cVi (M' := mX2_isFull) ([]) dX2_put_1 lX2_25 vX2_isFull (no_L hn) (by decide) rfl hS (r_isFull hS hn H) rfl (Nat.le_of_ble_eq_true rfl) (Nat.zero_le _) (Nat.zero_le _) ?_
  refine go_if_eq (tgt := 8) dX2_put_4 (by decide) (fun c4 => ?_) (fun c4 => ?_)
  · refine go_aloadn dX2_put_8 rfl ?_
    refine sg_getR dX2_put_9 fX2_11 rfl (no_L hn) hS (no_r1 hS hn) ?_
    refine go_aloadn dX2_put_12 rfl ?_
    refine sg_getI dX2_put_13 fX2_21 rfl (no_L hn) hS ?_
    rw [h1]
    refine go_iloadn dX2_put_16 rfl ?_
    refine sg_iast dX2_put_17 (no_1 hn) hS (hv) ?_
    rw [e0]
    refine go_aloadn dX2_put_18 rfl ?_
    refine sg_getR dX2_put_19 fX2_15 rfl (no_L hn) hS (no_r2 hS hn) ?_
    refine go_aloadn dX2_put_22 rfl ?_
    refine sg_getI dX2_put_23 fX2_21 rfl (no_L hn) hS ?_
    rw [hI_uI_ne (by omega), h1]
    refine go_iloadn dX2_put_26 rfl ?_
    refine sg_iast dX2_put_27 (no_2 hn) hS (hv) ?_
    rw [e0]
    refine go_aloadn dX2_put_28 rfl ?_
    refine sg_getR dX2_put_29 fX2_18 rfl (no_L hn) hS (no_r3 hS hn) ?_
    refine go_aloadn dX2_put_32 rfl ?_
    refine sg_getI dX2_put_33 fX2_21 rfl (no_L hn) hS ?_
    rw [hI_uI_ne (by omega), hI_uI_ne (by omega), h1]
    refine go_iloadn dX2_put_36 rfl ?_
    refine go_if_eq (tgt := 44) dX2_put_37 (by decide) (fun c37 => ?_) (fun c37 => ?_)
    · refine go_iconst (v := 0) dX2_put_44 rfl ?_
      refine sg_iast dX2_put_45 (no_3 hn) hS (hv) ?_
      rw [e0]
      refine go_aloadn dX2_put_46 rfl ?_
      refine go_dup dX2_put_47 rfl ?_
      refine sg_getI dX2_put_48 fX2_21 rfl (no_L hn) hS ?_
      rw [hI_uI_ne (by omega), hI_uI_ne (by omega), hI_uI_ne (by omega), h1]
      refine go_iconst (v := 1) dX2_put_51 rfl ?_
      refine go_iadd dX2_put_52 ?_
      refine sg_putI dX2_put_53 fX2_21 rfl rfl (no_L hn) hS ?_
      refine go_return dX2_put_56 rfl (Nat.zero_le _) (Nat.zero_le _) ?_
      exact ⟨rfl, by simp [c37, nI_1]⟩
    · refine go_iconst (v := 1) dX2_put_40 rfl ?_
      refine go_goto (tgt := 45) dX2_put_41 (by decide) ?_
      refine sg_iast dX2_put_45 (no_3 hn) hS (hv) ?_
      rw [e0]
      refine go_aloadn dX2_put_46 rfl ?_
      refine go_dup dX2_put_47 rfl ?_
      refine sg_getI dX2_put_48 fX2_21 rfl (no_L hn) hS ?_
      rw [hI_uI_ne (by omega), hI_uI_ne (by omega), hI_uI_ne (by omega), h1]
      refine go_iconst (v := 1) dX2_put_51 rfl ?_
      refine go_iadd dX2_put_52 ?_
      refine sg_putI dX2_put_53 fX2_21 rfl rfl (no_L hn) hS ?_
      refine go_return dX2_put_56 rfl (Nat.zero_le _) (Nat.zero_le _) ?_
      exact ⟨rfl, by simp [c37, nI_1]⟩
  · exact absurd (if_neg (by omega)) c4
def ncH (h : Hp) (n o : Nat) : Hp := uI (cpH (cpH (cpH h (o + 1) (n + 1) 8) (o + 2) (n + 2) 8) (o + 3) (n + 3) 8) n 0 (hI h o 0)
theorem r_nCopy {l : Launch} {d n o : Nat} {h : Hp} (hS : St h) (hn : NotesAt n) (ho : NotesAt o) (hno : n ≠ o) : Ex l (d + 1) mX2_copyFrom [.ref n, .ref o] h none (ncH h n o) := by
  have x : ∀ i, i ≤ 3 → o ≠ n + i := fun i hi => by rcases hn with rfl | rfl <;> rcases ho with rfl | rfl <;> omega
  refine run_lv [some (.ref n), some (.ref o)] (go := ?_)
  refine go_aloadn dX2_copyFrom_0 rfl ?_
  refine sg_getR dX2_copyFrom_1 fX2_11 rfl (no_L ho) hS (no_r1 hS ho) ?_
  refine go_iconst (v := 0) dX2_copyFrom_4 rfl ?_
  refine go_aloadn dX2_copyFrom_5 rfl ?_
  refine sg_getR dX2_copyFrom_6 fX2_11 rfl (no_L hn) hS (no_r1 hS hn) ?_
  refine go_iconst (v := 0) dX2_copyFrom_9 rfl ?_
  refine go_bipush (v := 8) dX2_copyFrom_10 rfl ?_
  refine go_copy dX2_copyFrom_12 ac_X2 ac_nat ac_sta ac_ini (no_1 ho) (no_1 hn) hS (by decide) (by decide) (by decide) (by decide) (by decide) (Nat.le_of_ble_eq_true rfl) (by simp only [rmOf]; omega) (by simp only [rmOf]; omega) ?_
  refine go_cong (h' := cpH h (o + 1) (n + 1) 8) ?_ rfl (congrArg (uF h (n + 1)) cpF_eq)
  refine go_aloadn dX2_copyFrom_15 rfl ?_
  refine sg_getR dX2_copyFrom_16 fX2_15 rfl (no_L ho) hS (no_r2 hS ho) ?_
  refine go_iconst (v := 0) dX2_copyFrom_19 rfl ?_
  refine go_aloadn dX2_copyFrom_20 rfl ?_
  refine sg_getR dX2_copyFrom_21 fX2_15 rfl (no_L hn) hS (no_r2 hS hn) ?_
  refine go_iconst (v := 0) dX2_copyFrom_24 rfl ?_
  refine go_bipush (v := 8) dX2_copyFrom_25 rfl ?_
  refine go_copy dX2_copyFrom_27 ac_X2 ac_nat ac_sta ac_ini (no_2 ho) (no_2 hn) hS (by decide) (by decide) (by decide) (by decide) (by decide) (Nat.le_of_ble_eq_true rfl) (by simp only [rmOf]; omega) (by simp only [rmOf]; omega) ?_
  refine go_cong (h' := cpH (cpH h (o + 1) (n + 1) 8) (o + 2) (n + 2) 8) ?_ rfl (congrArg (uF (cpH h (o + 1) (n + 1) 8) (n + 2)) cpF_eq)
  refine go_aloadn dX2_copyFrom_30 rfl ?_
  refine sg_getR dX2_copyFrom_31 fX2_18 rfl (no_L ho) hS (no_r3 hS ho) ?_
  refine go_iconst (v := 0) dX2_copyFrom_34 rfl ?_
  refine go_aloadn dX2_copyFrom_35 rfl ?_
  refine sg_getR dX2_copyFrom_36 fX2_18 rfl (no_L hn) hS (no_r3 hS hn) ?_
  refine go_iconst (v := 0) dX2_copyFrom_39 rfl ?_
  refine go_bipush (v := 8) dX2_copyFrom_40 rfl ?_
  refine go_copy dX2_copyFrom_42 ac_X2 ac_nat ac_sta ac_ini (no_3 ho) (no_3 hn) hS (by decide) (by decide) (by decide) (by decide) (by decide) (Nat.le_of_ble_eq_true rfl) (by simp only [rmOf]; omega) (by simp only [rmOf]; omega) ?_
  refine go_cong (h' := cpH (cpH (cpH h (o + 1) (n + 1) 8) (o + 2) (n + 2) 8) (o + 3) (n + 3) 8) ?_ rfl (congrArg (uF (cpH (cpH h (o + 1) (n + 1) 8) (o + 2) (n + 2) 8) (n + 3)) cpF_eq)
  refine go_aloadn dX2_copyFrom_45 rfl ?_
  refine go_aloadn dX2_copyFrom_46 rfl ?_
  refine sg_getI dX2_copyFrom_47 fX2_21 rfl (no_L ho) hS ?_
  refine sg_putI dX2_copyFrom_50 fX2_21 rfl rfl (no_L hn) hS ?_
  refine go_return dX2_copyFrom_53 rfl (Nat.zero_le _) (Nat.zero_le _) ?_
  exact ⟨rfl, by rw [ncH]; congr 1; unfold cpH; rw [hI_uF_ne (x 3 (by omega)), hI_uF_ne (x 2 (by omega)), hI_uF_ne (x 1 (by omega))]⟩
/-- the last day noted -/
def ldN (h : Hp) (n : Nat) : Nat → Nat := foF (fun i a => max a (hI h (n + 2) i).toNatClampNeg) 0
theorem ldN_le {h : Hp} {n M N k : Nat} (H : NI h n M N) (hk : k ≤ M) : ldN h n k ≤ 30 := by
  induction k with
  | zero => exact Nat.zero_le _
  | succ k ih =>
    obtain ⟨e, he, z⟩ := (H.2.2 k (by omega)).2.1
    simp only [ldN, foF, z, cl_nI (show e < 2 ^ 31 by omega)] at ih ⊢
    have := ih (by omega)
    omega
theorem r_lastDay {l : Launch} {d n M N : Nat} {h : Hp} (hS : St h) (hn : NotesAt n) (H : NI h n M N) : Ex l (d + 2) mX2_lastDay [.ref n] h (some (.int (nI (ldN h n M)))) h := by
  obtain ⟨h1, h2, h3⟩ := id H
  refine run_lv [some (.ref n), none, none] (go := ?_)
  refine go_iconst (v := 0) dX2_lastDay_0 rfl ?_
  refine go_ist1 dX2_lastDay_1 rfl ?_
  refine go_iconst (v := 0) dX2_lastDay_2 rfl ?_
  refine go_ist2 dX2_lastDay_3 rfl ?_
  refine go_loop (lvf := fun k => [some (.ref n), some (.int (nI (ldN h n k))), some (.int (nI k))]) (hf := fun _ => h) M (fun _ => True) (fun k hk _ ih => ?_) (fun _ => ?_) 0 (Nat.zero_le _) trivial
  · obtain ⟨e, he, z⟩ := (h3 k hk).2.1
    have hl := ldN_le H (Nat.le_of_lt hk)
    have e0 : (nI k).toNatClampNeg = k := cl_nI (by omega)
    have e1 : ldN h n (k + 1) = max (ldN h n k) e := by show max (ldN h n k) (hI h (n + 2) k).toNatClampNeg = _; rw [z, cl_nI (by omega)]
    refine go_iloadn dX2_lastDay_4 rfl ?_
    refine go_aloadn dX2_lastDay_5 rfl ?_
    refine sg_getI dX2_lastDay_6 fX2_21 rfl (no_L hn) hS ?_
    refine go_icmp_ge (tgt := 29) dX2_lastDay_9 (by decide) (fun c9 => ?_) (fun c9 => ?_)
    · exact absurd (h1 ▸ c9) (nI_ge hk (by omega))
    · refine go_iloadn dX2_lastDay_12 rfl ?_
      refine go_aloadn dX2_lastDay_13 rfl ?_
      refine sg_getR dX2_lastDay_14 fX2_15 rfl (no_L hn) hS (no_r2 hS hn) ?_
      refine go_iloadn dX2_lastDay_17 rfl ?_
      refine sg_iald dX2_lastDay_18 (no_2 hn) hS (vp_in_nI (by omega) (by decide)) ?_
      rw [e0, z]
      refine go_max dX2_lastDay_19 lX2_49 (Nat.le_of_ble_eq_true rfl) (by simp only [rmOf]; omega) (by simp only [rmOf]; omega) (Nat.zero_le _) (Nat.zero_le _) ?_
      refine go_ist1 dX2_lastDay_22 rfl ?_
      refine go_iinc2 (c1 := 1) dX2_lastDay_23 rfl rfl ?_
      refine go_goto (tgt := 4) dX2_lastDay_26 (by decide) ?_
      exact go_cong (ih trivial) (by rw [e1]; by_cases q : ldN h n k < e; (· rw [if_pos ((nI_ltI (by omega) (by omega)).mpr q), Nat.max_eq_right (by omega)]; simp [nI_1]); rw [if_neg (fun w => q ((nI_ltI (by omega) (by omega)).mp w)), Nat.max_eq_left (by omega)]; simp [nI_1]) rfl
  · refine go_iloadn dX2_lastDay_4 rfl ?_
    refine go_aloadn dX2_lastDay_5 rfl ?_
    refine sg_getI dX2_lastDay_6 fX2_21 rfl (no_L hn) hS ?_
    refine go_icmp_ge (tgt := 29) dX2_lastDay_9 (by decide) (fun c9 => ?_) (fun c9 => ?_)
    · refine go_iloadn dX2_lastDay_29 rfl ?_
      refine go_ireturn dX2_lastDay_30 rfl rfl (Nat.zero_le _) (Nat.zero_le _) ?_
      exact ⟨rfl, rfl⟩
    · exact absurd (by rw [h1]; exact nI_le (Nat.le_refl _) (by omega)) c9
/-- the first note that isn't so, behind k days, by the town b of g -/
def hbN (h : Hp) (n M : Nat) (g : Hp) (b k : Nat) : Option Nat := fsN (fun i => hI h (n + 2) i = nI k ∧ ¬ (if hI g (b + 6) (hI h (n + 1) i).toNatClampNeg = -1 then (0 : Int32) else 1) = hI h (n + 3) i) M
theorem r_holdBehind {l : Launch} {d n M N b k : Nat} {h : Hp} (hS : St h) (hn : NotesAt n) (hb : TownAt b) (H : NI h n M N) (hN : N ≤ 10) : Ex l (d + 1) mX2_holdBehind [.ref n, .ref b, .int (nI k)] h (some (.int (if hbN h n M h b k = none then 1 else 0))) h := by
  obtain ⟨h1, h2, h3⟩ := id H
  refine run_lv [some (.ref n), some (.ref b), some (.int (nI k)), none] (go := ?_)
  refine go_iconst (v := 0) dX2_holdBehind_0 rfl ?_
  refine go_ist3 dX2_holdBehind_1 rfl ?_
  refine go_loop (lvf := fun i => [some (.ref n), some (.ref b), some (.int (nI k)), some (.int (nI i))]) (hf := fun _ => h) M (fun i => ∀ j, j < i → ¬ (hI h (n + 2) j = nI k ∧ ¬ (if hI h (b + 6) (hI h (n + 1) j).toNatClampNeg = -1 then (0 : Int32) else 1) = hI h (n + 3) j)) (fun i hi hh ih => ?_) (fun hh => ?_) 0 (Nat.zero_le _) (fun _ q => absurd q (by omega))
  · obtain ⟨t, ht, z⟩ := (h3 i hi).1
    have e0 : (nI i).toNatClampNeg = i := cl_nI (by omega)
    have hv : vp_in (nI i) 8 := vp_in_nI (by omega) (by decide)
    have hv2 : vp_in (hI h (n + 1) i) 10 := by rw [z]; exact vp_in_nI (by omega) (by decide)
    refine go_iloadn dX2_holdBehind_2 rfl ?_
    refine go_aloadn dX2_holdBehind_3 rfl ?_
    refine sg_getI dX2_holdBehind_4 fX2_21 rfl (no_L hn) hS ?_
    refine go_icmp_ge (tgt := 57) dX2_holdBehind_7 (by decide) (fun c7 => ?_) (fun c7 => ?_)
    · exact absurd (h1 ▸ c7) (nI_ge hi (by omega))
    · refine go_aloadn dX2_holdBehind_10 rfl ?_
      refine sg_getR dX2_holdBehind_11 fX2_15 rfl (no_L hn) hS (no_r2 hS hn) ?_
      refine go_iloadn dX2_holdBehind_14 rfl ?_
      refine sg_iald dX2_holdBehind_15 (no_2 hn) hS (hv) ?_
      rw [e0]
      refine go_iloadn dX2_holdBehind_16 rfl ?_
      refine go_icmp_ne (tgt := 51) dX2_holdBehind_17 (by decide) (fun c17 => ?_) (fun c17 => ?_)
      · refine go_iinc3 (c1 := 1) dX2_holdBehind_51 rfl rfl ?_
        refine go_goto (tgt := 2) dX2_holdBehind_54 (by decide) ?_
        exact go_cong (ih (fun j hj => by by_cases e : j = i; (· subst e; rintro ⟨q1, q2⟩; first | exact c17 q1 | (simp only [c32, if_true, if_false] at q2; exact q2 c46)); exact hh j (by omega))) (by simp [nI_1]) rfl
      · refine go_aloadn dX2_holdBehind_20 rfl ?_
        refine sg_getR dX2_holdBehind_21 fX2_55 rfl (tw_L hb) hS (tw_r8 hS hb) ?_
        refine go_aloadn dX2_holdBehind_24 rfl ?_
        refine sg_getR dX2_holdBehind_25 fX2_11 rfl (no_L hn) hS (no_r1 hS hn) ?_
        refine go_iloadn dX2_holdBehind_28 rfl ?_
        refine sg_iald dX2_holdBehind_29 (no_1 hn) hS (hv) ?_
        rw [e0]
        refine sg_iald dX2_holdBehind_30 (tw_8 hb) hS (hv2) ?_
        refine go_iconst (v := -1) dX2_holdBehind_31 rfl ?_
        refine go_icmp_eq (tgt := 39) dX2_holdBehind_32 (by decide) (fun c32 => ?_) (fun c32 => ?_)
        · refine go_iconst (v := 0) dX2_holdBehind_39 rfl ?_
          refine go_aloadn dX2_holdBehind_40 rfl ?_
          refine sg_getR dX2_holdBehind_41 fX2_18 rfl (no_L hn) hS (no_r3 hS hn) ?_
          refine go_iloadn dX2_holdBehind_44 rfl ?_
          refine sg_iald dX2_holdBehind_45 (no_3 hn) hS (hv) ?_
          rw [e0]
          refine go_icmp_eq (tgt := 51) dX2_holdBehind_46 (by decide) (fun c46 => ?_) (fun c46 => ?_)
          · refine go_iinc3 (c1 := 1) dX2_holdBehind_51 rfl rfl ?_
            refine go_goto (tgt := 2) dX2_holdBehind_54 (by decide) ?_
            exact go_cong (ih (fun j hj => by by_cases e : j = i; (· subst e; rintro ⟨q1, q2⟩; first | exact c17 q1 | (simp only [c32, if_true, if_false] at q2; exact q2 c46)); exact hh j (by omega))) (by simp [nI_1]) rfl
          · refine go_iconst (v := 0) dX2_holdBehind_49 rfl ?_
            refine go_ireturn dX2_holdBehind_50 rfl rfl (Nat.zero_le _) (Nat.zero_le _) ?_
            exact ⟨by rw [hbN, fs_some hi ⟨c17, by simp only [c32, if_true, if_false]; exact c46⟩ hh]; rfl, rfl⟩
        · refine go_iconst (v := 1) dX2_holdBehind_35 rfl ?_
          refine go_goto (tgt := 40) dX2_holdBehind_36 (by decide) ?_
          refine go_aloadn dX2_holdBehind_40 rfl ?_
          refine sg_getR dX2_holdBehind_41 fX2_18 rfl (no_L hn) hS (no_r3 hS hn) ?_
          refine go_iloadn dX2_holdBehind_44 rfl ?_
          refine sg_iald dX2_holdBehind_45 (no_3 hn) hS (hv) ?_
          rw [e0]
          refine go_icmp_eq (tgt := 51) dX2_holdBehind_46 (by decide) (fun c46 => ?_) (fun c46 => ?_)
          · refine go_iinc3 (c1 := 1) dX2_holdBehind_51 rfl rfl ?_
            refine go_goto (tgt := 2) dX2_holdBehind_54 (by decide) ?_
            exact go_cong (ih (fun j hj => by by_cases e : j = i; (· subst e; rintro ⟨q1, q2⟩; first | exact c17 q1 | (simp only [c32, if_true, if_false] at q2; exact q2 c46)); exact hh j (by omega))) (by simp [nI_1]) rfl
          · refine go_iconst (v := 0) dX2_holdBehind_49 rfl ?_
            refine go_ireturn dX2_holdBehind_50 rfl rfl (Nat.zero_le _) (Nat.zero_le _) ?_
            exact ⟨by rw [hbN, fs_some hi ⟨c17, by simp only [c32, if_true, if_false]; exact c46⟩ hh]; rfl, rfl⟩
  · refine go_iloadn dX2_holdBehind_2 rfl ?_
    refine go_aloadn dX2_holdBehind_3 rfl ?_
    refine sg_getI dX2_holdBehind_4 fX2_21 rfl (no_L hn) hS ?_
    refine go_icmp_ge (tgt := 57) dX2_holdBehind_7 (by decide) (fun c7 => ?_) (fun c7 => ?_)
    · refine go_iconst (v := 1) dX2_holdBehind_57 rfl ?_
      refine go_ireturn dX2_holdBehind_58 rfl rfl (Nat.zero_le _) (Nat.zero_le _) ?_
      exact ⟨by rw [hbN, fs_none hh]; rfl, rfl⟩
    · exact absurd (by rw [h1]; exact nI_le (Nat.le_refl _) (by omega)) c7
theorem hbN_fr {h g : Hp} {n M b b' k : Nat} {x : Hp} (hn : NotesAt n) (hb : TownAt b) (F : FrT b h g) : hbN g n M x b' k = hbN h n M x b' k := by
  have e : ∀ i, i ≤ 3 → ∀ k, hI g (n + i) k = hI h (n + i) k := fun i hi k => F.2.2.2 _ _ (tt_a hb (no_a hn hi))
  unfold hbN
  simp only [e 1 (by omega), e 2 (by omega), e 3 (by omega)]
theorem r_hold {l : Launch} {d n M b c N P fs ns fr nr D : Nat} {h : Hp} (hn : NotesAt n) (H0 : TI h b c N P fs ns fr nr D) (hD : D + 30 < 2 ^ 30) (H : NI h n M N) :
    Ey l (d + 6) mX2_hold [.ref n, .ref b] h (some (.int (if fsN (fun k => ¬ hbN h n M (dnH h b c N P fs ns fr nr D k) b k = none) (ldN h n M + 1) = none then 1 else 0))) (FrT b h) := by
  obtain ⟨hS, hb, hc, hbc, -, hN, -⟩ := id H0.1
  have hl := ldN_le H (Nat.le_refl _)
  refine run_lv [some (.ref n), some (.ref b), none, none] (go := ?_)
  refine go_aloadn dX2_hold_0 rfl ?_
  refine sg_cVi (M' := mX2_lastDay) ([]) dX2_hold_1 lX2_35 vX2_lastDay (no_L hn) (by decide) rfl hS (r_lastDay hS hn H) rfl (Nat.le_of_ble_eq_true rfl) (Nat.zero_le _) (Nat.zero_le _) ?_
  refine go_ist2 dX2_hold_4 rfl ?_
  refine go_iconst (v := 0) dX2_hold_5 rfl ?_
  refine go_ist3 dX2_hold_6 rfl ?_
  skip
  refine go_loopR (lvf := fun k => [some (.ref n), some (.ref b), some (.int (nI (ldN h n M))), some (.int (nI k))]) (ldN h n M + 1) (fun k g => (g = dnH h b c N P fs ns fr nr D (k - 1)) ∧ ∀ j, j < k → ¬ ¬ hbN h n M (dnH h b c N P fs ns fr nr D j) b j = none) (fun k g hk hh ih => ?_) (fun g hh => ?_) 0 h (Nat.zero_le _) ⟨rfl, fun _ q => absurd q (by omega)⟩
  · obtain ⟨e, hh⟩ := hh
    have F0 := fr_dnH (h := h) (b := b) (c := c) (N := N) (P := P) (fs := fs) (ns := ns) (fr := fr) (nr := nr) (D := D) (k - 1)
    have T0 := H0.dn (k := k - 1) (by omega)
    rw [← e] at F0 T0
    have F1 := fr_dnH (h := h) (b := b) (c := c) (N := N) (P := P) (fs := fs) (ns := ns) (fr := fr) (nr := nr) (D := D) k
    have T1 := H0.dn (k := k) (by omega)
    have s1 : ¬ nI k ≤ 0 → pdH g b c N P fs ns fr nr (D + (k - 1)) 0 = dnH h b c N P fs ns fr nr D k := fun q => by
      rcases Nat.eq_zero_or_pos k with z | z
      · subst z; exact absurd (by decide) q
      · obtain ⟨m, rfl⟩ : ∃ m, k = m + 1 := ⟨k - 1, by omega⟩
        rw [e]; rfl
    have s0 : nI k ≤ 0 → g = dnH h b c N P fs ns fr nr D k := fun q => by
      rcases Nat.eq_zero_or_pos k with z | z
      · subst z; exact e
      · exact absurd q (nI_nle z (by omega))
    have hS := T0.1.1
    refine go_iloadn dX2_hold_7 rfl ?_
    refine go_iloadn dX2_hold_8 rfl ?_
    refine go_icmp_gt (tgt := 38) dX2_hold_9 (by decide) (fun c9 => ?_) (fun c9 => ?_)
    · exact absurd c9 (nI_nlt (by omega) (by omega))
    · refine go_iloadn dX2_hold_12 rfl ?_
      refine go_if_le (tgt := 21) dX2_hold_13 (by decide) (fun c13 => ?_) (fun c13 => ?_)
      · refine go_cong (h' := dnH h b c N P fs ns fr nr D k) ?_ rfl (by first | exact s1 c13 | exact s0 c13)
        have hS := T1.1.1
        refine go_aloadn dX2_hold_21 rfl ?_
        refine go_aloadn dX2_hold_22 rfl ?_
        refine go_iloadn dX2_hold_23 rfl ?_
        refine sg_cVi (M' := mX2_holdBehind) ([.ref b, .int (nI k)]) dX2_hold_24 lX2_45 vX2_holdBehind (no_L hn) (by decide) rfl hS (r_holdBehind hS hn hb (H.fr hn hb F1) hN) rfl (Nat.le_of_ble_eq_true rfl) (Nat.zero_le _) (Nat.zero_le _) ?_
        rw [hbN_fr hn hb F1]
        refine go_if_ne (tgt := 32) dX2_hold_27 (by decide) (fun c27 => ?_) (fun c27 => ?_)
        · refine go_iinc3 (c1 := 1) dX2_hold_32 rfl rfl ?_
          refine go_goto (tgt := 7) dX2_hold_35 (by decide) ?_
          exact go_cong (ih (dnH h b c N P fs ns fr nr D k) ⟨rfl, fun j hj => by by_cases e : j = k; (· subst e; intro q; rw [if_neg q] at c27; exact c27 rfl); exact hh j (by omega)⟩) (by simp [nI_1]) rfl
        · refine go_iconst (v := 0) dX2_hold_30 rfl ?_
          refine go_ireturn dX2_hold_31 rfl rfl (Nat.zero_le _) (Nat.zero_le _) ?_
          exact ⟨by rw [if_neg (fun q => by have := fs_of_none q k hk; rw [Decidable.not_not] at this; rw [if_pos this] at c27; exact absurd c27 (by decide))], F1⟩
      · refine go_aloadn dX2_hold_16 rfl ?_
        refine go_iconst (v := 0) dX2_hold_17 rfl ?_
        refine sg_cV0 (M' := mX6_passDay) ([.int 0]) dX2_hold_18 lX2_39 vX6_passDay (tw_L hb) (by decide) rfl hS (r_passDay T0) rfl (Nat.le_of_ble_eq_true rfl) (Nat.zero_le _) (Nat.zero_le _) ?_
        refine go_cong (h' := dnH h b c N P fs ns fr nr D k) ?_ rfl (by first | exact s1 c13 | exact s0 c13)
        have hS := T1.1.1
        refine go_aloadn dX2_hold_21 rfl ?_
        refine go_aloadn dX2_hold_22 rfl ?_
        refine go_iloadn dX2_hold_23 rfl ?_
        refine sg_cVi (M' := mX2_holdBehind) ([.ref b, .int (nI k)]) dX2_hold_24 lX2_45 vX2_holdBehind (no_L hn) (by decide) rfl hS (r_holdBehind hS hn hb (H.fr hn hb F1) hN) rfl (Nat.le_of_ble_eq_true rfl) (Nat.zero_le _) (Nat.zero_le _) ?_
        rw [hbN_fr hn hb F1]
        refine go_if_ne (tgt := 32) dX2_hold_27 (by decide) (fun c27 => ?_) (fun c27 => ?_)
        · refine go_iinc3 (c1 := 1) dX2_hold_32 rfl rfl ?_
          refine go_goto (tgt := 7) dX2_hold_35 (by decide) ?_
          exact go_cong (ih (dnH h b c N P fs ns fr nr D k) ⟨rfl, fun j hj => by by_cases e : j = k; (· subst e; intro q; rw [if_neg q] at c27; exact c27 rfl); exact hh j (by omega)⟩) (by simp [nI_1]) rfl
        · refine go_iconst (v := 0) dX2_hold_30 rfl ?_
          refine go_ireturn dX2_hold_31 rfl rfl (Nat.zero_le _) (Nat.zero_le _) ?_
          exact ⟨by rw [if_neg (fun q => by have := fs_of_none q k hk; rw [Decidable.not_not] at this; rw [if_pos this] at c27; exact absurd c27 (by decide))], F1⟩
  · obtain ⟨e, hh⟩ := hh
    have F0 := fr_dnH (h := h) (b := b) (c := c) (N := N) (P := P) (fs := fs) (ns := ns) (fr := fr) (nr := nr) (D := D) (ldN h n M)
    have e' : g = dnH h b c N P fs ns fr nr D (ldN h n M) := e
    rw [← e'] at F0
    refine go_iloadn dX2_hold_7 rfl ?_
    refine go_iloadn dX2_hold_8 rfl ?_
    refine go_icmp_gt (tgt := 38) dX2_hold_9 (by decide) (fun c9 => ?_) (fun c9 => ?_)
    · refine go_iconst (v := 1) dX2_hold_38 rfl ?_
      refine go_ireturn dX2_hold_39 rfl rfl (Nat.zero_le _) (Nat.zero_le _) ?_
      exact ⟨by rw [fs_none hh]; rfl, F0⟩
    · exact absurd (nI_lt (by omega) (by omega)) c9
