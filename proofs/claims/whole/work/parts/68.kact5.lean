/-! what is noted; the image; the tape -/
theorem NV.eq {h g : Hp} {n N : Nat} {Q : Nt} (V : NV h n N Q) (e : ∀ i, i ≤ 3 → ∀ k, hI g (n + i) k = hI h (n + i) k) : NV g n N Q := by
  obtain ⟨⟨v1, v2, v3⟩, v4⟩ := V
  refine ⟨⟨(e 0 (by omega) 0).trans v1, v2, fun i hi => ?_⟩, fun i hi => ?_⟩
  · rw [e 1 (by omega), e 2 (by omega), e 3 (by omega)]; exact v3 i hi
  · rw [e 1 (by omega), e 2 (by omega), e 3 (by omega)]; exact v4 i hi
theorem IMr.eq {h g : Hp} {C : Cy} {I : Option (Tn × List Tn × Nt)} (H : IMr h C I) (e0 : hI g 0 10 = hI h 0 10) (e : ∀ a k, 48 ≤ a → a ≤ 54 → hI g a k = hI h a k) : IMr g C I := by
  cases I with
  | none => exact e0.trans H
  | some I =>
    obtain ⟨i1, i2, i3, i4⟩ := H
    have e48 : hI g 48 = hI h 48 := funext fun k => e _ _ (by omega) (by omega)
    exact ⟨e0.trans i1, by rw [e48]; exact i2, i3.fr (fun k => e _ _ (by omega) (by omega)) (funext fun k => e _ _ (by omega) (by omega)), i4.eq (fun i hi k => e _ _ (by omega) (by omega))⟩
/-- the next thing that is noted -/
def ntQ (Q : Nt) (t n : Nat) (w : Int32) : Nt := (qM Q + 1, fun i => if i = qM Q then t else qT Q i, fun i => if i = qM Q then n else qD Q i, fun i => if i = qM Q then w else qW Q i)
def qtS (S : Sx) (Q : Nt) : Sx := (sC S, sT S, sA S, Q, sM S, sP S, sF S, sR S)
theorem nt_ok {h : Hp} {N t n : Nat} {Q : Nt} {v : Int32} (V : NV h 44 N Q) (h8 : qM Q < 8) (ht : t < N) (hn : n ≤ 30) : NV (uI (uI (uI (uI h (44 + 1) (qM Q) (nI t)) (44 + 2) (qM Q) (nI n)) (44 + 3) (qM Q) (if v = 0 then 0 else 1)) 44 0 (nI (qM Q + 1))) 44 N (ntQ Q t n (if v = 0 then 0 else 1)) := by
  obtain ⟨⟨v1, v2, v3⟩, v4⟩ := V
  have e1 : ∀ i, hI (uI (uI (uI (uI h (44 + 1) (qM Q) (nI t)) (44 + 2) (qM Q) (nI n)) (44 + 3) (qM Q) (if v = 0 then 0 else 1)) 44 0 (nI (qM Q + 1))) (44 + 1) i = if i = qM Q then nI t else hI h (44 + 1) i := fun i => by
    rw [hI_uI_ne (by omega), hI_uI_ne (by omega), hI_uI_ne (by omega), hI_uI]; simp
  have e2 : ∀ i, hI (uI (uI (uI (uI h (44 + 1) (qM Q) (nI t)) (44 + 2) (qM Q) (nI n)) (44 + 3) (qM Q) (if v = 0 then 0 else 1)) 44 0 (nI (qM Q + 1))) (44 + 2) i = if i = qM Q then nI n else hI h (44 + 2) i := fun i => by
    rw [hI_uI_ne (by omega), hI_uI_ne (by omega), hI_uI, hI_uI_ne (by omega)]; simp
  have e3 : ∀ i, hI (uI (uI (uI (uI h (44 + 1) (qM Q) (nI t)) (44 + 2) (qM Q) (nI n)) (44 + 3) (qM Q) (if v = 0 then 0 else 1)) 44 0 (nI (qM Q + 1))) (44 + 3) i = if i = qM Q then (if v = 0 then 0 else 1) else hI h (44 + 3) i := fun i => by
    rw [hI_uI_ne (by omega), hI_uI, hI_uI_ne (by omega), hI_uI_ne (by omega)]; simp
  have key : ∀ i, i < qM Q + 1 → hI (uI (uI (uI (uI h (44 + 1) (qM Q) (nI t)) (44 + 2) (qM Q) (nI n)) (44 + 3) (qM Q) (if v = 0 then 0 else 1)) 44 0 (nI (qM Q + 1))) (44 + 1) i = nI (if i = qM Q then t else qT Q i) ∧ (if i = qM Q then t else qT Q i) < N ∧ hI (uI (uI (uI (uI h (44 + 1) (qM Q) (nI t)) (44 + 2) (qM Q) (nI n)) (44 + 3) (qM Q) (if v = 0 then 0 else 1)) 44 0 (nI (qM Q + 1))) (44 + 2) i = nI (if i = qM Q then n else qD Q i) ∧ (if i = qM Q then n else qD Q i) ≤ 30 ∧ hI (uI (uI (uI (uI h (44 + 1) (qM Q) (nI t)) (44 + 2) (qM Q) (nI n)) (44 + 3) (qM Q) (if v = 0 then 0 else 1)) 44 0 (nI (qM Q + 1))) (44 + 3) i = (if i = qM Q then (if v = 0 then (0 : Int32) else 1) else qW Q i) ∧ ((if i = qM Q then (if v = 0 then (0 : Int32) else 1) else qW Q i) = 0 ∨ (if i = qM Q then (if v = 0 then (0 : Int32) else 1) else qW Q i) = 1) := by
    intro i hi
    rw [e1, e2, e3]
    by_cases e : i = qM Q
    · rw [if_pos e, if_pos e, if_pos e, if_pos e, if_pos e, if_pos e]
      refine ⟨rfl, ht, rfl, hn, rfl, ?_⟩
      split
      · exact Or.inl rfl
      · exact Or.inr rfl
    · rw [if_neg e, if_neg e, if_neg e, if_neg e, if_neg e, if_neg e]
      obtain ⟨a1, a2, a3, a4, a5⟩ := v4 i (by omega)
      exact ⟨a1, a2, a3, a4, a5, by rw [← a5]; exact (v3 i (by omega)).2.2⟩
  refine ⟨⟨hI_uI_eq, by show qM Q + 1 ≤ 8; omega, fun i hi => ?_⟩, fun i hi => ?_⟩
  · obtain ⟨a1, a2, a3, a4, a5, a6⟩ := key i hi
    exact ⟨⟨_, a2, a1⟩, ⟨_, a4, a3⟩, by rw [a5]; exact a6⟩
  · obtain ⟨a1, a2, a3, a4, a5, a6⟩ := key i hi
    exact ⟨a1, a2, a3, a4, a5⟩
theorem KI.nt {h g : Hp} {S : Sx} {Q : Nt} (K : KI h S) (F : Fr (fun a => 44 ≤ a ∧ a ≤ 47) h g) (hQ : NV g 44 (cN (sC S)) Q) : KI g (qtS S Q) := by
  obtain ⟨c, c', fs, fr, z, h0, K1, h1, h2, h3, ⟨h4, h5⟩, h6, h7⟩ := K
  have e : ∀ a k, a < 44 ∨ 47 < a → hI g a k = hI h a k := fun a k q => F.2.2.2 a k (by omega)
  exact ⟨c, c', fs, fr, z, ⟨h0.1, h0.2.1, by rw [F.1]; exact h0.2.2⟩, K1.fr F.1 F.2.1 (fun a k q => e a k (by omega)), h1.fr (fun k => e _ _ (by omega)) (funext fun k => e _ _ (by omega)), hQ, h3.eq (e _ _ (by omega)) (fun a k _ _ => e _ _ (by omega)), ⟨(e _ _ (by omega)).trans h4, fun i hi => (e _ _ (by omega)).trans (h5 i hi)⟩, (e _ _ (by omega)).trans h6, fun i hi => (e _ _ (by omega)).trans (h7 i hi)⟩
def oNote (S : Sx) (y n v : Int32) : Sa := ndS (okX (cN (sC S)) y) S (if qM (sQ S) < 8 ∧ (0 ≤ n ∧ n ≤ 30) then (0, nI (qM (sQ S) + 1), qtS S (ntQ (sQ S) y.toNatClampNeg n.toNatClampNeg (if v = 0 then 0 else 1))) else (0, -1, rfS 2 S))
theorem k_note {l : Launch} {d : Nat} {y n v : Int32} {S : Sx} {h : Hp} (hl : l.stackTraces = false) (W : WS S) (K : KI h S) : Ka l (d + 7) mX9_note [.ref 0, .int y, .int n, .int v] h (oNote S y n v) := by
  have K0 := K
  obtain ⟨c, c', fs, fr, z, h0, ⟨hbc, H, hv⟩, R⟩ := K
  obtain ⟨hc, -, hS⟩ := H.hc
  have hth := H.1.1.2.2.2.2.1
  have hN1 := W.1.1.1
  have hQ := R.2.1
  have h8 := W.2.2.2.1.1
  have hfull := r_isFull (l := l) (d := d + 5) hS at44 hQ.1
  refine run_lv [some (.ref 0), some (.int y), some (.int n), some (.int v)] (go := ?_)
  unfold oNote
  refine go_aloadn dX9_note_0 rfl ?_
  refine go_iloadn dX9_note_1 rfl ?_
  refine sg_naV (M' := mX9_needThing) ([.int y]) dX9_note_2 lX9_196 vX9_needThing (wo_L rfl) (by decide) rfl hS (r_needThing hl hS hc hbc hth).1 (r_needThing hl hS hc hbc hth).2 K0 (by decide) rfl rfl (Nat.le_of_ble_eq_true rfl) (fun k2 => ?_)
  skip
  obtain ⟨t, ht, rfl⟩ := ok_nI (by omega) k2
  rw [cl_nI (show t < 2 ^ 31 by omega)]
  by_cases q : qM (sQ S) < 8 ∧ (0 ≤ n ∧ n ≤ 30)
  · rw [if_pos q]
    obtain ⟨j, -, hj, rfl⟩ := rg_nI (a := 0) (b := 30) rfl rfl (by decide) (by decide) q.2
    rw [cl_nI (show j < 2 ^ 31 by omega)]
    rw [if_neg (by omega)] at hfull
    refine go_aloadn dX9_note_5 rfl ?_
    refine sg_getR dX9_note_6 fX9_55 rfl (wo_L rfl) hS (wo_r9 hS rfl) ?_
    refine sg_cVi (M' := mX2_isFull) ([]) dX9_note_9 lX9_288 vX2_isFull (no_L (at44)) (by decide) rfl hS (hfull) rfl (Nat.le_of_ble_eq_true rfl) (Nat.zero_le _) (Nat.zero_le _) ?_
    refine go_if_ne (tgt := 25) dX9_note_12 (by decide) (fun c12 => absurd rfl c12) (fun c12 => ?_)
    refine go_iloadn dX9_note_15 rfl ?_
    refine go_if_lt (tgt := 25) dX9_note_16 (by decide) (fun c16 => absurd c16 (nI_pos (by omega))) (fun c16 => ?_)
    refine go_iloadn dX9_note_19 rfl ?_
    refine go_bipush (v := 30) dX9_note_20 rfl ?_
    refine go_icmp_le (tgt := 32) dX9_note_22 (by decide) (fun c22 => ?_) (fun c22 => absurd (nI_le (b := 30) hj (by decide)) c22)
    refine go_aloadn dX9_note_32 rfl ?_
    refine sg_getR dX9_note_33 fX9_55 rfl (wo_L rfl) hS (wo_r9 hS rfl) ?_
    refine go_iloadn dX9_note_36 rfl ?_
    refine go_iloadn dX9_note_37 rfl ?_
    refine go_iloadn dX9_note_38 rfl ?_
    refine sg_cV0 (M' := mX2_put) ([.int (nI t), .int (nI j), .int v]) dX9_note_39 lX9_291 vX2_put (no_L (at44)) (by decide) rfl hS (r_put hS at44 hQ.1 q.1) rfl (Nat.le_of_ble_eq_true rfl) (Nat.zero_le _) (Nat.zero_le _) ?_
    refine go_aloadn dX9_note_42 rfl ?_
    refine sg_getR dX9_note_43 fX9_55 rfl (wo_L rfl) hS (wo_r9 hS rfl) ?_
    refine sg_getI dX9_note_46 fX9_164 rfl (no_L (at44)) hS ?_
    rw [hI_uI_eq]
    refine go_ireturn dX9_note_49 rfl rfl (Nat.zero_le _) (Nat.zero_le _) ?_
    exact ⟨⟨rfl, rfl⟩, K0.nt ((((Fr.rf.uI (by omega)).uI (by omega)).uI (by omega)).uI (by omega)) (nt_ok hQ q.1 ht hj), (((Fw.rf.uI (by decide)).uI (by decide)).uI (by decide)).uI (by decide)⟩
  · rw [if_neg q]
    refine go_aloadn dX9_note_5 rfl ?_
    refine sg_getR dX9_note_6 fX9_55 rfl (wo_L rfl) hS (wo_r9 hS rfl) ?_
    refine sg_cVi (M' := mX2_isFull) ([]) dX9_note_9 lX9_288 vX2_isFull (no_L (at44)) (by decide) rfl hS (hfull) rfl (Nat.le_of_ble_eq_true rfl) (Nat.zero_le _) (Nat.zero_le _) ?_
    refine go_if_ne (tgt := 25) dX9_note_12 (by decide) (fun c12 => ?_) (fun c12 => ?_)
    · refine go_aloadn dX9_note_25 rfl ?_
      refine go_iconst (v := 2) dX9_note_26 rfl ?_
      refine go_iconst (v := -1) dX9_note_27 rfl ?_
      refine sg_cVi (M' := mX9_refuse) ([.int (nI 2), .int (-1)]) dX9_note_28 lX9_119 vX9_refuse (wo_L rfl) (by decide) rfl hS (r_refuse hS (by decide)) rfl (Nat.le_of_ble_eq_true rfl) (Nat.zero_le _) (Nat.zero_le _) ?_
      refine go_ireturn dX9_note_31 rfl rfl (Nat.zero_le _) (Nat.zero_le _) ?_
      exact ⟨⟨rfl, rfl⟩, K0.rf (by decide), Fw.rf.uI (by decide)⟩
    · refine go_iloadn dX9_note_15 rfl ?_
      refine go_if_lt (tgt := 25) dX9_note_16 (by decide) (fun c16 => ?_) (fun c16 => ?_)
      · refine go_aloadn dX9_note_25 rfl ?_
        refine go_iconst (v := 2) dX9_note_26 rfl ?_
        refine go_iconst (v := -1) dX9_note_27 rfl ?_
        refine sg_cVi (M' := mX9_refuse) ([.int (nI 2), .int (-1)]) dX9_note_28 lX9_119 vX9_refuse (wo_L rfl) (by decide) rfl hS (r_refuse hS (by decide)) rfl (Nat.le_of_ble_eq_true rfl) (Nat.zero_le _) (Nat.zero_le _) ?_
        refine go_ireturn dX9_note_31 rfl rfl (Nat.zero_le _) (Nat.zero_le _) ?_
        exact ⟨⟨rfl, rfl⟩, K0.rf (by decide), Fw.rf.uI (by decide)⟩
      · refine go_iloadn dX9_note_19 rfl ?_
        refine go_bipush (v := 30) dX9_note_20 rfl ?_
        refine go_icmp_le (tgt := 32) dX9_note_22 (by decide) (fun c22 => ?_) (fun c22 => ?_)
        · exact absurd ⟨by rcases Nat.lt_or_ge (qM (sQ S)) 8 with z | z; exact z; (have e : qM (sQ S) = 8 := by omega); rw [if_pos e] at c12; exact absurd c12 (by decide), Int32.not_lt.mp c16, c22⟩ q
        · refine go_aloadn dX9_note_25 rfl ?_
          refine go_iconst (v := 2) dX9_note_26 rfl ?_
          refine go_iconst (v := -1) dX9_note_27 rfl ?_
          refine sg_cVi (M' := mX9_refuse) ([.int (nI 2), .int (-1)]) dX9_note_28 lX9_119 vX9_refuse (wo_L rfl) (by decide) rfl hS (r_refuse hS (by decide)) rfl (Nat.le_of_ble_eq_true rfl) (Nat.zero_le _) (Nat.zero_le _) ?_
          refine go_ireturn dX9_note_31 rfl rfl (Nat.zero_le _) (Nat.zero_le _) ?_
          exact ⟨⟨rfl, rfl⟩, K0.rf (by decide), Fw.rf.uI (by decide)⟩
theorem k_forget {l : Launch} {d : Nat} {S : Sx} {h : Hp} (K : KI h S) : Run l (d + 7) (0, 0) mX9_forget [.ref 0] h (fun v g => v = none ∧ KI g (qtS S (0, fun _ => 0, fun _ => 0, fun _ => 0)) ∧ Fw h g) noX := by
  have K0 := K
  obtain ⟨c, c', fs, fr, z, h0, K1, R⟩ := K
  have hS := K1.2.1.hc.2.2
  refine run_lv [some (.ref 0)] (go := ?_)
  refine go_aloadn dX9_forget_0 rfl ?_
  refine sg_getR dX9_forget_1 fX9_55 rfl (wo_L rfl) hS (wo_r9 hS rfl) ?_
  refine sg_cV0 (M' := mX2_clear) ([]) dX9_forget_4 lX9_126 vX2_clear (no_L (at44)) (by decide) rfl hS (r_nClear hS at44) rfl (Nat.le_of_ble_eq_true rfl) (Nat.zero_le _) (Nat.zero_le _) ?_
  refine go_return dX9_forget_7 rfl (Nat.zero_le _) (Nat.zero_le _) ?_
  exact ⟨rfl, K0.nt (Fr.rf.uI (by omega)) ⟨⟨hI_uI_eq, by decide, fun i hi => absurd hi (Nat.not_lt_zero _)⟩, fun i hi => absurd hi (Nat.not_lt_zero _)⟩, Fw.rf.uI (by decide)⟩
theorem k_fault {l : Launch} {d : Nat} {S : Sx} {h : Hp} (K : KI h S) : Ka l (d + 7) mX9_fault [.ref 0] h (0, sF S, S) := by
  have K0 := K
  obtain ⟨c, c', fs, fr, z, h0, K1, R⟩ := K
  have hS := K1.2.1.hc.2.2
  refine run_lv [some (.ref 0)] (go := ?_)
  refine go_aloadn dX9_fault_0 rfl ?_
  refine sg_getI dX9_fault_1 fX9_13 rfl (wo_L rfl) hS ?_
  rw [R.2.2.2.2.1]
  refine go_ireturn dX9_fault_4 rfl rfl (Nat.zero_le _) (Nat.zero_le _) ?_
  exact ⟨⟨rfl, rfl⟩, K0, Fw.rf⟩
/-! copies -/
theorem AVr.copy {h g : Hp} {a o : Nat} {C : Cy} {A : List Tn} (W : WC C) (H : AVr h o C A) (e1 : hI g a 1 = hI h o 1) (e2 : hI g a 2 = hI h o 2) (e3 : ∀ k, k < 760 → hI g (a + 1) k = hI h (o + 1) k) : AVr g a C A := by
  obtain ⟨F, ⟨⟨f1, f2⟩, m1, m2⟩, h2⟩ := H
  exact ⟨F, ⟨⟨e1.trans f1, f2⟩, e2.trans m1, m2⟩, fun i hi => (h2 i hi).cong W (fun k hk => e3 _ (by omega))⟩
theorem NV.copy {h g : Hp} {n o N : Nat} {Q : Nt} (V : NV h o N Q) (e0 : hI g n 0 = hI h o 0) (e : ∀ i, 1 ≤ i → i ≤ 3 → ∀ k, k < 8 → hI g (n + i) k = hI h (o + i) k) : NV g n N Q := by
  obtain ⟨⟨v1, v2, v3⟩, v4⟩ := V
  refine ⟨⟨e0.trans v1, v2, fun i hi => ?_⟩, fun i hi => ?_⟩
  · rw [e 1 (by omega) (by omega) i (by omega), e 2 (by omega) (by omega) i (by omega), e 3 (by omega) (by omega) i (by omega)]; exact v3 i hi
  · rw [e 1 (by omega) (by omega) i (by omega), e 2 (by omega) (by omega) i (by omega), e 3 (by omega) (by omega) i (by omega)]; exact v4 i hi
theorem ac_at {h : Hp} {a o : Nat} : hI (acH h a o) a 1 = hI h o 1 ∧ hI (acH h a o) a 2 = hI h o 2 ∧ (∀ k, k < 760 → hI (acH h a o) (a + 1) k = hI h (o + 1) k) ∧ ∀ x k, x ≠ a → x ≠ a + 1 → hI (acH h a o) x k = hI h x k := by
  unfold acH
  refine ⟨?_, hI_uI_eq, fun k hk => ?_, fun x k h1 h2 => ?_⟩
  · rw [hI_uI_ne (by omega), hI_uI_eq]
  · rw [hI_uI_ne (by omega), hI_uI_ne (by omega), hI_cpH, if_pos rfl, if_pos hk]
  · rw [hI_uI_ne (by omega), hI_uI_ne (by omega), hI_cpH, if_neg h2]
theorem nc_at {h : Hp} {n o : Nat} (hno : ∀ i j, i ≤ 3 → j ≤ 3 → o + i ≠ n + j) : hI (ncH h n o) n 0 = hI h o 0 ∧ (∀ i, 1 ≤ i → i ≤ 3 → ∀ k, k < 8 → hI (ncH h n o) (n + i) k = hI h (o + i) k) ∧ ∀ x k, x < n ∨ n + 3 < x → hI (ncH h n o) x k = hI h x k := by
  unfold ncH
  refine ⟨hI_uI_eq, fun i h1 h3 k hk => ?_, fun x k hx => ?_⟩
  · rw [hI_uI_ne (by omega), hI_cpH]
    have := hno 3 1 (by omega) (by omega)
    have := hno 3 2 (by omega) (by omega)
    have := hno 2 1 (by omega) (by omega)
    by_cases i3 : i = 3
    · subst i3
      rw [if_pos rfl, if_pos hk, hI_cpH, if_neg (hno 3 2 (by omega) (by omega)), hI_cpH, if_neg (hno 3 1 (by omega) (by omega))]
    · rw [if_neg (by omega), hI_cpH]
      by_cases i2 : i = 2
      · subst i2
        rw [if_pos rfl, if_pos hk, hI_cpH, if_neg (hno 2 1 (by omega) (by omega))]
      · have i1 : i = 1 := by omega
        subst i1
        rw [if_neg (by omega), hI_cpH, if_pos rfl, if_pos hk]
  · rw [hI_uI_ne (by omega), hI_cpH, if_neg (by omega), hI_cpH, if_neg (by omega), hI_cpH, if_neg (by omega)]
