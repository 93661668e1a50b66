/-! what is read of a city -/
abbrev Ry : Type := (Nat × Nat × Nat) × (Nat × Nat) × Cy × Tn × (Nat × Nat) × (Nat × Nat × Nat × Nat)
abbrev yS (R : Ry) : Nat := R.1.1
abbrev yF (R : Ry) : Nat × Nat := R.1.2
abbrev yP (R : Ry) : Nat := R.2.1.1
abbrev yM (R : Ry) : Nat := R.2.1.2
abbrev yC (R : Ry) : Cy := R.2.2.1
abbrev yT (R : Ry) : Tn := R.2.2.2.1
abbrev yK (R : Ry) : Nat × Nat := R.2.2.2.2.1
abbrev yR (R : Ry) : Nat × Nat × Nat × Nat := R.2.2.2.2.2
def yAt (R : Ry) (s : Nat) : Ry := ((s, R.1.2), R.2)
def yFl (R : Ry) (s y : Nat) : Ry := ((s, y, s), R.2)
/-- the line must end at s -/
def yEnd (b : Nat → Nat) (n : Nat) (R : Ry) (s : Nat) : Ry := if tkK b n s = 3 ∧ b s = 59 then yAt R (nx b n s) else yFl R s 1
/-- the class's city while it is read -/
def KY (g : Hp) (c : Nat) (R : Ry) : Prop := (hR g 3 7 = some c ∧ CityAt c) ∧ (hI g 3 8 = nI (yP R) ∧ yP R ≤ 1 ∧ hI g 3 9 = nI (yM R) ∧ yM R ≤ 1 ∧ hI g 3 10 = 0 ∧ hI g 3 11 = -1) ∧
  (hI g c 0 = nI (cL (yC R)) ∧ hI g c 1 = nI (cP (yC R)) ∧ hI g c 2 = nI (cN (yC R)) ∧ hI g c 3 = nI (cM (yC R)) ∧ hI g c 13 = nI (yK R).1) ∧
  (∀ p, p < cP (yC R) → hI g (c + 1) p = tV (yT R) p ∧ hI g (c + 2) p = cBl (yC R) p ∧ hI g (c + 3) p = nI (cWl (yC R) p)) ∧ (∀ i, i < 48 → hI g (c + 4) i = tW (yT R) i) ∧
  (∀ t, t < cN (yC R) → hI g (c + 5) t = cWt (yC R) t ∧ hI g (c + 6) t = tX (yT R) t ∧ hI g (c + 7) t = tO (yT R) t) ∧ (∀ t, t < 10 → hI g (c + 8) t = tB (yT R) t) ∧
  (hI g (c + 10) 0 = nI (yR R).1 ∧ hI g (c + 10) 1 = nI ((yR R).1 + (cSh (yC R)).1) ∧ hI g (c + 11) 0 = nI (yR R).2.1 ∧ hI g (c + 11) 1 = nI ((yR R).2.1 + (cRe (yC R)).1)) ∧
  (∀ j, j < (cSh (yC R)).1 → hI g (c + 9) ((yR R).1 + j) = encC ((cSh (yC R)).2 j)) ∧ ∀ j, j < (cRe (yC R)).1 → hI g (c + 9) ((yR R).2.1 + j) = encC ((cRe (yC R)).2 j)
/-- what reading changes in the class -/
def Scy (c a k : Nat) : Prop := (a = 3 ∧ 2 ≤ k) ∨ a = 5 ∨ (c ≤ a ∧ a ≤ c + 11)
def SFy (a k : Nat) : Prop := a = 3 ∧ ((2 ≤ k ∧ k ≤ 6) ∨ k = 10 ∨ k = 11)
theorem SFy.sc {c a k : Nat} (h : SFy a k) : Scy c a k := Or.inl ⟨h.1, by have := h.2; omega⟩
theorem SN4.sf {a k : Nat} (h : SN4 a k) : SFy a k := ⟨h.1, Or.inl h.2⟩
theorem at_c {c : Nat} (h : CityAt c) : c = 6 ∨ c = 18 := h
theorem KY.fz {h g : Hp} {c : Nat} {R R' : Ry} (K : KY h c R) (F : Fz SN4 h g) (hr : R'.2 = R.2) : KY g c R' := by
  have hc := at_c K.1.2
  have e : ∀ k, c ≤ k → ∀ j, hI g k j = hI h k j := fun k hk j => F.I (fun q => by have := q.1; omega)
  have e3 : ∀ j, 7 ≤ j → hI g 3 j = hI h 3 j := fun j hj => F.I (fun q => by have := q.2.2; omega)
  obtain ⟨⟨k1, k2⟩, ⟨k3, k4, k5, k6, k7, k8⟩, k9, k10, k11, k12, k13, k14, k15, k16⟩ := K
  obtain ⟨r1, r2⟩ := R'
  dsimp only at hr
  subst hr
  unfold KY
  rw [F.1, e3 8 (by omega), e3 9 (by omega), e3 10 (by omega), e3 11 (by omega), e c (by omega), e c (by omega), e c (by omega), e c (by omega), e c (by omega), e (c + 10) (by omega), e (c + 10) (by omega), e (c + 11) (by omega), e (c + 11) (by omega)]
  refine ⟨⟨k1, k2⟩, ⟨k3, k4, k5, k6, k7, k8⟩, k9, ?_, ?_, ?_, ?_, k14, ?_, ?_⟩
  · intro p hp; rw [e _ (by omega), e _ (by omega), e _ (by omega)]; exact k10 p hp
  · intro p hp; rw [e _ (by omega)]; exact k11 p hp
  · intro p hp; rw [e _ (by omega), e _ (by omega), e _ (by omega)]; exact k12 p hp
  · intro p hp; rw [e _ (by omega)]; exact k13 p hp
  · intro p hp; rw [e _ (by omega)]; exact k15 p hp
  · intro p hp; rw [e _ (by omega)]; exact k16 p hp
/-- a step of the class's reader: on, or a fault -/
def PF (S : Nat → Nat → Prop) (h g : Hp) (b : Nat → Nat) (n s y : Nat) : Prop := Fz S h g ∧ (y = 0 → Fz SN4 h g ∧ RC g b n s) ∧ (¬ y = 0 → hI g 3 10 = nI y ∧ hI g 3 11 = nI s)
def CK (h g : Hp) (c : Nat) (b : Nat → Nat) (n : Nat) (R : Ry) : Prop := Fz (Scy c) h g ∧ ((yF R).1 = 0 → RC g b n (yS R) ∧ KY g c R) ∧ (¬ (yF R).1 = 0 → hI g 3 10 = nI (yF R).1 ∧ hI g 3 11 = nI (yF R).2)
theorem pf_fu {h g : Hp} {b : Nat → Nat} {n s y : Nat} (F : Fz SN4 h g) (R : RC g b n s) : PF SFy h (fuH g s y) b n s y := by
  unfold fuH
  by_cases z : y = 0
  · rw [if_pos z]; exact ⟨F.sub (fun _ _ q => q.sf), fun _ => ⟨F, R⟩, fun q => absurd z q⟩
  · rw [if_neg z]
    exact ⟨((F.sub (fun _ _ q => q.sf)).uI ⟨rfl, by omega⟩).uI ⟨rfl, by omega⟩, fun q => absurd q z, fun _ => ⟨by rw [hI_uI_ne (by omega), hI_uI_eq], hI_uI_eq⟩⟩
theorem ck_fl {h g : Hp} {b : Nat → Nat} {n s y c : Nat} {R : Ry} (F : Fz (Scy c) h g) (hy : 0 < y) : CK h (fuH g s y) c b n (yFl R s y) := by
  unfold fuH
  rw [if_neg (by omega)]
  exact ⟨(F.uI (Or.inl ⟨rfl, by omega⟩)).uI (Or.inl ⟨rfl, by omega⟩), fun q => absurd (show y = 0 from q) (by omega), fun _ => ⟨by rw [hI_uI_ne (by omega), hI_uI_eq]; rfl, hI_uI_eq⟩⟩
theorem ck_pf {h g0 g : Hp} {b : Nat → Nat} {n s y c : Nat} {R : Ry} (F0 : Fz (Scy c) h g0) (P : PF SFy g0 g b n s y) (hy : ¬ y = 0) : CK h g c b n (yFl R s y) :=
  ⟨F0.tr (P.1.sub (fun _ _ q => q.sc)), fun q => absurd (show y = 0 from q) hy, fun _ => P.2.2 hy⟩
theorem r_nextR {l : Launch} {d n s : Nat} {b : Nat → Nat} {h : Hp} (hS : St h) (R : RC h b n s) : Ey l (d + 5) mX3_next [.ref 3] h none (fun g => Fz SN4 h g ∧ RC g b n (nx b n s)) := r_next hS R.1 R.2.2.2.1 (tkE_le R.2.2.2.2.1)
theorem r_nextIsNumber {l : Launch} {d n s : Nat} {b : Nat → Nat} {h : Hp} (hS : St h) (R : RC h b n s) : Ey l (d + 6) mX3_nextIsNumber [.ref 3] h (some (.int (if ftF b n (nx b n s) = 0 then 1 else 0))) (fun g => PF SFy h g b n (nx b n s) (ftF b n (nx b n s))) := by
  refine run_lv [some (.ref 3)] (go := ?_)
  have nxt := fun d => r_nextR (l := l) (d := d) hS R
  by_cases z : ftF b n (nx b n s) = 0
  · rw [if_pos z]
    refine go_aloadn dX3_nextIsNumber_0 rfl ?_
    refine sg_rV0 (M' := mX3_next) ([]) dX3_nextIsNumber_1 lX3_54 vX3_next (rd_L rfl) (by decide) rfl hS (nxt _) rfl (Nat.le_of_ble_eq_true rfl) (Nat.zero_le _) (Nat.zero_le _) (fun g F => ?_)
    have hS := F.1.St hS
    refine go_aloadn dX3_nextIsNumber_4 rfl ?_
    refine sg_cVi (M' := mX3_isFitNumber) ([]) dX3_nextIsNumber_5 lX3_138 vX3_isFitNumber (rd_L rfl) (by decide) rfl hS (r_isFitNumber hS F.2) rfl (Nat.le_of_ble_eq_true rfl) (Nat.zero_le _) (Nat.zero_le _) ?_
    rw [if_pos z]
    refine go_ireturn dX3_nextIsNumber_8 rfl rfl (Nat.zero_le _) (Nat.zero_le _) ?_
    exact ⟨rfl, pf_fu F.1 F.2⟩
  · rw [if_neg z]
    refine go_aloadn dX3_nextIsNumber_0 rfl ?_
    refine sg_rV0 (M' := mX3_next) ([]) dX3_nextIsNumber_1 lX3_54 vX3_next (rd_L rfl) (by decide) rfl hS (nxt _) rfl (Nat.le_of_ble_eq_true rfl) (Nat.zero_le _) (Nat.zero_le _) (fun g F => ?_)
    have hS := F.1.St hS
    refine go_aloadn dX3_nextIsNumber_4 rfl ?_
    refine sg_cVi (M' := mX3_isFitNumber) ([]) dX3_nextIsNumber_5 lX3_138 vX3_isFitNumber (rd_L rfl) (by decide) rfl hS (r_isFitNumber hS F.2) rfl (Nat.le_of_ble_eq_true rfl) (Nat.zero_le _) (Nat.zero_le _) ?_
    rw [if_neg z]
    refine go_ireturn dX3_nextIsNumber_8 rfl rfl (Nat.zero_le _) (Nat.zero_le _) ?_
    exact ⟨rfl, pf_fu F.1 F.2⟩
theorem nm_ft {b : Nat → Nat} {n s lo hi : Nat} : (¬ ftF b n s = 0 → nmF b n s lo hi = ftF b n s) ∧ (ftF b n s = 0 → tkK b n s = 2 ∧ nmF b n s lo hi = (if nvT b n s < lo ∨ hi < nvT b n s then 2 else 0)) := by
  unfold ftF nmF
  by_cases z : tkK b n s = 2
  · rw [if_pos z, if_pos z]
    by_cases q : 4 < tkE b n s - s
    · rw [if_pos q, if_pos (Or.inl q)]; exact ⟨fun _ => rfl, fun q => absurd q (by decide)⟩
    · rw [if_neg q]
      refine ⟨fun q => absurd rfl q, fun _ => ⟨z, ?_⟩⟩
      by_cases x : nvT b n s < lo ∨ hi < nvT b n s
      · rw [if_pos x, if_pos (Or.inr x)]
      · rw [if_neg x, if_neg (fun p => p.elim q x)]
  · rw [if_neg z, if_neg z]; exact ⟨fun _ => rfl, fun q => absurd q (by decide)⟩
theorem on_ft {b : Nat → Nat} {n s m : Nat} : (¬ ftF b n s = 0 → onF b n s m = ftF b n s) ∧ (ftF b n s = 0 → tkK b n s = 2 ∧ onF b n s m = (if m ≤ nvT b n s then 3 else 0)) := by
  unfold ftF onF
  by_cases z : tkK b n s = 2
  · rw [if_pos z, if_pos z]
    by_cases q : 4 < tkE b n s - s
    · rw [if_pos q, if_pos q]; exact ⟨fun _ => rfl, fun q => absurd q (by decide)⟩
    · rw [if_neg q, if_neg q]
      exact ⟨fun q => absurd rfl q, fun _ => ⟨z, rfl⟩⟩
  · rw [if_neg z, if_neg z]; exact ⟨fun _ => rfl, fun q => absurd q (by decide)⟩
theorem pf_fu2 {h g : Hp} {b : Nat → Nat} {n s y : Nat} (P : PF SFy h g b n s 0) : PF SFy h (fuH g s y) b n s y := pf_fu (P.2.1 rfl).1 (P.2.1 rfl).2
theorem r_nextIsWithin {l : Launch} {d n s lo hi : Nat} {b : Nat → Nat} {h : Hp} (hS : St h) (R : RC h b n s) (hlo : lo ≤ 100) (hhi : hi ≤ 100) : Ey l (d + 7) mX3_nextIsWithin [.ref 3, .int (nI lo), .int (nI hi)] h (some (.int (if nmF b n (nx b n s) lo hi = 0 then 1 else 0))) (fun g => PF SFy h g b n (nx b n s) (nmF b n (nx b n s) lo hi)) := by
  refine run_lv [some (.ref 3), some (.int (nI lo)), some (.int (nI hi))] (go := ?_)
  have nxt := fun d => r_nextIsNumber (l := l) (d := d) hS R
  generalize nx b n s = t at *
  obtain ⟨f1, f2⟩ := nm_ft (b := b) (n := n) (s := t) (lo := lo) (hi := hi)
  by_cases z : ftF b n t = 0
  · obtain ⟨k2, f2⟩ := f2 z
    have nl := nvT_lt k2
    rw [f2]
    rw [z] at nxt
    by_cases bd : nvT b n t < lo ∨ hi < nvT b n t
    · rw [if_pos bd, if_neg (by decide)]
      have go23 : ∀ g, PF SFy h g b n t 0 → Go l (rmOf (d + 7) (0, 0)) mX3_nextIsWithin (hN h) (Zm (0, 0) (fun v h1 => v = some (.int 0) ∧ PF SFy h h1 b n t 2) noX) 23 [some (.ref 3), some (.int (nI lo)), some (.int (nI hi))] [] g 0 0 := by
        intro g P
        have hS := P.1.St hS
        refine go_aloadn dX3_nextIsWithin_23 rfl ?_
        refine go_iconst (v := 2) dX3_nextIsWithin_24 rfl ?_
        refine sg_cVi (M' := mX3_fail) ([.int (nI 2)]) dX3_nextIsWithin_25 lX3_131 vX3_fail (rd_L rfl) (by decide) rfl hS (r_failR hS (P.2.1 rfl).2 (by decide)) rfl (Nat.le_of_ble_eq_true rfl) (Nat.zero_le _) (Nat.zero_le _) ?_
        refine go_if_eq (tgt := 35) dX3_nextIsWithin_28 (by decide) (fun c28 => ?_) (fun c28 => absurd rfl c28)
        refine go_iconst (v := 0) dX3_nextIsWithin_35 rfl ?_
        refine go_ireturn dX3_nextIsWithin_36 rfl rfl (Nat.zero_le _) (Nat.zero_le _) ?_
        exact ⟨rfl, pf_fu2 P⟩
      refine go_aloadn dX3_nextIsWithin_0 rfl ?_
      refine sg_rVi (M' := mX3_nextIsNumber) ([]) dX3_nextIsWithin_1 lX3_141 vX3_nextIsNumber (rd_L rfl) (by decide) rfl hS (nxt _) rfl (Nat.le_of_ble_eq_true rfl) (Nat.zero_le _) (Nat.zero_le _) (fun g P => ?_)
      rw [if_pos rfl]; have hS := P.1.St hS; have e5 := ((P.2.1 rfl).2.2.2.2.2.2 k2).1
      refine go_if_eq (tgt := 35) dX3_nextIsWithin_4 (by decide) (fun c4 => absurd c4 (by decide)) (fun c4 => ?_)
      refine go_aloadn dX3_nextIsWithin_7 rfl ?_
      refine sg_getI dX3_nextIsWithin_8 fX3_77 rfl (rd_L rfl) hS ?_
      rw [e5]
      refine go_iloadn dX3_nextIsWithin_11 rfl ?_
      refine go_icmp_lt (tgt := 23) dX3_nextIsWithin_12 (by decide) (fun c12 => go23 _ P) (fun c12 => ?_)
      refine go_aloadn dX3_nextIsWithin_15 rfl ?_
      refine sg_getI dX3_nextIsWithin_16 fX3_77 rfl (rd_L rfl) hS ?_
      rw [e5]
      refine go_iloadn dX3_nextIsWithin_19 rfl ?_
      refine go_icmp_le (tgt := 31) dX3_nextIsWithin_20 (by decide) (fun c20 => absurd bd (fun q => q.elim (fun q => c12 (nI_lt q (by omega))) (fun q => absurd c20 (Int32.not_le.mpr (nI_lt q (by omega)))))) (fun c20 => ?_)
      exact go23 _ P
    · rw [if_neg bd, if_pos rfl]
      refine go_aloadn dX3_nextIsWithin_0 rfl ?_
      refine sg_rVi (M' := mX3_nextIsNumber) ([]) dX3_nextIsWithin_1 lX3_141 vX3_nextIsNumber (rd_L rfl) (by decide) rfl hS (nxt _) rfl (Nat.le_of_ble_eq_true rfl) (Nat.zero_le _) (Nat.zero_le _) (fun g P => ?_)
      rw [if_pos rfl]; have hS := P.1.St hS; have e5 := ((P.2.1 rfl).2.2.2.2.2.2 k2).1
      refine go_if_eq (tgt := 35) dX3_nextIsWithin_4 (by decide) (fun c4 => absurd c4 (by decide)) (fun c4 => ?_)
      refine go_aloadn dX3_nextIsWithin_7 rfl ?_
      refine sg_getI dX3_nextIsWithin_8 fX3_77 rfl (rd_L rfl) hS ?_
      rw [e5]
      refine go_iloadn dX3_nextIsWithin_11 rfl ?_
      refine go_icmp_lt (tgt := 23) dX3_nextIsWithin_12 (by decide) (fun c12 => absurd c12 (nI_nlt (by omega) (by omega))) (fun c12 => ?_)
      refine go_aloadn dX3_nextIsWithin_15 rfl ?_
      refine sg_getI dX3_nextIsWithin_16 fX3_77 rfl (rd_L rfl) hS ?_
      rw [e5]
      refine go_iloadn dX3_nextIsWithin_19 rfl ?_
      refine go_icmp_le (tgt := 31) dX3_nextIsWithin_20 (by decide) (fun c20 => ?_) (fun c20 => absurd (nI_le (by omega) (by omega)) c20)
      refine go_iconst (v := 1) dX3_nextIsWithin_31 rfl ?_
      refine go_goto (tgt := 36) dX3_nextIsWithin_32 (by decide) ?_
      refine go_ireturn dX3_nextIsWithin_36 rfl rfl (Nat.zero_le _) (Nat.zero_le _) ?_
      exact ⟨rfl, P⟩
  · rw [f1 z, if_neg z]
    refine go_aloadn dX3_nextIsWithin_0 rfl ?_
    refine sg_rVi (M' := mX3_nextIsNumber) ([]) dX3_nextIsWithin_1 lX3_141 vX3_nextIsNumber (rd_L rfl) (by decide) rfl hS (nxt _) rfl (Nat.le_of_ble_eq_true rfl) (Nat.zero_le _) (Nat.zero_le _) (fun g P => ?_)
    rw [if_neg z]
    refine go_if_eq (tgt := 35) dX3_nextIsWithin_4 (by decide) (fun c4 => ?_) (fun c4 => absurd rfl c4)
    refine go_iconst (v := 0) dX3_nextIsWithin_35 rfl ?_
    refine go_ireturn dX3_nextIsWithin_36 rfl rfl (Nat.zero_le _) (Nat.zero_le _) ?_
    exact ⟨rfl, P⟩
theorem r_nextIsPerson {l : Launch} {d n s c : Nat} {b : Nat → Nat} {h : Hp} {Y : Ry} (hS : St h) (R : RC h b n s) (K : KY h c Y) (hP : cP (yC Y) ≤ 100) : Ey l (d + 7) mX3_nextIsPerson [.ref 3] h (some (.int (if onF b n (nx b n s) (cP (yC Y)) = 0 then 1 else 0))) (fun g => PF SFy h g b n (nx b n s) (onF b n (nx b n s) (cP (yC Y)))) := by
  refine run_lv [some (.ref 3)] (go := ?_)
  have nxt := fun d => r_nextIsNumber (l := l) (d := d) hS R
  generalize nx b n s = t at *
  obtain ⟨f1, f2⟩ := on_ft (b := b) (n := n) (s := t) (m := cP (yC Y))
  by_cases z : ftF b n t = 0
  · obtain ⟨k2, f2⟩ := f2 z
    have nl := nvT_lt k2
    rw [f2]
    rw [z] at nxt
    by_cases bd : cP (yC Y) ≤ nvT b n t
    · rw [if_pos bd, if_neg (by decide)]
      refine go_aloadn dX3_nextIsPerson_0 rfl ?_
      refine sg_rVi (M' := mX3_nextIsNumber) ([]) dX3_nextIsPerson_1 lX3_141 vX3_nextIsNumber (rd_L rfl) (by decide) rfl hS (nxt _) rfl (Nat.le_of_ble_eq_true rfl) (Nat.zero_le _) (Nat.zero_le _) (fun g P => ?_)
      rw [if_pos rfl]; have hS := P.1.St hS; have e5 := ((P.2.1 rfl).2.2.2.2.2.2 k2).1; have K2 := K.fz (P.2.1 rfl).1 rfl
      refine go_if_eq (tgt := 33) dX3_nextIsPerson_4 (by decide) (fun c4 => absurd c4 (by decide)) (fun c4 => ?_)
      refine go_aloadn dX3_nextIsPerson_7 rfl ?_
      refine sg_getI dX3_nextIsPerson_8 fX3_77 rfl (rd_L rfl) hS ?_
      rw [e5]
      refine go_aloadn dX3_nextIsPerson_11 rfl ?_
      refine sg_getR dX3_nextIsPerson_12 fX3_29 rfl (rd_L rfl) hS (P.1.1 ▸ K.1.1) ?_
      refine sg_getI dX3_nextIsPerson_15 fX3_144 rfl (ct_L K.1.2) hS ?_
      rw [K2.2.2.1.2.1]
      refine go_icmp_lt (tgt := 29) dX3_nextIsPerson_18 (by decide) (fun c18 => absurd c18 (nI_nlt bd (by omega))) (fun c18 => ?_)
      refine go_aloadn dX3_nextIsPerson_21 rfl ?_
      refine go_iconst (v := 3) dX3_nextIsPerson_22 rfl ?_
      refine sg_cVi (M' := mX3_fail) ([.int (nI 3)]) dX3_nextIsPerson_23 lX3_131 vX3_fail (rd_L rfl) (by decide) rfl hS (r_failR hS (P.2.1 rfl).2 (by decide)) rfl (Nat.le_of_ble_eq_true rfl) (Nat.zero_le _) (Nat.zero_le _) ?_
      refine go_if_eq (tgt := 33) dX3_nextIsPerson_26 (by decide) (fun c26 => ?_) (fun c26 => absurd rfl c26)
      refine go_iconst (v := 0) dX3_nextIsPerson_33 rfl ?_
      refine go_ireturn dX3_nextIsPerson_34 rfl rfl (Nat.zero_le _) (Nat.zero_le _) ?_
      exact ⟨rfl, pf_fu2 P⟩
    · rw [if_neg bd, if_pos rfl]
      refine go_aloadn dX3_nextIsPerson_0 rfl ?_
      refine sg_rVi (M' := mX3_nextIsNumber) ([]) dX3_nextIsPerson_1 lX3_141 vX3_nextIsNumber (rd_L rfl) (by decide) rfl hS (nxt _) rfl (Nat.le_of_ble_eq_true rfl) (Nat.zero_le _) (Nat.zero_le _) (fun g P => ?_)
      rw [if_pos rfl]; have hS := P.1.St hS; have e5 := ((P.2.1 rfl).2.2.2.2.2.2 k2).1; have K2 := K.fz (P.2.1 rfl).1 rfl
      refine go_if_eq (tgt := 33) dX3_nextIsPerson_4 (by decide) (fun c4 => absurd c4 (by decide)) (fun c4 => ?_)
      refine go_aloadn dX3_nextIsPerson_7 rfl ?_
      refine sg_getI dX3_nextIsPerson_8 fX3_77 rfl (rd_L rfl) hS ?_
      rw [e5]
      refine go_aloadn dX3_nextIsPerson_11 rfl ?_
      refine sg_getR dX3_nextIsPerson_12 fX3_29 rfl (rd_L rfl) hS (P.1.1 ▸ K.1.1) ?_
      refine sg_getI dX3_nextIsPerson_15 fX3_144 rfl (ct_L K.1.2) hS ?_
      rw [K2.2.2.1.2.1]
      refine go_icmp_lt (tgt := 29) dX3_nextIsPerson_18 (by decide) (fun c18 => ?_) (fun c18 => absurd (nI_lt (by omega) (by omega)) c18)
      refine go_iconst (v := 1) dX3_nextIsPerson_29 rfl ?_
      refine go_goto (tgt := 34) dX3_nextIsPerson_30 (by decide) ?_
      refine go_ireturn dX3_nextIsPerson_34 rfl rfl (Nat.zero_le _) (Nat.zero_le _) ?_
      exact ⟨rfl, P⟩
  · rw [f1 z, if_neg z]
    refine go_aloadn dX3_nextIsPerson_0 rfl ?_
    refine sg_rVi (M' := mX3_nextIsNumber) ([]) dX3_nextIsPerson_1 lX3_141 vX3_nextIsNumber (rd_L rfl) (by decide) rfl hS (nxt _) rfl (Nat.le_of_ble_eq_true rfl) (Nat.zero_le _) (Nat.zero_le _) (fun g P => ?_)
    rw [if_neg z]
    refine go_if_eq (tgt := 33) dX3_nextIsPerson_4 (by decide) (fun c4 => ?_) (fun c4 => absurd rfl c4)
    refine go_iconst (v := 0) dX3_nextIsPerson_33 rfl ?_
    refine go_ireturn dX3_nextIsPerson_34 rfl rfl (Nat.zero_le _) (Nat.zero_le _) ?_
    exact ⟨rfl, P⟩
theorem r_lineEnd {l : Launch} {d n s c : Nat} {b : Nat → Nat} {h h0 : Hp} {Y : Ry} (hS : St h) (F0 : Fz (Scy c) h0 h) (R : RC h b n s) (K : KY h c Y) (f0 : (yF Y).1 = 0) : Ey l (d + 6) mX3_lineEnd [.ref 3] h (some (.int (if (yF (yEnd b n Y s)).1 = 0 then 1 else 0))) (fun g => CK h0 g c b n (yEnd b n Y s)) := by
  refine run_lv [some (.ref 3)] (go := ?_)
  unfold yEnd
  by_cases z : tkK b n s = 3 ∧ b s = 59
  · rw [if_pos z, if_pos (show (yF (yAt Y (nx b n s))).1 = 0 from f0)]
    have nxt := fun d => r_nextR (l := l) (d := d) hS R
    refine go_aloadn dX3_lineEnd_0 rfl ?_
    refine go_bipush (v := 59) dX3_lineEnd_1 rfl ?_
    refine sg_cVi (M' := mX3_isSign) ([.int (nI 59)]) dX3_lineEnd_3 lX3_134 vX3_isSign (rd_L rfl) (by decide) rfl hS (r_isSign hS R (by decide)) rfl (Nat.le_of_ble_eq_true rfl) (Nat.zero_le _) (Nat.zero_le _) ?_
    rw [if_pos z]
    refine go_if_ne (tgt := 15) dX3_lineEnd_6 (by decide) (fun c6 => ?_) (fun c6 => absurd c6 (by decide))
    refine go_aloadn dX3_lineEnd_15 rfl ?_
    refine sg_rV0 (M' := mX3_next) ([]) dX3_lineEnd_16 lX3_54 vX3_next (rd_L rfl) (by decide) rfl hS (nxt _) rfl (Nat.le_of_ble_eq_true rfl) (Nat.zero_le _) (Nat.zero_le _) (fun g F => ?_)
    refine go_iconst (v := 1) dX3_lineEnd_19 rfl ?_
    refine go_ireturn dX3_lineEnd_20 rfl rfl (Nat.zero_le _) (Nat.zero_le _) ?_
    exact ⟨rfl, F0.tr (F.1.sub (fun _ _ q => q.sf.sc)), fun _ => ⟨F.2, K.fz F.1 rfl⟩, fun q => absurd f0 q⟩
  · rw [if_neg z, if_neg (show ¬ (yF (yFl Y s 1)).1 = 0 from by show ¬ (1 : Nat) = 0; decide)]
    refine go_aloadn dX3_lineEnd_0 rfl ?_
    refine go_bipush (v := 59) dX3_lineEnd_1 rfl ?_
    refine sg_cVi (M' := mX3_isSign) ([.int (nI 59)]) dX3_lineEnd_3 lX3_134 vX3_isSign (rd_L rfl) (by decide) rfl hS (r_isSign hS R (by decide)) rfl (Nat.le_of_ble_eq_true rfl) (Nat.zero_le _) (Nat.zero_le _) ?_
    rw [if_neg z]
    refine go_if_ne (tgt := 15) dX3_lineEnd_6 (by decide) (fun c6 => absurd rfl c6) (fun c6 => ?_)
    refine go_aloadn dX3_lineEnd_9 rfl ?_
    refine go_iconst (v := 1) dX3_lineEnd_10 rfl ?_
    refine sg_cVi (M' := mX3_fail) ([.int (nI 1)]) dX3_lineEnd_11 lX3_131 vX3_fail (rd_L rfl) (by decide) rfl hS (r_failR hS R (by decide)) rfl (Nat.le_of_ble_eq_true rfl) (Nat.zero_le _) (Nat.zero_le _) ?_
    refine go_ireturn dX3_lineEnd_14 rfl rfl (Nat.zero_le _) (Nat.zero_le _) ?_
    exact ⟨rfl, ck_fl F0 (by decide)⟩
