/-! the model's reader: where it stands -/
def nx (b : Nat → Nat) (n s : Nat) : Nat := tkW b n (tkE b n s)
theorem tkE_le {b : Nat → Nat} {n s : Nat} (h : s ≤ n) : tkE b n s ≤ n := by
  unfold tkE
  split
  · exact h
  · split
    · exact spn_ok.2.2.2 h
    · split
      · exact spn_ok.2.2.2 h
      · omega
theorem nx_le {b : Nat → Nat} {n s : Nat} (h : s ≤ n) : nx b n s ≤ n := (spn_ok (p := fun j => isW (b j)) (n := n) (i := tkE b n s)).2.2.2 (tkE_le h)
/-- the reader of the model: the text, the token from s on, the fault -/
def RM (g : Hp) (b : Nat → Nat) (n s : Nat) (f : Nat × Nat) : Prop := TM g b n ∧ TKm g b n s (tkE b n s) ∧ s ≤ n ∧ hI g 77 13 = nI f.1 ∧ f.1 ≤ 5 ∧ hI g 77 14 = if f.1 = 0 then -1 else nI f.2
def SGr (a k : Nat) : Prop := a = 77 ∧ (k = 13 ∨ k = 14 ∨ (17 ≤ k ∧ k ≤ 22))
def wrF (f : Nat × Nat) (s y : Nat) : Nat × Nat := if f.1 = 0 then (y, s) else f
theorem RM.wr {h : Hp} {b : Nat → Nat} {n s y : Nat} {f : Nat × Nat} (R : RM h b n s f) (hy : 0 < y) (hy5 : y ≤ 5) : RM (wrH h (nI y)) b n s (wrF f s y) ∧ Fz SGr h (wrH h (nI y)) := by
  obtain ⟨r1, r2, r3, r4, r5, r6⟩ := R
  unfold wrH wrF
  rw [r4]
  by_cases z : f.1 = 0
  · rw [if_pos (by rw [z]; rfl), if_pos z]
    have F : Fz (fun a k => a = 77 ∧ (k = 13 ∨ k = 14)) h (uI (uI h 77 13 (nI y)) 77 14 (hI h 77 19)) := (Fz.rf.uI ⟨rfl, Or.inl rfl⟩).uI ⟨rfl, Or.inr rfl⟩
    obtain ⟨k1, k2, k3, k4, k5, k6, k7⟩ := r2
    have F19 := k3
    refine ⟨⟨r1.fj F.j ⟨by omega, fun k => by omega⟩, ⟨by rw [F.I (by omega)]; exact k1, by rw [F.I (by omega)]; exact k2, by rw [F.I (by omega)]; exact k3, by rw [F.I (by omega)]; exact k4, by rw [F.I (by omega)]; exact k5, by rw [F.I (by omega)]; exact k6, by rw [hJ_uI', hJ_uI']; exact k7⟩, r3, by rw [hI_uI_ne (by omega), hI_uI_eq], hy5, ?_⟩, F.sub (fun a k q => by unfold SGr; omega)⟩
    show _ = if y = 0 then -1 else nI s
    rw [hI_uI_eq, if_neg (by omega)]; exact k3
  · rw [if_neg (nI_ne0 (by omega) (by omega)), if_neg z]
    exact ⟨⟨r1, r2, r3, r4, r5, r6⟩, Fz.rf⟩
theorem q_goesR {l : Launch} {d n s : Nat} {b : Nat → Nat} {f : Nat × Nat} {h : Hp} (hS : St h) (R : RM h b n s f) : Ey l (d + 2) mX10_goes [.ref 77] h none (fun g => Fj SGr h g ∧ RM g b n (nx b n s) f) := by
  obtain ⟨r1, r2, r3, r4, r5, r6⟩ := R
  refine (q_goes hS r1 r2.1 (tkE_le r3)).mono (fun g q => ?_)
  obtain ⟨F, T⟩ := q
  exact ⟨F.sub (fun a k q => by unfold SGo at q; unfold SGr; omega), r1.go F, T, nx_le r3, by rw [F.I (by unfold SGo; omega)]; exact r4, r5, by rw [F.I (by unfold SGo; omega)]; exact r6⟩
theorem RM.good {h : Hp} {b : Nat → Nat} {n s : Nat} {f : Nat × Nat} (R : RM h b n s f) : hI h 77 13 = 0 ↔ f.1 = 0 := by
  rw [R.2.2.2.1]
  have := R.2.2.2.2.1
  exact nI_eq (b := 0) (by omega) (by decide)
theorem q_need {l : Launch} {d n s : Nat} {b : Nat → Nat} {f : Nat × Nat} {P : Prop} [Decidable P] {h : Hp} (hS : St h) (R : RM h b n s f) : Ey l (d + 3) mX10_need [.ref 77, .int (if P then 1 else 0)] h none (fun g => Fj SGr h g ∧ RM g b n (if f.1 = 0 ∧ P then nx b n s else s) (if f.1 = 0 ∧ ¬ P then (1, s) else f)) := by
  refine run_lv [some (.ref 77), some (.int (if P then 1 else 0))] (go := ?_)
  have gd := R.good
  by_cases z : f.1 = 0
  · by_cases p : P
    · rw [if_pos p, if_pos ⟨z, p⟩, if_neg (fun q => q.2 p)]
      refine go_aloadn dX10_need_0 rfl ?_
      refine sg_cVi (M' := mX10_isGood) ([]) dX10_need_1 lX10_161 vX10_isGood (mo_L rfl) (by decide) rfl hS (q_isGood hS) rfl (Nat.le_of_ble_eq_true rfl) (Nat.zero_le _) (Nat.zero_le _) ?_
      rw [if_pos (gd.mpr z)]
      refine go_if_ne (tgt := 8) dX10_need_4 (by decide) (fun c4 => ?_) (fun c4 => absurd c4 (by decide))
      refine go_iloadn dX10_need_8 rfl ?_
      refine go_if_eq (tgt := 19) dX10_need_9 (by decide) (fun c9 => absurd c9 (by decide)) (fun c9 => ?_)
      refine go_aloadn dX10_need_12 rfl ?_
      refine sg_rV0 (M' := mX10_goes) ([]) dX10_need_13 lX10_165 vX10_goes (mo_L rfl) (by decide) rfl hS (q_goesR hS R) rfl (Nat.le_of_ble_eq_true rfl) (Nat.zero_le _) (Nat.zero_le _) (fun g F => ?_)
      refine go_goto (tgt := 24) dX10_need_16 (by decide) ?_
      refine go_return dX10_need_24 rfl (Nat.zero_le _) (Nat.zero_le _) ?_
      exact ⟨rfl, F⟩
    · rw [if_neg p, if_neg (fun q => p q.2), if_pos ⟨z, p⟩]
      have W := R.wr (y := 1) (by decide) (by decide)
      rw [wrF, if_pos z] at W
      refine go_aloadn dX10_need_0 rfl ?_
      refine sg_cVi (M' := mX10_isGood) ([]) dX10_need_1 lX10_161 vX10_isGood (mo_L rfl) (by decide) rfl hS (q_isGood hS) rfl (Nat.le_of_ble_eq_true rfl) (Nat.zero_le _) (Nat.zero_le _) ?_
      rw [if_pos (gd.mpr z)]
      refine go_if_ne (tgt := 8) dX10_need_4 (by decide) (fun c4 => ?_) (fun c4 => absurd c4 (by decide))
      refine go_iloadn dX10_need_8 rfl ?_
      refine go_if_eq (tgt := 19) dX10_need_9 (by decide) (fun c9 => ?_) (fun c9 => absurd rfl c9)
      refine go_aloadn dX10_need_19 rfl ?_
      refine go_iconst (v := 1) dX10_need_20 rfl ?_
      refine sg_cV0 (M' := mX10_wrong) ([.int (nI 1)]) dX10_need_21 lX10_168 vX10_wrong (mo_L rfl) (by decide) rfl hS (q_wrong hS) rfl (Nat.le_of_ble_eq_true rfl) (Nat.zero_le _) (Nat.zero_le _) ?_
      refine go_return dX10_need_24 rfl (Nat.zero_le _) (Nat.zero_le _) ?_
      exact ⟨rfl, W.2.j, W.1⟩
  · rw [if_neg (fun q => z q.1), if_neg (fun q => z q.1)]
    refine go_aloadn dX10_need_0 rfl ?_
    refine sg_cVi (M' := mX10_isGood) ([]) dX10_need_1 lX10_161 vX10_isGood (mo_L rfl) (by decide) rfl hS (q_isGood hS) rfl (Nat.le_of_ble_eq_true rfl) (Nat.zero_le _) (Nat.zero_le _) ?_
    rw [if_neg (fun q => z (gd.mp q))]
    refine go_if_ne (tgt := 8) dX10_need_4 (by decide) (fun c4 => absurd rfl c4) (fun c4 => ?_)
    refine go_return dX10_need_7 rfl (Nat.zero_le _) (Nat.zero_le _) ?_
    exact ⟨rfl, Fj.rf, R⟩
