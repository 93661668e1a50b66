/-! the class's city: it begins -/
theorem hI_flH {g : Hp} {a n x k : Nat} {v : Int32} : hI (flH g a n v) x k = if x = a then (if k < n then v else hI g a k) else hI g x k := by
  unfold flH
  by_cases q : x = a
  · rw [if_pos q, q, hI_uF_eq]; rfl
  · rw [if_neg q, hI_uF_ne q]
theorem hI_uI_if {g : Hp} {a k x y : Nat} {v : Int32} : hI (uI g a k v) x y = if x = a ∧ y = k then v else hI g x y := by
  by_cases q : x = a ∧ y = k
  · rw [if_pos q, q.1, q.2, hI_uI_eq]
  · rw [if_neg q, hI_uI_ne q]
theorem st_3 {h : Hp} {k : Nat} {v : Option Nat} (hS : St h) (hk : ¬ k = 12) : St (uR h 3 k v) := ⟨hS.1, fun q hq => by
  have z := (frefs_0 q hq).2.2.2
  have : hR (uR h 3 k v) q.1 q.2.1 = hR h q.1 q.2.1 := by
    simp only [hR, uR, up2]
    rw [if_neg (fun y => z ⟨y.1, by rw [y.2]; exact hk⟩)]
  rw [this]; exact hS.2 q hq⟩
theorem hI_flHn {g : Hp} {a n x k : Nat} {v : Int32} (q : ¬ x = a) : hI (flH g a n v) x k = hI g x k := by rw [hI_flH, if_neg q]
theorem hI_flHe {g : Hp} {a n k : Nat} {v : Int32} (q : k < n) : hI (flH g a n v) a k = v := by rw [hI_flH, if_pos rfl, if_pos q]
def clH (h : Hp) (c : Nat) : Hp := clC (clB (clA h c) c) c
theorem cl_2 {h : Hp} {c : Nat} : (clH h c).2 = h.2 := by
  unfold clH clC clB clA flH
  simp only [uI_2, uF_2]
theorem cl_I {h : Hp} {c : Nat} (hc : c = 6 ∨ c = 18) : (∀ a k, ¬ (c ≤ a ∧ a ≤ c + 11) → hI (clH h c) a k = hI h a k) ∧ (hI (clH h c) c 0 = 3 ∧ hI (clH h c) c 1 = 0 ∧ hI (clH h c) c 2 = 0 ∧ hI (clH h c) c 3 = 10 ∧ hI (clH h c) c 13 = 0) ∧ (∀ i, i < 48 → hI (clH h c) (c + 4) i = 0) ∧ (∀ i, i < 10 → hI (clH h c) (c + 8) i = -1) ∧ hI (clH h c) (c + 10) 0 = 0 ∧ hI (clH h c) (c + 10) 1 = 0 ∧ hI (clH h c) (c + 11) 0 = 0 ∧ hI (clH h c) (c + 11) 1 = 0 := by
  unfold clH clC clB clA
  refine ⟨fun a k q => ?_, ⟨?_, ?_, ?_, ?_, ?_⟩, fun i hi => ?_, fun i hi => ?_, ?_, ?_, ?_, ?_⟩
  all_goals repeat first | rw [hI_uI_ne (by omega)] | rw [hI_flHn (by omega)] | rw [hI_uI_eq] | rw [hI_flHe (by omega)]
/-- what the reader's beginning changes -/
def Fcy (c : Nat) (h g : Hp) : Prop := hN g = hN h ∧ hJ g = hJ h ∧ (∀ a k, ¬ a = 3 → hR g a k = hR h a k) ∧ ∀ a k, ¬ (a = 3 ∨ a = 5 ∨ (c ≤ a ∧ a ≤ c + 11)) → hI g a k = hI h a k
theorem Fcy.fz {c : Nat} {h g k : Hp} (F : Fcy c h g) (G : Fz (Scy c) g k) : Fcy c h k := ⟨G.2.1.trans F.1, G.2.2.1.trans F.2.1, fun a j q => by rw [G.1]; exact F.2.2.1 a j q, fun a j q => (G.I (by unfold Scy; omega)).trans (F.2.2.2 a j q)⟩
theorem r_rBegin {l : Launch} {d n c : Nat} {b : Nat → Nat} {h : Hp} (hS : St h) (hc : CityAt c) (n7 : n ≤ 700) (hb : ∀ i, i < n → hI h 1 i = byI (b i) ∧ b i < 256) : Ey l (d + 6) mX3_begin [.ref 3, .ref 1, .int (nI n), .ref c] h none (fun g => Fcy c h g ∧ St g ∧ RC g b n (tkW b n 0) ∧ KY g c (y00 (tkW b n 0))) := by
  have hc' := at_c hc
  refine run_lv [some (.ref 3), some (.ref 1), some (.int (nI n)), some (.ref c)] (go := ?_)
  have S1 : St (uR h 3 0 (some 1)) := st_3 hS (by decide)
  have S2 : St (uR (uI (uR h 3 0 (some 1)) 3 1 (nI n)) 3 7 (some c)) := st_3 S1 (by decide)
  have c1 : ∀ a k, hI (uR (uI (uR h 3 0 (some 1)) 3 1 (nI n)) 3 7 (some c)) a k = if a = 3 ∧ k = 1 then nI n else hI h a k := fun a k => by
    show hI (uI (uR h 3 0 (some 1)) 3 1 (nI n)) a k = _
    rw [hI_uI_if]; rfl
  have c2 : ∀ a k, hR (uR (uI (uR h 3 0 (some 1)) 3 1 (nI n)) 3 7 (some c)) a k = if a = 3 ∧ k = 7 then some c else if a = 3 ∧ k = 0 then some 1 else hR h a k := fun a k => rfl
  have c3 : hN (uR (uI (uR h 3 0 (some 1)) 3 1 (nI n)) 3 7 (some c)) = hN h := rfl
  have c4 : hJ (uR (uI (uR h 3 0 (some 1)) 3 1 (nI n)) 3 7 (some c)) = hJ h := rfl
  refine go_aloadn dX3_begin_0 rfl ?_
  refine go_aloadn dX3_begin_1 rfl ?_
  refine sg_putR dX3_begin_2 fX3_9 rfl rfl (rd_L rfl) hS ?_
  have hS : St (uR h 3 0 (some 1)) := S1
  refine go_aloadn dX3_begin_5 rfl ?_
  refine go_iloadn dX3_begin_6 rfl ?_
  refine go_aloadn dX3_begin_7 rfl ?_
  refine sg_alen (v := 700) dX3_begin_8 rfl hS rfl ?_
  refine go_min dX3_begin_9 lX3_19 (Nat.le_of_ble_eq_true rfl) (by simp only [rmOf]; omega) (by simp only [rmOf]; omega) (Nat.zero_le _) (Nat.zero_le _) ?_
  rw [if_neg (show ¬ (700 : Int32) < nI n from nI_nlt (a := 700) (b := n) n7 (by decide))]
  refine sg_putI dX3_begin_12 fX3_25 rfl rfl (rd_L rfl) hS ?_
  refine go_aloadn dX3_begin_15 rfl ?_
  refine go_aloadn dX3_begin_16 rfl ?_
  refine sg_putR dX3_begin_17 fX3_29 rfl rfl (rd_L rfl) hS ?_
  skip
  generalize uR (uI (uR h 3 0 (some 1)) 3 1 (nI n)) 3 7 (some c) = h1 at *
  have clr := fun d => r_cClear (l := l) (d := d) (h := h1) S2 hc
  rw [show clC (clB (clA h1 c) c) c = clH h1 c from rfl] at clr
  obtain ⟨i1, ⟨i2, i3, i4, i5, i6⟩, i7, i8, i9, i10, i11, i12⟩ := cl_I (h := h1) hc'
  have e2 := cl_2 (h := h1) (c := c)
  have S3 : St (clH h1 c) := St.of S2 e2
  have r2 : ∀ a k, hR (clH h1 c) a k = hR h1 a k := fun a k => by unfold hR; rw [e2]
  have hS := S2
  refine go_aloadn dX3_begin_20 rfl ?_
  refine sg_cV0 (M' := mX1_clear) ([]) dX3_begin_21 lX3_33 vX1_clear (ct_L hc) (by decide) rfl hS (clr _) rfl (Nat.le_of_ble_eq_true rfl) (Nat.zero_le _) (Nat.zero_le _) ?_
  skip
  have hN2 : hN (clH h1 c) = hN h := (by unfold hN; rw [e2] : hN (clH h1 c) = hN h1).trans c3
  have hJ2 : hJ (clH h1 c) = hJ h := (by unfold hJ; rw [e2] : hJ (clH h1 c) = hJ h1).trans c4
  generalize clH h1 c = h2 at *
  have F5 : Fz (fun a k => a = 3 ∧ (k = 4 ∨ k = 8 ∨ k = 9 ∨ k = 10 ∨ k = 11)) h2 (uI (uI (uI (uI (uI h2 3 4 0) 3 8 0) 3 9 0) 3 10 0) 3 11 (-1)) := ((((Fz.rf.uI ⟨rfl, by decide⟩).uI ⟨rfl, by decide⟩).uI ⟨rfl, by decide⟩).uI ⟨rfl, by decide⟩).uI ⟨rfl, by decide⟩
  have v4 : hI (uI (uI (uI (uI (uI h2 3 4 0) 3 8 0) 3 9 0) 3 10 0) 3 11 (-1)) 3 4 = 0 := by repeat first | rw [hI_uI_ne (by omega)] | rw [hI_uI_eq]
  have v8 : hI (uI (uI (uI (uI (uI h2 3 4 0) 3 8 0) 3 9 0) 3 10 0) 3 11 (-1)) 3 8 = 0 := by repeat first | rw [hI_uI_ne (by omega)] | rw [hI_uI_eq]
  have v9 : hI (uI (uI (uI (uI (uI h2 3 4 0) 3 8 0) 3 9 0) 3 10 0) 3 11 (-1)) 3 9 = 0 := by repeat first | rw [hI_uI_ne (by omega)] | rw [hI_uI_eq]
  have v10 : hI (uI (uI (uI (uI (uI h2 3 4 0) 3 8 0) 3 9 0) 3 10 0) 3 11 (-1)) 3 10 = 0 := by repeat first | rw [hI_uI_ne (by omega)] | rw [hI_uI_eq]
  have v11 : hI (uI (uI (uI (uI (uI h2 3 4 0) 3 8 0) 3 9 0) 3 10 0) 3 11 (-1)) 3 11 = -1 := hI_uI_eq
  have hS := S3
  refine go_aloadn dX3_begin_24 rfl ?_
  refine go_iconst (v := 0) dX3_begin_25 rfl ?_
  refine sg_putI dX3_begin_26 fX3_38 rfl rfl (rd_L rfl) hS ?_
  refine go_aloadn dX3_begin_29 rfl ?_
  refine go_iconst (v := 0) dX3_begin_30 rfl ?_
  refine sg_putZ dX3_begin_31 fX3_41 rfl rfl (rd_L rfl) hS (Or.inl rfl) ?_
  refine go_aloadn dX3_begin_34 rfl ?_
  refine go_iconst (v := 0) dX3_begin_35 rfl ?_
  refine sg_putZ dX3_begin_36 fX3_45 rfl rfl (rd_L rfl) hS (Or.inl rfl) ?_
  refine go_aloadn dX3_begin_39 rfl ?_
  refine go_iconst (v := 0) dX3_begin_40 rfl ?_
  refine sg_putI dX3_begin_41 fX3_48 rfl rfl (rd_L rfl) hS ?_
  refine go_aloadn dX3_begin_44 rfl ?_
  refine go_iconst (v := -1) dX3_begin_45 rfl ?_
  refine sg_putI dX3_begin_46 fX3_51 rfl rfl (rd_L rfl) hS ?_
  skip
  generalize uI (uI (uI (uI (uI h2 3 4 0) 3 8 0) 3 9 0) 3 10 0) 3 11 (-1) = h3 at *
  have hS := F5.St S3
  have T3 : TX h3 b n := by
    refine ⟨by rw [F5.1, r2, c2, if_neg (by omega), if_pos (by omega)], by rw [F5.I (by omega), i1 _ _ (by omega), c1, if_pos (by omega)], n7, fun i hi => ⟨?_, (hb i hi).2⟩⟩
    rw [F5.I (by omega), i1 _ _ (by omega), c1, if_neg (by omega)]; exact (hb i hi).1
  have K3 : KY h3 c (y00 0) := by
    refine ⟨⟨by rw [F5.1, r2, c2, if_pos (by omega)], hc⟩, ⟨v8, Nat.zero_le _, v9, Nat.zero_le _, v10, v11⟩, ⟨?_, ?_, ?_, ?_, ?_⟩, fun p hp => absurd hp (Nat.not_lt_zero _), fun i hi => ?_, fun p hp => absurd hp (Nat.not_lt_zero _), fun t ht => ?_, ⟨?_, ?_, ?_, ?_⟩, fun p hp => absurd hp (Nat.not_lt_zero _), fun p hp => absurd hp (Nat.not_lt_zero _)⟩
    · rw [F5.I (by omega), i2]; rfl
    · rw [F5.I (by omega), i3]; rfl
    · rw [F5.I (by omega), i4]; rfl
    · rw [F5.I (by omega), i5]; rfl
    · rw [F5.I (by omega), i6]; rfl
    · rw [F5.I (by omega), i7 i hi]; rfl
    · rw [F5.I (by omega), i8 t ht]; rfl
    · rw [F5.I (by omega), i9]; rfl
    · rw [F5.I (by omega), i10]; rfl
    · rw [F5.I (by omega), i11]; rfl
    · rw [F5.I (by omega), i12]; rfl
  have nxt := fun d => r_next (l := l) (d := d) (e := 0) hS T3 v4 (Nat.zero_le _)
  have Ff : Fcy c h h3 := ⟨F5.2.1.trans hN2, F5.2.2.1.trans hJ2, fun a k q => by rw [F5.1, r2, c2, if_neg (by omega), if_neg (by omega)], fun a k q => by rw [F5.I (by omega), i1 _ _ (by omega), c1, if_neg (by omega)]⟩
  refine go_aloadn dX3_begin_49 rfl ?_
  refine sg_rV0 (M' := mX3_next) ([]) dX3_begin_50 lX3_54 vX3_next (rd_L rfl) (by decide) rfl hS (nxt _) rfl (Nat.le_of_ble_eq_true rfl) (Nat.zero_le _) (Nat.zero_le _) (fun g G => ?_)
  refine go_return dX3_begin_53 rfl (Nat.zero_le _) (Nat.zero_le _) ?_
  exact ⟨rfl, Ff.fz (G.1.sub (fun _ _ q => q.sf.sc)), G.1.St hS, G.2, K3.fz G.1 rfl⟩
