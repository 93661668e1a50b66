/-! what holds of a state is kept by every act -/
theorem own_m1 {C : Cy} {T : Tn} {t : Nat} (W : WC C) (V : WT C T) (ht : t < cN C) : ¬ (-1 : Int32) = tO T t := by
  obtain ⟨o, ho, e⟩ := (V.1 t ht).1
  have hP := W.1.2.1
  rw [e]; exact fun q => nI_m1 (by omega) q.symm
theorem WN.wd {C : Cy} {T : Tn} {t w : Nat} {lk : Int32} (H : WN C T) (hw : w < 8) : WN C (wdT C t w lk T) := by
  intro x hx
  unfold wdT
  split
  · exact H x hx
  · split
    · exact H x hx
    · show ¬ upd (tB T) t (-1) x = upd (tO T) t (nI w) x
      by_cases e : x = t
      · subst e; rw [pk_us, pk_us]; exact fun q => nI_m1 (by omega) q.symm
      · rw [pk_un e, pk_un e]; exact H x hx
theorem WN.dA {C : Cy} {T : Tn} {fog : Int32} {k : Nat} (W : WC C) (V : WT C T) (H : WN C T) (hk : k ≤ cN C) : WN C (d1A C fog T k) := by
  induction k with
  | zero => exact H
  | succ k ih =>
    have V2 := V.dA (fog := fog) W (show k ≤ cN C by omega)
    have ih := ih (by omega)
    show WN C (d1T C fog k (d1A C fog T k))
    generalize d1A C fog T k = T1 at *
    have hP := W.1.2.1
    unfold d1T
    by_cases z : tB T1 k = -1
    · rw [if_pos z]; exact ih
    · rw [if_neg z]
      obtain ⟨w, hw, ew⟩ := (V2.1 k (by omega)).2.1.resolve_left z
      rw [ew, cl_nI (show w < 2 ^ 31 by omega)]
      exact ih.wd (by omega)
theorem WN.day {C : Cy} {T : Tn} {fog : Int32} (W : WC C) (V : WT C T) (H : WN C T) : WN C (dayT C fog T) := by
  have H1 := WN.dA (fog := fog) W V H (Nat.le_refl _)
  have V1 := V.dA (fog := fog) W (Nat.le_refl _)
  unfold dayT
  generalize d1A C fog T (cN C) = T1 at *
  intro t ht
  show ¬ (if gvW C T1 (cP C) (tB T1 t) then (-1 : Int32) else tB T1 t) = tO T1 t
  split
  · exact own_m1 W V1 ht
  · exact H1 t ht
theorem WN.dn {C : Cy} {T : Tn} {k : Nat} (W : WC C) (V : WT C T) (H : WN C T) : WN C (dnT C T k) := by
  induction k with
  | zero => exact H
  | succ k ih => exact WN.day W (V.dn W) ih
theorem VT.ch {C : Cy} {T T' A : Tn} (H : VT C T A) (e : ∀ p, p < cP C → tV T' p = tV T p) : VT C T' A := ⟨H.1, H.2.1, H.2.2.1, fun p hp => (H.2.2.2 p hp).trans (e p hp).symm⟩
theorem WA.ch {C : Cy} {T T' : Tn} {A : List Tn} (H : WA C T A) (e : ∀ p, p < cP C → tV T' p = tV T p) : WA C T' A := ⟨H.1, fun i hi => (H.2 i hi).ch e⟩
theorem WI.ch {C : Cy} {T T' : Tn} {I : Option (Tn × List Tn × Nt)} (H : WI C T I) (e : ∀ p, p < cP C → tV T' p = tV T p) : WI C T' I := by
  cases I with
  | none => exact trivial
  | some I => exact ⟨H.1.ch e, H.2.1.ch e, H.2.2⟩
theorem WA.kp {C : Cy} {T : Tn} {A : List Tn} (H : WA C T A) (hT : VT C T T) : WA C T (keepL A T) := by
  have h0 := H.1
  unfold keepL
  by_cases z : A.length < 40
  · rw [if_pos z]
    refine ⟨by rw [List.length_append]; show A.length + 1 ≤ 40; omega, fun i hi => ?_⟩
    rw [List.length_append] at hi
    simp only [List.length_cons, List.length_nil] at hi
    by_cases e : i = A.length
    · subst e; rw [gT_r]; exact hT
    · rw [gT_l (by omega)]; exact H.2 i (by omega)
  · rw [if_neg z]
    have hd : (A.drop 1).length = A.length - 1 := List.length_drop ..
    refine ⟨by rw [List.length_append, hd]; show A.length - 1 + 1 ≤ 40; omega, fun i hi => ?_⟩
    rw [List.length_append, hd] at hi
    simp only [List.length_cons, List.length_nil] at hi
    by_cases e : i = (A.drop 1).length
    · subst e; rw [gT_r]; exact hT
    · rw [gT_l (by omega), gT_d]; exact H.2 (i + 1) (by omega)
theorem WS.rf {S : Sx} {k : Nat} (W : WS S) : WS (rfS k S) := W
theorem WS.kp {S : Sx} {T : Tn} (W : WS S) (hT : VT (sC S) (sT S) T) : WS (kpS S T) := by
  obtain ⟨w1, w2, w3, w4, w5, w6⟩ := W
  exact ⟨w1, ⟨hT.1, hT.2.1, hT.2.2.1, fun _ _ => rfl⟩, (w3.kp w2).ch hT.2.2.2, w4, w5.ch hT.2.2.2, w6⟩
theorem WS.nd {P : Prop} [Decidable P] {S : Sx} {o : Sa} (W : WS S) (h : P → WS o.2.2) : WS (ndS P S o).2.2 := by
  unfold ndS
  split
  · exact h (by assumption)
  · exact W
theorem ws_steal {S : Sx} {x y : Int32} (W : WS S) : WS (oSteal S x y).2.2 := by
  have hN1 := W.1.1.1
  have hP := W.1.1.2.1
  refine W.nd (fun a => W.nd (fun b => ?_))
  obtain ⟨p, hp, rfl⟩ := ok_nI (by omega) a
  obtain ⟨t, ht, rfl⟩ := ok_nI (by omega) b
  rw [cl_nI (show t < 2 ^ 31 by omega)]
  split
  · exact W.rf
  · rename_i q
    refine W.kp ⟨W.2.1.1.po (Or.inr ⟨p, hp, rfl⟩), fun i hi => ?_, W.2.1.2.2.1, fun _ _ => rfl⟩
    show ¬ upd (tB (sT S)) t (nI p) i = tO (sT S) i
    by_cases e : i = t
    · subst e; rw [pk_us]; exact fun z => q (Or.inl z.symm)
    · rw [pk_un e]; exact W.2.1.2.1 i hi
theorem ws_back {S : Sx} {y : Int32} (W : WS S) : WS (oBack S y).2.2 := by
  have hN1 := W.1.1.1
  refine W.nd (fun b => ?_)
  obtain ⟨t, ht, rfl⟩ := ok_nI (by omega) b
  rw [cl_nI (show t < 2 ^ 31 by omega)]
  split
  · exact W.rf
  · refine W.kp ⟨W.2.1.1.po (Or.inl rfl), fun i hi => ?_, W.2.1.2.2.1, fun _ _ => rfl⟩
    show ¬ upd (tB (sT S)) t (-1) i = tO (sT S) i
    by_cases e : i = t
    · subst e; rw [pk_us]; exact own_m1 W.1 W.2.1.1 hi
    · rw [pk_un e]; exact W.2.1.2.1 i hi
theorem ws_walk {S : Sx} {x i v : Int32} (W : WS S) : WS (oWalk S x i v).2.2 := by
  have hP := W.1.1.2.1
  have hL := W.1.1.2.2.2.1
  refine W.nd (fun a => W.nd (fun b => ?_))
  obtain ⟨p, hp, rfl⟩ := ok_nI (by omega) b.2
  split
  · exact W.rf
  · refine W.kp ⟨⟨W.2.1.1.1, W.2.1.1.2.1, fun j hj => ?_⟩, W.2.1.2.1, W.2.1.2.2.1, fun _ _ => rfl⟩
    show ∃ w, w < cL (sC S) ∧ upd (tW (sT S)) _ (nI p) j = nI w
    by_cases e : j = 6 * x.toNatClampNeg + i.toNatClampNeg
    · rw [e, pk_us]; exact ⟨p, hp, rfl⟩
    · rw [pk_un e]; exact W.2.1.1.2.2 j hj
theorem ws_dye {S : Sx} {y v : Int32} (W : WS S) : WS (oDye S y v).2.2 := by
  refine W.nd (fun b => ?_)
  split
  · rename_i q
    obtain ⟨m, -, hm, rfl⟩ := rg_nI (a := 0) (b := 9) rfl rfl (by decide) (by decide) q
    refine W.kp ⟨⟨fun i hi => ⟨(W.2.1.1.1 i hi).1, (W.2.1.1.1 i hi).2.1, (W.2.1.1.1 i hi).2.2.1, ?_⟩, W.2.1.1.2⟩, W.2.1.2.1, W.2.1.2.2.1, fun _ _ => rfl⟩
    show ∃ x, x ≤ 9 ∧ upd (tX (sT S)) y.toNatClampNeg (nI m) i = nI x
    by_cases e : i = y.toNatClampNeg
    · rw [e, pk_us]; exact ⟨m, hm, rfl⟩
    · rw [pk_un e]; exact (W.2.1.1.1 i hi).2.2.2
  · exact W.rf
theorem ws_days {S : Sx} {n : Int32} (W : WS S) : WS (oDays S n).2.2 := by
  unfold oDays
  split
  · rename_i q
    refine W.kp ⟨W.2.1.1.t0.dn W.1, WN.dn W.1 W.2.1.1.t0 W.2.1.2.1, by rw [tD_dn]; exact q.2, fun p hp => by rw [dn_V]; rfl⟩
  · exact W.rf
theorem ws_undo {S : Sx} (W : WS S) : WS (oUndo S).2.2 := by
  obtain ⟨w1, w2, w3, w4, w5, w6⟩ := W
  unfold oUndo
  split
  · exact ⟨w1, w2, w3, w4, w5, w6⟩
  · rename_i q
    have hT := w3.2 ((sA S).length - 1) (by omega)
    refine ⟨w1, ⟨hT.1, hT.2.1, hT.2.2.1, fun _ _ => rfl⟩, WA.ch ⟨?_, fun i hi => ?_⟩ hT.2.2.2, w4, w5.ch hT.2.2.2, w6⟩
    · have := w3.1
      show ((sA S).take ((sA S).length - 1)).length ≤ 40
      rw [List.length_take]; omega
    · have hi : i < ((sA S).take ((sA S).length - 1)).length := hi
      rw [List.length_take] at hi
      show VT _ _ (((sA S).take ((sA S).length - 1)).getD i T00)
      rw [gT_t (by omega)]; exact w3.2 i (by omega)
theorem WS.qt {S : Sx} {Q : Nt} (W : WS S) (h : WQ (sC S) Q) : WS (qtS S Q) := ⟨W.1, W.2.1, W.2.2.1, h, W.2.2.2.2⟩
theorem ws_note {S : Sx} {y n v : Int32} (W : WS S) : WS (oNote S y n v).2.2 := by
  have hN1 := W.1.1.1
  refine W.nd (fun b => ?_)
  obtain ⟨t, ht, rfl⟩ := ok_nI (by omega) b
  rw [cl_nI (show t < 2 ^ 31 by omega)]
  split
  · rename_i q
    obtain ⟨m, -, hm, rfl⟩ := rg_nI (a := 0) (b := 30) rfl rfl (by decide) (by decide) q.2
    rw [cl_nI (show m < 2 ^ 31 by omega)]
    refine W.qt ⟨by show qM (sQ S) + 1 ≤ 8; omega, fun i hi => ?_⟩
    have hi : i < qM (sQ S) + 1 := hi
    show (if i = qM (sQ S) then t else qT (sQ S) i) < cN (sC S) ∧ (if i = qM (sQ S) then m else qD (sQ S) i) ≤ 30 ∧ ((if i = qM (sQ S) then (if v = 0 then (0 : Int32) else 1) else qW (sQ S) i) = 0 ∨ (if i = qM (sQ S) then (if v = 0 then (0 : Int32) else 1) else qW (sQ S) i) = 1)
    by_cases e : i = qM (sQ S)
    · rw [if_pos e, if_pos e, if_pos e]
      refine ⟨ht, hm, ?_⟩
      split
      · exact Or.inl rfl
      · exact Or.inr rfl
    · rw [if_neg e, if_neg e, if_neg e]; exact W.2.2.2.1.2 i (by omega)
  · exact W.rf
theorem ws_forget {S : Sx} (W : WS S) : WS (qtS S (0, fun _ => 0, fun _ => 0, fun _ => 0)) := W.qt ⟨Nat.zero_le _, fun i hi => absurd hi (Nat.not_lt_zero _)⟩
theorem ws_image {S : Sx} (W : WS S) : WS (imS S) := ⟨W.1, W.2.1, W.2.2.1, W.2.2.2.1, ⟨W.2.1, W.2.2.1, W.2.2.2.1⟩, W.2.2.2.2.2⟩
theorem ws_restore {S : Sx} (W : WS S) : WS (oRestore S).2.2 := by
  have h5 := W.2.2.2.2.1
  unfold oRestore
  cases hm : sM S with
  | none => exact W
  | some I =>
    rw [hm] at h5
    obtain ⟨i1, i2, i3⟩ := h5
    exact ⟨W.1, ⟨i1.1, i1.2.1, i1.2.2.1, fun _ _ => rfl⟩, i2.ch i1.2.2.2, i3, WI.ch (I := some I) ⟨i1, i2, i3⟩ i1.2.2.2, W.2.2.2.2.2⟩
theorem ws_feed {S : Sx} {a b c d e : Int32} (W : WS S) : WS (oFeed S a b c d e).2.2 := by
  unfold oFeed
  split
  · rename_i q
    exact ⟨W.1, W.2.1, W.2.2.1, W.2.2.2.1, W.2.2.2.2.1, by show (fdP (sP S) a b c d e).1 ≤ 700; rw [fd_1]; exact q, ptK_2 (ptK_2 (ptK_2 (ptK_2 (ptK_2 W.2.2.2.2.2.2))))⟩
  · exact W
