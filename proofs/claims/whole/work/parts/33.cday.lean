/-! the class's day is the day -/
theorem TE.fs {h g : Hp} {b : Nat} {C : Cy} {T : Tn} (H : TE h b C T) (F : Fr (Ts b) h g) : TE g b C T := by
  obtain ⟨h1, h2, h3, h4⟩ := H
  refine ⟨fun t ht => ?_, fun p hp => ?_, fun i hi => ?_, ?_⟩
  · rw [F.I (ts_t (by omega)), F.I (ts_t (by omega)), F.I (ts_t (by omega)), F.I (ts_t (by omega))]; exact h1 t ht
  · rw [F.I (ts_t (by omega)), F.I (ts_t (by omega))]; exact h2 p hp
  · rw [F.I (ts_t (by omega))]; exact h3 i hi
  · rw [F.I ts_0]; exact h4
theorem te_H {g : Hp} {b w : Nat} {C : Cy} {T : Tn} {v : Int32} (H : TE g b C T) : TE (uI g (b + 2) w v) b C (tD T, tC T, tO T, tB T, tS T, tX T, upd (tH T) w v, tV T, tW T) := by
  obtain ⟨h1, h2, h3, h4⟩ := H
  refine ⟨fun t ht => ?_, fun p hp => ?_, fun i hi => ?_, ?_⟩
  · simp only [hI_uI]; simpa using h1 t ht
  · simp only [hI_uI]; have := h2 p hp; simp [this]; rfl
  · simp only [hI_uI]; simpa using h3 i hi
  · simp only [hI_uI]; simpa using h4
theorem te_S {g : Hp} {b w : Nat} {C : Cy} {T : Tn} {v : Int32} (H : TE g b C T) : TE (uI g (b + 7) w v) b C (tD T, tC T, tO T, tB T, upd (tS T) w v, tX T, tH T, tV T, tW T) := by
  obtain ⟨h1, h2, h3, h4⟩ := H
  refine ⟨fun t ht => ?_, fun p hp => ?_, fun i hi => ?_, ?_⟩
  · simp only [hI_uI]; have := h1 t ht; simp [this]; rfl
  · simp only [hI_uI]; simpa using h2 p hp
  · simp only [hI_uI]; simpa using h3 i hi
  · simp only [hI_uI]; simpa using h4
theorem te_O {g : Hp} {b w : Nat} {C : Cy} {T : Tn} {v : Int32} (H : TE g b C T) : TE (uI g (b + 5) w v) b C (tD T, tC T, upd (tO T) w v, tB T, tS T, tX T, tH T, tV T, tW T) := by
  obtain ⟨h1, h2, h3, h4⟩ := H
  refine ⟨fun t ht => ?_, fun p hp => ?_, fun i hi => ?_, ?_⟩
  · simp only [hI_uI]; have := h1 t ht; simp [this]; rfl
  · simp only [hI_uI]; simpa using h2 p hp
  · simp only [hI_uI]; simpa using h3 i hi
  · simp only [hI_uI]; simpa using h4
theorem te_B {g : Hp} {b w : Nat} {C : Cy} {T : Tn} {v : Int32} (H : TE g b C T) : TE (uI g (b + 6) w v) b C (tD T, tC T, tO T, upd (tB T) w v, tS T, tX T, tH T, tV T, tW T) := by
  obtain ⟨h1, h2, h3, h4⟩ := H
  refine ⟨fun t ht => ?_, fun p hp => ?_, fun i hi => ?_, ?_⟩
  · simp only [hI_uI]; have := h1 t ht; simp [this]; rfl
  · simp only [hI_uI]; simpa using h2 p hp
  · simp only [hI_uI]; simpa using h3 i hi
  · simp only [hI_uI]; simpa using h4
theorem te_X {g : Hp} {b w : Nat} {C : Cy} {T : Tn} {v : Int32} (H : TE g b C T) : TE (uI g (b + 4) w v) b C (tD T, tC T, tO T, tB T, tS T, upd (tX T) w v, tH T, tV T, tW T) := by
  obtain ⟨h1, h2, h3, h4⟩ := H
  refine ⟨fun t ht => ?_, fun p hp => ?_, fun i hi => ?_, ?_⟩
  · simp only [hI_uI]; have := h1 t ht; simp [this]; rfl
  · simp only [hI_uI]; simpa using h2 p hp
  · simp only [hI_uI]; simpa using h3 i hi
  · simp only [hI_uI]; simpa using h4
theorem te_V {g : Hp} {b w : Nat} {C : Cy} {T : Tn} {v : Int32} (H : TE g b C T) : TE (uI g (b + 1) w v) b C (tD T, tC T, tO T, tB T, tS T, tX T, tH T, upd (tV T) w v, tW T) := by
  obtain ⟨h1, h2, h3, h4⟩ := H
  refine ⟨fun t ht => ?_, fun p hp => ?_, fun i hi => ?_, ?_⟩
  · simp only [hI_uI]; simpa using h1 t ht
  · simp only [hI_uI]; have := h2 p hp; simp [this]; rfl
  · simp only [hI_uI]; simpa using h3 i hi
  · simp only [hI_uI]; simpa using h4
theorem te_W {g : Hp} {b w : Nat} {C : Cy} {T : Tn} {v : Int32} (H : TE g b C T) : TE (uI g (b + 3) w v) b C (tD T, tC T, tO T, tB T, tS T, tX T, tH T, tV T, upd (tW T) w v) := by
  obtain ⟨h1, h2, h3, h4⟩ := H
  refine ⟨fun t ht => ?_, fun p hp => ?_, fun i hi => ?_, ?_⟩
  · simp only [hI_uI]; simpa using h1 t ht
  · simp only [hI_uI]; simpa using h2 p hp
  · simp only [hI_uI]; have := h3 i hi; simp [this]; rfl
  · simp only [hI_uI]; simpa using h4
theorem te_C {g : Hp} {b : Nat} {C : Cy} {T : Tn} {v : Int32} (H : TE g b C T) : TE (uI g b 2 v) b C (tD T, v, tO T, tB T, tS T, tX T, tH T, tV T, tW T) := by
  obtain ⟨h1, h2, h3, h4⟩ := H
  refine ⟨fun t ht => ?_, fun p hp => ?_, fun i hi => ?_, ?_⟩
  · simp only [hI_uI]; simpa using h1 t ht
  · simp only [hI_uI]; simpa using h2 p hp
  · simp only [hI_uI]; simpa using h3 i hi
  · exact hI_uI_eq
theorem sbF_shT {h : Hp} {b c fs fr t w : Nat} {C : Cy} {T : Tn} {lk : Int32} (W : WC C) (hC : CC h c fs fr C) (hE : TE h b C T) (hD : hI h b 1 = nI (tD T)) (ht : t < cN C) (hw : w < cP C) : sbF h b c fs (cSh C).1 t w lk = shT C T t w lk := by
  obtain ⟨h1, h2, h3, h4⟩ := hE.1 t ht
  obtain ⟨h5, h6⟩ := hE.2.1 w hw
  have h7 := hC.2.2.1 t ht
  unfold sbF shT
  by_cases q : (cSh C).1 = 0
  · rw [if_pos q, if_pos q, h4, h6]
  · rw [if_neg q, if_neg q, ruF_evP W.2.2.1.1 (by omega) hC.2.2.2.1, evP_cong W.2.2.1.1 (vals' := svT C T t w lk)]
    intro k hk
    unfold shA at hk
    have : k = 0 ∨ k = 1 ∨ k = 2 ∨ k = 3 ∨ k = 4 ∨ k = 5 ∨ k = 6 := by omega
    rcases this with rfl | rfl | rfl | rfl | rfl | rfl | rfl <;> simp [svF, svT, upd, *]
theorem wdH_wdT {h : Hp} {b c fs fr t w : Nat} {C : Cy} {T : Tn} {lk : Int32} (W : WC C) (hb : TownAt b) (hc : CityAt c) (hC : CC h c fs fr C) (hE : TE h b C T) (hD : hI h b 1 = nI (tD T)) (ht : t < cN C) (hw : w < cP C) : TE (wdH h b c fs (cSh C).1 t w lk) b C (wdT C t w lk T) := by
  have e1 := sbF_shT (lk := lk) W hC hE hD ht hw
  have E1 : TE (sbH h b c fs (cSh C).1 t w lk) b C T := hE.fs fs_sbH
  have E2 : TE (wd2 h b c fs (cSh C).1 t w lk) b C (tD T, tC T, tO T, tB T, tS T, tX T, upd (tH T) w (mn99 (tH T w + shT C T t w lk)), tV T, tW T) := by
    unfold wd2; rw [e1, (hE.2.1 w hw).1]; exact te_H E1
  have e3 : hI (wd2 h b c fs (cSh C).1 t w lk) (b + 7) t = tS T t := (E2.1 t ht).2.2.1
  have E3 : TE (wd3 h b c fs (cSh C).1 t w lk) b C (tD T, tC T, tO T, tB T, upd (tS T) t (tS T t + 1), tX T, upd (tH T) w (mn99 (tH T w + shT C T t w lk)), tV T, tW T) := by
    unfold wd3; rw [e3]; exact te_S E2
  have e4 : hI (wd3 h b c fs (cSh C).1 t w lk) (b + 7) t = tS T t + 1 := by rw [(E3.1 t ht).2.2.1]; exact pk_us
  have e5 : hI (wd3 h b c fs (cSh C).1 t w lk) c 3 = nI (cM C) := by rw [fr_wd3.2.2.2 c 3 (tt_c (i := 0) hb hc (by omega))]; exact hC.1.2
  unfold wdH wdT
  by_cases q : lk = 0
  · rw [if_pos q, if_pos q]; exact E2
  · rw [if_neg q, if_neg q, e4, e5]
    by_cases z : tS T t + 1 < nI (cM C)
    · rw [if_pos z, if_pos z]; exact E3
    · rw [if_neg z, if_neg z]
      unfold wd6 wd5
      have E6 := te_S (w := t) (v := 0) (te_B (w := t) (v := -1) (te_O (w := t) (v := nI w) E3))
      have e7 := E6.2.2.2
      rw [e7]
      have E7 := te_C (v := tC T + 1) E6
      have u : upd (upd (tS T) t (tS T t + 1)) t 0 = upd (tS T) t 0 := by funext j; simp only [upd]; split <;> rfl
      dsimp only [tD, tC, tO, tB, tS, tX, tH, tV, tW] at E7 u ⊢
      rw [u] at E7
      exact E7
/-- what the things' loop leaves alone -/
def Td (b a : Nat) : Prop := a = b ∨ a = b + 2 ∨ (b + 5 ≤ a ∧ a ≤ b + 7) ∨ b + 10 ≤ a ∧ a ≤ b + 11
theorem td_wdH {h : Hp} {b c fs ns t w : Nat} {lk : Int32} : Fr (Td b) h (wdH h b c fs ns t w lk) := by
  have h1 : Fr (Td b) h (sbH h b c fs ns t w lk) := by
    unfold sbH
    split
    · exact Fr.rf
    · exact (Fr.rf.uF (by unfold Td; omega)).uF (by unfold Td; omega)
  have h2 : Fr (Td b) h (wd2 h b c fs ns t w lk) := h1.uI (by unfold Td; omega)
  have h3 : Fr (Td b) h (wd3 h b c fs ns t w lk) := h2.uI (by unfold Td; omega)
  unfold wdH
  split
  · exact h2
  · split
    · exact h3
    · exact (((h3.uI (by unfold Td; omega)).uI (by unfold Td; omega)).uI (by unfold Td; omega)).uI (by unfold Td; omega)
theorem wdT_kept {C : Cy} {lk : Int32} {t w : Nat} {T : Tn} : (tD (wdT C t w lk T) = tD T ∧ tW (wdT C t w lk T) = tW T ∧ tV (wdT C t w lk T) = tV T ∧ tX (wdT C t w lk T) = tX T) ∧ (tB (wdT C t w lk T) = tB T ∨ tB (wdT C t w lk T) = upd (tB T) t (-1)) := by
  unfold wdT
  split
  · exact ⟨⟨rfl, rfl, rfl, rfl⟩, Or.inl rfl⟩
  · split
    · exact ⟨⟨rfl, rfl, rfl, rfl⟩, Or.inl rfl⟩
    · exact ⟨⟨rfl, rfl, rfl, rfl⟩, Or.inr rfl⟩
theorem d1T_kept {C : Cy} {fog : Int32} {t : Nat} {T : Tn} : tD (d1T C fog t T) = tD T ∧ tW (d1T C fog t T) = tW T ∧ tV (d1T C fog t T) = tV T ∧ tX (d1T C fog t T) = tX T := by
  unfold d1T
  by_cases q : tB T t = -1
  · rw [if_pos q]; exact ⟨rfl, rfl, rfl, rfl⟩
  · rw [if_neg q]; exact wdT_kept.1
theorem d1A_kept {C : Cy} {fog : Int32} {T : Tn} (k : Nat) : tD (d1A C fog T k) = tD T ∧ tW (d1A C fog T k) = tW T ∧ tV (d1A C fog T k) = tV T ∧ tX (d1A C fog T k) = tX T := by
  induction k with
  | zero => exact ⟨rfl, rfl, rfl, rfl⟩
  | succ k ih =>
    obtain ⟨a, b, c, d⟩ := d1T_kept (C := C) (fog := fog) (t := k) (T := d1A C fog T k)
    exact ⟨a.trans ih.1, b.trans ih.2.1, c.trans ih.2.2.1, d.trans ih.2.2.2⟩
theorem lkT_W {C : Cy} {T T' : Tn} {p dd : Nat} (h : tW T' = tW T) : lkT C T' p dd = lkT C T p dd := by
  unfold lkT plT; rw [h]
theorem d1H_d1A {h : Hp} {b c fs fr : Nat} {C : Cy} {T : Tn} {fog : Int32} (W : WC C) (H : TV h b c fs fr C T) {k : Nat} (hk : k ≤ cN C) :
    TE (d1H h b c (cP C) fs (cSh C).1 (tD T) fog k) b C (d1A C fog T k) ∧ hI (d1H h b c (cP C) fs (cSh C).1 (tD T) fog k) (b + 8) = hI (laF h b c (cP C) (tD T)) (b + 8) := by
  obtain ⟨HI, hC, hE⟩ := H
  obtain ⟨H1, K, U, Wr, hD, hDl⟩ := id HI
  obtain ⟨hS, hb, hc, hbc, -⟩ := id H1
  induction k with
  | zero => exact ⟨hE.fs (Fr.rf.uF (ts_i (by omega) (by omega))), rfl⟩
  | succ k ih =>
    obtain ⟨i1, i2⟩ := ih (by omega)
    have dy := dy_d1H (h := h) (b := b) (c := c) (P := cP C) (fs := fs) (ns := (cSh C).1) (D := tD T) (fog := fog) k
    have HJ := HI.dy dy
    have hC2 := hC.fr hb hc dy.1
    have hk2 := d1A_kept (C := C) (fog := fog) (T := T) k
    have eT : d1A C fog T (k + 1) = d1T C fog k (d1A C fog T k) := rfl
    have eH : d1H h b c (cP C) fs (cSh C).1 (tD T) fog (k + 1) = d1F b c fs (cSh C).1 (tD T) fog k (d1H h b c (cP C) fs (cSh C).1 (tD T) fog k) := rfl
    rw [eT, eH]
    generalize d1H h b c (cP C) fs (cSh C).1 (tD T) fog k = g at *
    generalize d1A C fog T k = T1 at *
    have eb := (i1.1 k (by omega)).2.1
    unfold d1F d1T
    rw [eb]
    by_cases q : tB T1 k = -1
    · rw [if_pos q, if_pos q]; exact ⟨i1, i2⟩
    · rw [if_neg q, if_neg q]
      obtain ⟨w, hw, z⟩ := (HJ.2.2.2.1 k (by omega)).resolve_left (by rw [eb]; exact q)
      rw [eb] at z
      have e1 : (tB T1 k).toNatClampNeg = w := by rw [z]; exact cl_nI (by have := W.1.2.1; omega)
      have hl : lsF g b c w (tD T) = lkT C T1 w (tD T1) := by
        rw [hk2.1, lkT_W hk2.2.1, ← lkA_lkT W hC hE hw, ← lkF_lkA H1 K hw (by omega), lsF, lkF, i2, plN_plT W hC2 i1 hw, plN_plT W hC hE hw]
        unfold plT laF; rw [hk2.2.1, hI_uF_eq]
      rw [e1, hl]
      exact ⟨wdH_wdT W hb hc hC2 i1 (by rw [hk2.1]; exact HJ.2.2.2.2.1) (by omega) hw, by rw [td_wdH.I (by unfold Td; omega), i2]⟩
/-! the evening -/
theorem mnT_le {C : Cy} {T : Tn} {p : Nat} : mnT C T p ≤ cN C := by
  unfold mnT
  generalize cN C = n
  induction n with
  | zero => exact Nat.le_refl _
  | succ n ih => simp only [foF]; split <;> omega
theorem nI_m1 {n : Nat} (h : n < 2 ^ 31) : ¬ nI n = -1 := fun q => by have := congrArg Int32.toInt q; rw [nI_toInt h] at this; simp at this
theorem cwF_at {h : Hp} {b P p : Nat} {C : Cy} {T : Tn} {f : Nat → Int32} (hE : TE h b C T) (hW : WR h b (cN C) P) (hP : P ≤ 8) (hp : p < 8) (hf : f p = 0) {n : Nat} (hn : n ≤ cN C) : cwF h b f n p = nI (foF (fun t a => if tB T t = nI p then a + 1 else a) 0 n) := by
  induction n with
  | zero => exact hf
  | succ n ih =>
    have ih := ih (by omega)
    simp only [cwF, foF] at ih ⊢
    have eb := (hE.1 n (by omega)).2.1
    rw [eb]
    rcases hW n (by omega) with q | ⟨w, hw, q⟩ <;> rw [eb] at q
    · rw [if_pos q, if_neg (by rw [q]; exact fun z => nI_m1 (by omega) z.symm)]; exact ih
    · rw [if_neg (by rw [q]; exact nI_m1 (by omega)), q, cl_nI (by omega)]
      by_cases e : w = p
      · subst e; rw [pk_us, if_pos rfl, ih, nI_1]
      · rw [pk_un (Ne.symm e), if_neg (fun z => e ((nI_eq (by omega) (by omega)).mp z)), ih]
theorem gbF_gvT {g : Hp} {b c fs fr p : Nat} {C : Cy} {T T1 : Tn} (W : WC C) (hC : CC g c fs fr C) (hE : TE g b C T) (hp : p < cP C) (hm : hI g (b + 9) p = nI (mnT C T1 p)) (hD : hI g b 1 = nI (tD T1)) (hH : tH T p = tH T1 p) (hV : tV T p = tV T1 p) :
    (gbF g b c fr (cRe C).1 p = 0) ↔ ¬ ((if (cRe C).1 = 0 then !decide (tH T1 p < 40) else !decide (evP (cRe C) (rvT T1 p (mnT C T1 p)) ≤ 0)) = true) := by
  obtain ⟨h5, h6⟩ := hE.2.1 p hp
  unfold gbF
  by_cases q : (cRe C).1 = 0
  · rw [if_pos q, if_pos q, h5, hH]
    by_cases z : tH T1 p < 40 <;> simp [z]
  · rw [if_neg q, if_neg q, ruF_evP W.2.2.1.2 (by omega) hC.2.2.2.2, evP_cong W.2.2.1.2 (vals' := rvT T1 p (mnT C T1 p))]
    · by_cases z : evP (cRe C) (rvT T1 p (mnT C T1 p)) ≤ 0 <;> simp [z]
    · intro k hk
      rcases hk with rfl | rfl | rfl | rfl <;> simp [rvF, rvT, upd, *]
theorem offF_TE {g : Hp} {b p n : Nat} {C : Cy} {T : Tn} (hp : p < 2 ^ 31) (hE : TE g b C T) (hn : n ≤ cN C) : TE (offF b (nI p) g n) b C (tD T, tC T, tO T, fun t => if t < n ∧ tB T t = nI p then -1 else tB T t, fun t => if t < n ∧ tB T t = nI p then 0 else tS T t, tX T, tH T, tV T, tW T) := by
  induction n with
  | zero => simpa [offF, foF] using hE
  | succ n ih =>
    have ih := ih (by omega)
    have es : offF b (nI p) g (n + 1) = if hI (offF b (nI p) g n) (b + 6) n = nI p then uI (uI (offF b (nI p) g n) (b + 6) n (-1)) (b + 7) n 0 else offF b (nI p) g n := rfl
    rw [es]
    have eb : hI (offF b (nI p) g n) (b + 6) n = tB T n := by rw [(ih.1 n (by omega)).2.1]; exact if_neg (fun q => Nat.lt_irrefl _ q.1)
    rw [eb]
    by_cases q : tB T n = nI p
    · rw [if_pos q]
      have E := te_S (w := n) (v := 0) (te_B (w := n) (v := -1) ih)
      have u1 : upd (fun t => if t < n ∧ tB T t = nI p then (-1 : Int32) else tB T t) n (-1) = fun t => if t < n + 1 ∧ tB T t = nI p then -1 else tB T t := by
        funext t; simp only [upd]
        by_cases e : t = n
        · subst e; simp [q]
        · have : (t < n + 1) ↔ t < n := by omega
          simp [e, this]
      have u2 : upd (fun t => if t < n ∧ tB T t = nI p then (0 : Int32) else tS T t) n 0 = fun t => if t < n + 1 ∧ tB T t = nI p then 0 else tS T t := by
        funext t; simp only [upd]
        by_cases e : t = n
        · subst e; simp [q]
        · have : (t < n + 1) ↔ t < n := by omega
          simp [e, this]
      dsimp only [tD, tC, tO, tB, tS, tX, tH, tV, tW] at E u1 u2 ⊢
      rw [u1, u2] at E
      exact E
    · rw [if_neg q]
      have u1 : (fun t => if t < n ∧ tB T t = nI p then (-1 : Int32) else tB T t) = fun t => if t < n + 1 ∧ tB T t = nI p then -1 else tB T t := by
        funext t
        by_cases e : t = n
        · subst e; simp [q]
        · have : (t < n + 1) ↔ t < n := by omega
          simp [this]
      have u2 : (fun t => if t < n ∧ tB T t = nI p then (0 : Int32) else tS T t) = fun t => if t < n + 1 ∧ tB T t = nI p then 0 else tS T t := by
        funext t
        by_cases e : t = n
        · subst e; simp [q]
        · have : (t < n + 1) ↔ t < n := by omega
          simp [this]
      dsimp only [tD, tC, tO, tB, tS, tX, tH, tV, tW] at ih u1 u2 ⊢
      rw [← u1, ← u2]
      exact ih
theorem TE.cong {g : Hp} {b : Nat} {C : Cy} {T T' : Tn} (H : TE g b C T) (h1 : ∀ t, t < cN C → tO T t = tO T' t ∧ tB T t = tB T' t ∧ tS T t = tS T' t ∧ tX T t = tX T' t) (h2 : ∀ p, p < cP C → tH T p = tH T' p ∧ tV T p = tV T' p) (h3 : ∀ i, i < 6 * cP C → tW T i = tW T' i) (h4 : tC T = tC T') : TE g b C T' := by
  obtain ⟨a, b, c, d⟩ := H
  refine ⟨fun t ht => ?_, fun p hp => ?_, fun i hi => ?_, d.trans h4⟩
  · obtain ⟨z1, z2, z3, z4⟩ := h1 t ht
    rw [← z1, ← z2, ← z3, ← z4]; exact a t ht
  · rw [← (h2 p hp).1, ← (h2 p hp).2]; exact b p hp
  · rw [← h3 i hi]; exact c i hi
theorem gvW_m1 {C : Cy} {T : Tn} {k : Nat} : gvW C T k (-1) = false := rfl
theorem gvW_nI {C : Cy} {T : Tn} {k w : Nat} (hw : w < 2 ^ 31) : gvW C T k (nI w) = (decide (w < k) && gvT C T w) := by
  rw [gvW, cl_nI hw, decide_eq_false (nI_m1 hw)]; rfl
theorem fo_offF {g : Hp} {b n : Nat} {p : Int32} : Fr (fun a => a = b + 6 ∨ a = b + 7) g (offF b p g n) := by
  induction n with
  | zero => exact Fr.rf
  | succ n ih =>
    simp only [offF, foF] at ih ⊢
    split
    · exact (ih.uI (Or.inl rfl)).uI (Or.inr rfl)
    · exact ih
theorem fs_gbH {h : Hp} {b c fr nr p : Nat} : Fr (fun a => a = b + 10 ∨ a = b + 11) h (gbH h b c fr nr p) := by
  unfold gbH
  split
  · exact Fr.rf
  · exact (Fr.rf.uF (Or.inl rfl)).uF (Or.inr rfl)
theorem evT_B {C : Cy} {T : Tn} {k t : Nat} : tB (evT C k T) t = if gvW C T k (tB T t) then -1 else tB T t := rfl
theorem evT_S {C : Cy} {T : Tn} {k t : Nat} : tS (evT C k T) t = if gvW C T k (tB T t) then 0 else tS T t := rfl
theorem evT_H {C : Cy} {T : Tn} {k p : Nat} : tH (evT C k T) p = if p < k then (if gvT C T p then 0 else if mnT C T p = 0 then mx0 (tH T p - 2) else tH T p) else tH T p := rfl
/-- the rows of T but who wears what, its days, and shame -/
def tSet (T : Tn) (B S H : Nat → Int32) : Tn := (tD T, tC T, tO T, B, S, tX T, H, tV T, tW T)
theorem ev_step {g : Hp} {b c fs fr k : Nat} {C : Cy} {T : Tn} (W : WC C) (hb : TownAt b) (hc : CityAt c) (hC : CC g c fs fr C) (hE : TE g b C (evT C k T)) (hm : ∀ p, k ≤ p → p < cP C → hI g (b + 9) p = nI (mnT C T p)) (hD : hI g b 1 = nI (tD T)) (hWr : ∀ t, t < cN C → tB T t = -1 ∨ ∃ w, w < cP C ∧ tB T t = nI w) (hk : k < cP C) :
    TE (d2F b c (cN C) fr (cRe C).1 k g) b C (evT C (k + 1) T) ∧ ∀ p, k + 1 ≤ p → p < cP C → hI (d2F b c (cN C) fr (cRe C).1 k g) (b + 9) p = nI (mnT C T p) := by
  have hP := W.1.2.1
  have hN := W.1.1
  have hmk := hm k (Nat.le_refl _) hk
  have hml := mnT_le (C := C) (T := T) (p := k)
  have hHk : tH (evT C k T) k = tH T k := by rw [evT_H, if_neg (Nat.lt_irrefl _)]
  have hg : hI g (b + 2) k = tH T k := by rw [(hE.2.1 k hk).1, hHk]
  have hgv := gbF_gvT (T1 := T) W hC hE hk hmk hD hHk rfl
  have hR : ∀ (i : Nat), i < k + 1 ↔ i < k ∨ i = k := fun i => by omega
  by_cases m0 : mnT C T k = 0
  · have gk : gvT C T k = false := by rw [gvT, m0]; rfl
    have eA : d2A b c (cN C) fr (cRe C).1 k g = g := by rw [d2A, hmk, m0]; exact if_pos (by decide)
    have e2 : d2F b c (cN C) fr (cRe C).1 k g = uI g (b + 2) k (mx0 (tH T k - 2)) := by rw [d2F, eA, hmk, m0, hg]; exact if_pos rfl
    rw [e2]
    refine ⟨(te_H hE).cong (fun t ht => ?_) (fun p hp => ⟨?_, rfl⟩) (fun _ _ => rfl) rfl, fun p h1 h2 => ?_⟩
    · refine ⟨rfl, ?_, ?_, rfl⟩
      · show tB (evT C k T) t = tB (evT C (k + 1) T) t
        rw [evT_B, evT_B]
        rcases hWr t ht with q | ⟨w, hw, q⟩
        · rw [q]; rfl
        · rw [q, gvW_nI (by omega), gvW_nI (by omega)]
          by_cases e : w = k
          · subst e; simp [gk]
          · have : (w < k + 1) ↔ w < k := by omega
            simp [this]
      · show tS (evT C k T) t = tS (evT C (k + 1) T) t
        rw [evT_S, evT_S]
        rcases hWr t ht with q | ⟨w, hw, q⟩
        · rw [q]; rfl
        · rw [q, gvW_nI (by omega), gvW_nI (by omega)]
          by_cases e : w = k
          · subst e; simp [gk]
          · have : (w < k + 1) ↔ w < k := by omega
            simp [this]
    · show upd (tH (evT C k T)) k (mx0 (tH T k - 2)) p = tH (evT C (k + 1) T) p
      rw [evT_H]
      by_cases e : p = k
      · subst e; rw [pk_us]; simp [gk, m0]
      · have : (p < k + 1) ↔ p < k := by omega
        rw [pk_un e, evT_H]; simp [this]
    · rw [hI_uI_ne (by omega)]; exact hm p (by omega) h2
  · have mp : ¬ nI (mnT C T k) ≤ 0 := nI_nle (by omega) (by omega)
    have mz : ¬ nI (mnT C T k) = 0 := nI_ne0 (by omega) (by omega)
    by_cases gz : gbF g b c fr (cRe C).1 k = 0
    · have gk : gvT C T k = false := by
        have := hgv.mp gz
        rw [gvT]; simp only [m0, decide_false, Bool.not_false, Bool.true_and]
        exact Bool.eq_false_iff.mpr this
      have F := fs_gbH (h := g) (b := b) (c := c) (fr := fr) (nr := (cRe C).1) (p := k)
      have e9 : hI (gbH g b c fr (cRe C).1 k) (b + 9) = hI g (b + 9) := F.I (by omega)
      have eA : d2A b c (cN C) fr (cRe C).1 k g = gbH g b c fr (cRe C).1 k := by rw [d2A, hmk, if_neg mp, if_pos gz]
      have e2 : d2F b c (cN C) fr (cRe C).1 k g = gbH g b c fr (cRe C).1 k := by rw [d2F, eA, e9, hmk, if_neg mz]
      rw [e2]
      refine ⟨(hE.fs (F.sub (fun a q => by unfold Ts; omega))).cong (fun t ht => ?_) (fun p hp => ⟨?_, rfl⟩) (fun _ _ => rfl) rfl, fun p h1 h2 => ?_⟩
      · refine ⟨rfl, ?_, ?_, rfl⟩
        · rw [evT_B, evT_B]
          rcases hWr t ht with q | ⟨w, hw, q⟩
          · rw [q]; rfl
          · rw [q, gvW_nI (by omega), gvW_nI (by omega)]
            by_cases e : w = k
            · subst e; simp [gk]
            · have : (w < k + 1) ↔ w < k := by omega
              simp [this]
        · rw [evT_S, evT_S]
          rcases hWr t ht with q | ⟨w, hw, q⟩
          · rw [q]; rfl
          · rw [q, gvW_nI (by omega), gvW_nI (by omega)]
            by_cases e : w = k
            · subst e; simp [gk]
            · have : (w < k + 1) ↔ w < k := by omega
              simp [this]
      · rw [evT_H, evT_H]
        by_cases e : p = k
        · subst e; simp [gk, m0]
        · have : (p < k + 1) ↔ p < k := by omega
          simp [this]
      · rw [e9]; exact hm p (by omega) h2
    · have gk : gvT C T k = true := by
        have := Decidable.not_not.mp (mt hgv.mpr gz)
        rw [gvT]; simp only [m0, decide_false, Bool.not_false, Bool.true_and]
        exact this
      have F := fs_gbH (h := g) (b := b) (c := c) (fr := fr) (nr := (cRe C).1) (p := k)
      have FO := fo_offF (g := gbH g b c fr (cRe C).1 k) (b := b) (n := cN C) (p := nI k)
      have e9 : hI (offF b (nI k) (gbH g b c fr (cRe C).1 k) (cN C)) (b + 9) = hI g (b + 9) := by rw [FO.I (by omega), F.I (by omega)]
      have E1 := offF_TE (p := k) (n := cN C) (by omega) (hE.fs (F.sub (fun a q => by unfold Ts; omega))) (Nat.le_refl _)
      have eA : d2A b c (cN C) fr (cRe C).1 k g = uI (uI (offF b (nI k) (gbH g b c fr (cRe C).1 k) (cN C)) (b + 2) k 0) (b + 9) k 0 := by rw [d2A, hmk, if_neg mp, if_neg gz]
      have e2 : d2F b c (cN C) fr (cRe C).1 k g = uI (uI (uI (offF b (nI k) (gbH g b c fr (cRe C).1 k) (cN C)) (b + 2) k 0) (b + 9) k 0) (b + 2) k 0 := by
        rw [d2F, eA, hI_uI_eq, if_pos rfl, hI_uI_ne (by omega), hI_uI_eq]; rfl
      rw [e2]
      generalize offF b (nI k) (gbH g b c fr (cRe C).1 k) (cN C) = g2 at *
      have E2 := te_H (w := k) (v := 0) ((te_H (w := k) (v := 0) E1).fs (g := uI (uI g2 (b + 2) k 0) (b + 9) k 0) (Fr.rf.uI (ts_i (by omega) (by omega))))
      refine ⟨E2.cong (fun t ht => ?_) (fun p hp => ⟨?_, rfl⟩) (fun _ _ => rfl) rfl, fun p h1 h2 => ?_⟩
      · refine ⟨rfl, ?_, ?_, rfl⟩
        · show (if t < cN C ∧ tB (evT C k T) t = nI k then (-1 : Int32) else tB (evT C k T) t) = tB (evT C (k + 1) T) t
          rw [evT_B, evT_B]
          rcases hWr t ht with q | ⟨w, hw, q⟩
          · rw [q]; simp [gvW_m1]
          · rw [q, gvW_nI (by omega), gvW_nI (by omega)]
            by_cases e : w = k
            · subst e; simp [gk, ht]
            · have : (w < k + 1) ↔ w < k := by omega
              have n1 : ¬ nI w = nI k := fun z => e ((nI_eq (by omega) (by omega)).mp z)
              have n2 : ¬ (-1 : Int32) = nI k := fun z => nI_m1 (by omega) z.symm
              cases hh : (decide (w < k) && gvT C T w) <;> simp [this, hh, n1, n2]
        · show (if t < cN C ∧ tB (evT C k T) t = nI k then (0 : Int32) else tS (evT C k T) t) = tS (evT C (k + 1) T) t
          rw [evT_B, evT_S, evT_S]
          rcases hWr t ht with q | ⟨w, hw, q⟩
          · rw [q]
            have n2 : ¬ (-1 : Int32) = nI k := fun z => nI_m1 (by omega) z.symm
            simp [gvW_m1, n2]
          · rw [q, gvW_nI (by omega), gvW_nI (by omega)]
            by_cases e : w = k
            · subst e; simp [gk, ht]
            · have : (w < k + 1) ↔ w < k := by omega
              have n1 : ¬ nI w = nI k := fun z => e ((nI_eq (by omega) (by omega)).mp z)
              have n2 : ¬ (-1 : Int32) = nI k := fun z => nI_m1 (by omega) z.symm
              cases hh : (decide (w < k) && gvT C T w) <;> simp [this, hh, n1, n2]
      · show upd (upd (tH (evT C k T)) k 0) k 0 p = tH (evT C (k + 1) T) p
        rw [evT_H]
        by_cases e : p = k
        · subst e; rw [pk_us]; simp [gk]
        · have : (p < k + 1) ↔ p < k := by omega
          rw [pk_un e, pk_un e, evT_H]; simp [this]
      · rw [hI_uI_ne (by omega), hI_uI_ne (by omega), hI_uI_ne (by omega), e9]; exact hm p (by omega) h2
theorem evT_0 {C : Cy} {T : Tn} : evT C 0 T = T := by
  unfold evT
  have : ∀ x, gvW C T 0 x = false := fun x => by simp [gvW]
  simp [this]
theorem d1A_by {C : Cy} {fog : Int32} {T : Tn} (h : ∀ t, t < cN C → tB T t = -1 ∨ ∃ w, w < cP C ∧ tB T t = nI w) {k : Nat} : ∀ t, t < cN C → tB (d1A C fog T k) t = -1 ∨ ∃ w, w < cP C ∧ tB (d1A C fog T k) t = nI w := by
  induction k with
  | zero => exact h
  | succ k ih =>
    intro t ht
    have : d1A C fog T (k + 1) = d1T C fog k (d1A C fog T k) := rfl
    rw [this]
    have ih := ih t ht
    generalize d1A C fog T k = T1 at *
    unfold d1T
    by_cases q : tB T1 k = -1
    · rw [if_pos q]; exact ih
    · rw [if_neg q]
      generalize (if fog = 0 then lkT C T1 (tB T1 k).toNatClampNeg (tD T1) else 0) = lk
      rcases (wdT_kept (C := C) (lk := lk) (t := k) (w := (tB T1 k).toNatClampNeg) (T := T1)).2 with z | z
      · rw [z]; exact ih
      · rw [z]
        by_cases e : t = k
        · left; subst e; exact pk_us
        · rw [pk_un e]; exact ih
/-- a day of the class -/
theorem TV.pd {h : Hp} {b c fs fr : Nat} {C : Cy} {T : Tn} {fog : Int32} (W : WC C) (H : TV h b c fs fr C T) (hD1 : tD T + 1 < 2 ^ 30) : TV (pdH h b c (cN C) (cP C) fs (cSh C).1 fr (cRe C).1 (tD T) fog) b c fs fr C (dayT C fog T) := by
  obtain ⟨HI, hC, hE⟩ := id H
  obtain ⟨H1, K, U, Wr, hD, hDl⟩ := id HI
  obtain ⟨hS, hb, hc, hbc, -, hN, -, hP⟩ := id H1
  have hkd := d1A_kept (C := C) (fog := fog) (T := T) (cN C)
  refine ⟨?_, hC.fr hb hc fr_pdH, ?_⟩
  · have := HI.pd (fog := fog) hD1
    have e : tD (dayT C fog T) = tD T + 1 := by show tD (d1A C fog T (cN C)) + 1 = _; rw [hkd.1]
    rw [e]; exact this
  · obtain ⟨i1, i2⟩ := d1H_d1A (fog := fog) W H (Nat.le_refl _)
    have dy1 := dy_d1H (h := h) (b := b) (c := c) (P := cP C) (fs := fs) (ns := (cSh C).1) (D := tD T) (fog := fog) (cN C)
    have HJ := HI.dy dy1
    have hC2 := hC.fr hb hc dy1.1
    have hWr : ∀ t, t < cN C → tB T t = -1 ∨ ∃ w, w < cP C ∧ tB T t = nI w := fun t ht => by rw [← (hE.1 t ht).2.1]; exact Wr t ht
    have hWr1 := d1A_by (fog := fog) (k := cN C) hWr
    unfold pdH dayT
    generalize d1H h b c (cP C) fs (cSh C).1 (tD T) fog (cN C) = h1 at *
    generalize d1A C fog T (cN C) = T1 at *
    have key : ∀ k, k ≤ cP C → TE (d2H h1 b c (cN C) fr (cRe C).1 k) b C (evT C k T1) ∧ ∀ p, k ≤ p → p < cP C → hI (d2H h1 b c (cN C) fr (cRe C).1 k) (b + 9) p = nI (mnT C T1 p) := by
      intro k
      induction k with
      | zero =>
        intro _
        refine ⟨by rw [evT_0]; exact i1.fs (Fr.rf.uF (ts_i (by omega) (by omega))), fun p _ hp => ?_⟩
        show hI (cwH h1 b (cN C)) (b + 9) p = _
        rw [cwH, hI_uF_eq]
        exact cwF_at i1 HJ.2.2.2.1 hP (by omega) (by rw [flF, if_pos (by omega)]) (Nat.le_refl _)
      | succ k ih =>
        intro hk
        obtain ⟨j1, j2⟩ := ih (by omega)
        have dy2 := dy_d2H (h := h1) (b := b) (c := c) (N := cN C) (fr := fr) (nr := (cRe C).1) k
        have HK := HJ.dy dy2
        exact ev_step W hb hc (hC2.fr hb hc dy2.1) j1 j2 (HK.2.2.2.2.1.trans (congrArg nI hkd.1.symm)) hWr1 (by omega)
    obtain ⟨j1, -⟩ := key (cP C) (Nat.le_refl _)
    have : TE (dyH (d2H h1 b c (cN C) fr (cRe C).1 (cP C)) b) b C (evT C (cP C) T1) := by
      obtain ⟨a1, a2, a3, a4⟩ := j1
      unfold dyH
      refine ⟨fun t ht => ?_, fun p hp => ?_, fun i hi => ?_, ?_⟩
      · simp only [hI_uI]; simpa using a1 t ht
      · simp only [hI_uI]; simpa using a2 p hp
      · simp only [hI_uI]; simpa using a3 i hi
      · simp only [hI_uI]; simpa using a4
    exact this.cong (fun _ _ => ⟨rfl, rfl, rfl, rfl⟩) (fun _ _ => ⟨rfl, rfl⟩) (fun _ _ => rfl) rfl
