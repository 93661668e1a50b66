/-! packed rows -/
theorem or_add {a b k : Nat} (ha : a < 2 ^ k) : (a ||| (b * 2 ^ k)) = a + b * 2 ^ k := by
  have := Nat.two_pow_add_eq_or_of_lt ha b
  rw [Nat.or_comm, Nat.mul_comm b, ← this, Nat.add_comm]
theorem or_sh {a b : Nat} (s : Int32) (k : Nat) (hs : (s.toBitVec.smod 32).toNat = k) (ha : a < 2 ^ k) (hb : b * 2 ^ k < 2 ^ 31) : nI a ||| (nI b <<< s) = nI (a + b * 2 ^ k) := by
  rw [pk_shlN s k hs (by omega), nI_or, or_add ha]
def PKr (f : Nat → Int32) (fr : Nat) (C : Cy) (T : Tn) : Prop := f fr = nI (tD T) ∧ (∀ t, t < cN C → (f (fr + 1 + t) &&& 15) - 1 = tB T t ∧ (f (fr + 1 + t) >>> ((4 : Int32) &&& 31)) &&& 15 = tO T t ∧ (f (fr + 1 + t) >>> ((8 : Int32) &&& 31)) &&& 15 = tX T t ∧ f (fr + 1 + t) >>> ((12 : Int32) &&& 31) = tS T t) ∧ ∀ p, p < cP C → f (fr + 11 + p) &&& 127 = tH T p ∧ ∀ i, i < 6 → (f (fr + 11 + p) >>> ((7 + 3 * nI i) &&& 31)) &&& 7 = tW T (6 * p + i)
theorem pk1_un {a o x s : Nat} (ha : a < 16) (ho : o < 16) (hx : x < 16) (hs : s < 1000) : ∀ v, v = (((nI a ||| (nI o <<< ((4 : Int32) &&& 31))) ||| (nI x <<< ((8 : Int32) &&& 31))) ||| (nI s <<< ((12 : Int32) &&& 31))) → (v &&& 15) = nI a ∧ (v >>> ((4 : Int32) &&& 31)) &&& 15 = nI o ∧ (v >>> ((8 : Int32) &&& 31)) &&& 15 = nI x ∧ v >>> ((12 : Int32) &&& 31) = nI s := by
  intro v e
  rw [or_sh _ 4 (by decide) (by omega) (by omega), or_sh _ 8 (by decide) (by omega) (by omega), or_sh _ 12 (by decide) (by omega) (by omega)] at e
  subst e
  refine ⟨?_, ?_, ?_, ?_⟩
  · rw [pk_andN (by omega) 4 (by decide)]; congr 1; omega
  · rw [pk_shrN (by omega) _ 4 (by decide), pk_andN (by omega) 4 (by decide)]; congr 1; omega
  · rw [pk_shrN (by omega) _ 8 (by decide), pk_andN (by omega) 4 (by decide)]; congr 1; omega
  · rw [pk_shrN (by omega) _ 12 (by decide)]; congr 1; omega
theorem sh3 : ∀ i : Fin 6, (((7 + 3 * nI i.val) &&& 31 : Int32).toBitVec.smod 32).toNat = 7 + 3 * i.val := by decide +kernel
theorem pk2_un {s : Nat} {w : Nat → Nat} (hs : s < 128) (hw : ∀ i, i < 6 → w i < 8) : ∀ v, v = foF (fun i v => v ||| (nI (w i) <<< ((7 + 3 * nI i) &&& 31))) (nI s) 6 → (v &&& 127) = nI s ∧ ∀ i, i < 6 → (v >>> ((7 + 3 * nI i) &&& 31)) &&& 7 = nI (w i) := by
  intro v e
  have e6 : v = nI (s + w 0 * 2 ^ 7 + w 1 * 2 ^ 10 + w 2 * 2 ^ 13 + w 3 * 2 ^ 16 + w 4 * 2 ^ 19 + w 5 * 2 ^ 22) := by
    have h0 := hw 0 (by omega)
    have h1 := hw 1 (by omega)
    have h2 := hw 2 (by omega)
    have h3 := hw 3 (by omega)
    have h4 := hw 4 (by omega)
    have h5 := hw 5 (by omega)
    rw [e]
    simp only [foF]
    rw [or_sh _ 7 (sh3 ⟨0, by omega⟩) (by omega) (by omega), or_sh _ 10 (sh3 ⟨1, by omega⟩) (by omega) (by omega), or_sh _ 13 (sh3 ⟨2, by omega⟩) (by omega) (by omega), or_sh _ 16 (sh3 ⟨3, by omega⟩) (by omega) (by omega), or_sh _ 19 (sh3 ⟨4, by omega⟩) (by omega) (by omega), or_sh _ 22 (sh3 ⟨5, by omega⟩) (by omega) (by omega)]
  have h0 := hw 0 (by omega)
  have h1 := hw 1 (by omega)
  have h2 := hw 2 (by omega)
  have h3 := hw 3 (by omega)
  have h4 := hw 4 (by omega)
  have h5 := hw 5 (by omega)
  subst e6
  refine ⟨?_, fun i hi => ?_⟩
  · rw [pk_andN (by omega) 7 (by decide)]; congr 1; omega
  · rw [pk_shrN (by omega) _ (7 + 3 * i) (sh3 ⟨i, hi⟩), pk_andN (Nat.lt_of_le_of_lt (Nat.div_le_self _ _) (by omega)) 3 (by decide)]
    congr 1
    match i, hi with
    | 0, _ => omega
    | 1, _ => omega
    | 2, _ => omega
    | 3, _ => omega
    | 4, _ => omega
    | 5, _ => omega
theorem pk2_cong {h : Hp} {b p : Nat} {s : Nat} {w : Nat → Nat} (hs : hI h (b + 2) p = nI s) (hw : ∀ i, i < 6 → hI h (b + 3) (6 * p + i) = nI (w i)) : pk2 h b p 6 = foF (fun i v => v ||| (nI (w i) <<< ((7 + 3 * nI i) &&& 31))) (nI s) 6 := by
  unfold pk2
  rw [hs]
  exact foF_cong (fun i hi v => by rw [hw i hi])
theorem pkF_at {h : Hp} {b fr : Nat} {f : Nat → Int32} : pkF h b fr f fr = hI h b 1 ∧ (∀ t, t < 10 → pkF h b fr f (fr + 1 + t) = pk1 h b t) ∧ (∀ p, p < 8 → pkF h b fr f (fr + 11 + p) = pk2 h b p 6) ∧ ∀ k, k < fr ∨ fr + 19 ≤ k → pkF h b fr f k = f k := by
  unfold pkF
  refine ⟨?_, fun t ht => ?_, fun p hp => ?_, fun k hk => ?_⟩
  · rw [upsF_at, if_neg (by omega), upsF_at, if_neg (by omega), pk_us]
  · rw [upsF_at, if_neg (by omega), upsF_at, if_pos (by omega)]; congr 1; omega
  · rw [upsF_at, if_pos (by omega)]
    show pk2 h b (fr + 11 + p - (fr + 11)) 6 = _
    rw [Nat.add_sub_cancel_left]
  · rw [upsF_at, if_neg (by omega), upsF_at, if_neg (by omega), pk_un (by omega)]
theorem PKr.of {h : Hp} {c fs fr r : Nat} {x : Int32} {f : Nat → Int32} {C : Cy} {T : Tn} (W : WC C) (H : TV h 30 c fs fr C (sX x T)) (V : WT C T) : PKr (pkF h 30 r f) r C T := by
  obtain ⟨p1, p2, p3, -⟩ := pkF_at (h := h) (b := 30) (fr := r) (f := f)
  have hN := W.1.1
  have hP := W.1.2.1
  refine ⟨by rw [p1]; exact H.1.2.2.2.2.1, fun t ht => ?_, fun p hp => ?_⟩
  · obtain ⟨⟨o, ho, eo⟩, eb, ⟨s, hs, es⟩, ⟨y, hy, ey⟩⟩ := V.1 t ht
    obtain ⟨a1, a2, a3, a4⟩ := H.2.2.1 t ht
    have a1 : hI h (30 + 5) t = tO T t := a1
    have a2 : hI h (30 + 6) t = tB T t := a2
    have a3 : hI h (30 + 7) t = tS T t := a3
    have a4 : hI h (30 + 4) t = tX T t := a4
    rw [p2 t (by omega)]
    rcases eb with eb | ⟨w, hw, eb⟩
    · have e : pk1 h 30 t = (((nI 0 ||| (nI o <<< ((4 : Int32) &&& 31))) ||| (nI y <<< ((8 : Int32) &&& 31))) ||| (nI s <<< ((12 : Int32) &&& 31))) := by
        unfold pk1; rw [a1, a2, a3, a4, eb, eo, es, ey]; rfl
      obtain ⟨u1, u2, u3, u4⟩ := pk1_un (a := 0) (o := o) (x := y) (s := s) (by omega) (by omega) (by omega) (by omega) _ e
      rw [u1, u2, u3, u4, eb, eo, es, ey]
      exact ⟨rfl, rfl, rfl, rfl⟩
    · have e : pk1 h 30 t = (((nI (w + 1) ||| (nI o <<< ((4 : Int32) &&& 31))) ||| (nI y <<< ((8 : Int32) &&& 31))) ||| (nI s <<< ((12 : Int32) &&& 31))) := by
        unfold pk1; rw [a1, a2, a3, a4, eb, eo, es, ey, nI_1]
      obtain ⟨u1, u2, u3, u4⟩ := pk1_un (a := w + 1) (o := o) (x := y) (s := s) (by omega) (by omega) (by omega) (by omega) _ e
      rw [u1, u2, u3, u4, eb, eo, es, ey]
      exact ⟨nI_pred w, rfl, rfl, rfl⟩
  · obtain ⟨s, hs, es⟩ := (V.2.1 p hp).1
    have hL := W.1.2.2.2.1
    have hw : ∀ i, i < 6 → ∃ w, w < 6 ∧ tW T (6 * p + i) = nI w := fun i hi => by obtain ⟨w, a, b⟩ := V.2.2 (6 * p + i) (by omega); exact ⟨w, by omega, b⟩
    have hw' : ∀ i : Nat, ∃ w : Nat, i < 6 → w < 6 ∧ tW T (6 * p + i) = nI w := fun i => by
      by_cases q : i < 6
      · obtain ⟨w, e⟩ := hw i q; exact ⟨w, fun _ => e⟩
      · exact ⟨0, fun z => absurd z q⟩
    obtain ⟨w, hw⟩ := Classical.axiomOfChoice hw'
    have e := pk2_cong (h := h) (b := 30) (p := p) (s := s) (w := w) (((H.2.2.2.1 p hp).1).trans es) (fun i hi => (H.2.2.2.2.1 _ (by omega)).trans (hw i hi).2)
    obtain ⟨u1, u2⟩ := pk2_un (s := s) (w := w) (by omega) (fun i hi => by have := (hw i hi).1; omega) _ e
    rw [p3 p (by omega), u1, es]
    exact ⟨rfl, fun i hi => by rw [u2 i hi, (hw i hi).2]⟩
theorem PKr.cong {f g : Nat → Int32} {r r' : Nat} {C : Cy} {T : Tn} (W : WC C) (H : PKr f r C T) (e : ∀ k, k < 19 → g (r' + k) = f (r + k)) : PKr g r' C T := by
  have hN := W.1.1
  have hP := W.1.2.1
  obtain ⟨h1, h2, h3⟩ := H
  refine ⟨by have := e 0 (by omega); rw [Nat.add_zero, Nat.add_zero] at this; rw [this]; exact h1, fun t ht => ?_, fun p hp => ?_⟩
  · have := e (1 + t) (by omega)
    rw [← Nat.add_assoc, ← Nat.add_assoc] at this
    rw [this]; exact h2 t ht
  · have := e (11 + p) (by omega)
    rw [← Nat.add_assoc, ← Nat.add_assoc] at this
    rw [this]; exact h3 p hp
/-- the acts that are kept -/
def AVr (h : Hp) (a : Nat) (C : Cy) (A : List Tn) : Prop := ∃ F, AI h a F A.length ∧ ∀ i, i < A.length → PKr (hI h (a + 1)) (19 * ((F + i) % 40)) C (A.getD i T00)
def keepL (A : List Tn) (T : Tn) : List Tn := if A.length < 40 then A ++ [T] else A.drop 1 ++ [T]
theorem gT_r {W : List Tn} {x : Tn} : (W ++ [x]).getD W.length T00 = x := by
  rw [List.getD_eq_getElem?_getD, List.getElem?_append_right (Nat.le_refl _), Nat.sub_self]; rfl
theorem gT_l {W : List Tn} {x : Tn} {i : Nat} (h : i < W.length) : (W ++ [x]).getD i T00 = W.getD i T00 := by
  rw [List.getD_eq_getElem?_getD, List.getElem?_append_left h, List.getD_eq_getElem?_getD]
theorem gT_d {W : List Tn} {i : Nat} : (W.drop 1).getD i T00 = W.getD (i + 1) T00 := by
  rw [List.getD_eq_getElem?_getD, List.getElem?_drop, List.getD_eq_getElem?_getD, Nat.add_comm]
theorem keepL_len {A : List Tn} {T : Tn} (h : A.length ≤ 40) : (keepL A T).length ≤ 40 ∧ (A.length < 40 → (keepL A T).length = A.length + 1) ∧ (¬ A.length < 40 → (keepL A T).length = 40) := by
  by_cases q : A.length < 40
  · have e : (keepL A T).length = A.length + 1 := by unfold keepL; rw [if_pos q, List.length_append]; rfl
    rw [e]; exact ⟨by omega, fun _ => rfl, fun z => absurd q z⟩
  · have e : (keepL A T).length = 40 := by
      unfold keepL; rw [if_neg q, List.length_append, List.length_drop]; simp only [List.length_cons, List.length_nil]; omega
    rw [e]; exact ⟨by omega, fun z => absurd z q, fun _ => rfl⟩
theorem AVr.keep {h : Hp} {c fs fr F : Nat} {x : Int32} {C : Cy} {T : Tn} {A : List Tn} (W : WC C) (H : TV h 30 c fs fr C (sX x T)) (V : WT C T) (h1 : AI h 42 F A.length) (h2 : ∀ i, i < A.length → PKr (hI h 43) (19 * ((F + i) % 40)) C (A.getD i T00)) : AVr (kpH h 42 30 F A.length) 42 C (keepL A T) := by
  obtain ⟨⟨f1, f2⟩, m1, m2⟩ := h1
  obtain ⟨-, -, -, p4⟩ := pkF_at (h := h) (b := 30) (fr := 19 * ((F + A.length) % 40)) (f := hI h 43)
  have pT : PKr (pkF h 30 (19 * ((F + A.length) % 40)) (hI h 43)) (19 * ((F + A.length) % 40)) C T := PKr.of W H V
  have old : ∀ i, i < A.length → (F + i) % 40 ≠ (F + A.length) % 40 → PKr (pkF h 30 (19 * ((F + A.length) % 40)) (hI h 43)) (19 * ((F + i) % 40)) C (A.getD i T00) := fun i hi ne => (h2 i hi).cong W (fun k hk => p4 _ (by omega))
  unfold kpH keepL
  by_cases q : A.length < 40
  · rw [if_pos q, if_pos q]
    refine ⟨F, ⟨⟨by rw [hI_uI_ne (by omega), hI_uF_ne (by omega)]; exact f1, f2⟩, by rw [hI_uI_eq, List.length_append]; rfl, by rw [List.length_append]; simp only [List.length_cons, List.length_nil]; omega⟩, fun i hi => ?_⟩
    rw [List.length_append] at hi
    simp only [List.length_cons, List.length_nil] at hi
    have e : hI (uI (uF h (42 + 1) (pkF h 30 (19 * ((F + A.length) % 40)) (hI h (42 + 1)))) 42 2 (nI (A.length + 1))) (42 + 1) = pkF h 30 (19 * ((F + A.length) % 40)) (hI h 43) := by
      funext k; rw [hI_uI_ne (by omega), hI_uF_eq]
    rw [e]
    by_cases z : i = A.length
    · subst z; rw [gT_r]; exact pT
    · rw [gT_l (by omega)]; exact old i (by omega) (by omega)
  · rw [if_neg q, if_neg q]
    have h40 : A.length = 40 := by omega
    refine ⟨(F + 1) % 40, ⟨⟨by rw [hI_uI_eq], by omega⟩, ?_, ?_⟩, fun i hi => ?_⟩
    · rw [hI_uI_ne (by omega), hI_uF_ne (by omega), m1, List.length_append, List.length_drop]; simp only [List.length_cons, List.length_nil]; congr 1; omega
    · rw [List.length_append, List.length_drop]; simp only [List.length_cons, List.length_nil]; omega
    · rw [List.length_append, List.length_drop] at hi
      simp only [List.length_cons, List.length_nil] at hi
      have e : hI (uI (uF h (42 + 1) (pkF h 30 (19 * ((F + A.length) % 40)) (hI h (42 + 1)))) 42 1 (nI ((F + 1) % 40))) (42 + 1) = pkF h 30 (19 * ((F + A.length) % 40)) (hI h 43) := by
        funext k; rw [hI_uI_ne (by omega), hI_uF_eq]
      rw [e]
      by_cases z : i = 39
      · subst z
        have e2 : (A.drop 1 ++ [T]).getD 39 T00 = T := by
          have := gT_r (W := A.drop 1) (x := T)
          rw [List.length_drop, h40] at this
          exact this
        rw [e2, show ((F + 1) % 40 + 39) % 40 = (F + A.length) % 40 from by omega]; exact pT
      · rw [gT_l (by rw [List.length_drop]; omega), gT_d, show ((F + 1) % 40 + i) % 40 = (F + (i + 1)) % 40 from by omega]
        exact old (i + 1) (by omega) (by omega)
theorem AVr.fr {h g : Hp} {a : Nat} {C : Cy} {A : List Tn} (H : AVr h a C A) (e1 : ∀ k, hI g a k = hI h a k) (e2 : hI g (a + 1) = hI h (a + 1)) : AVr g a C A := by
  obtain ⟨F, ⟨⟨f1, f2⟩, m1, m2⟩, h2⟩ := H
  exact ⟨F, ⟨⟨(e1 1).trans f1, f2⟩, (e1 2).trans m1, m2⟩, fun i hi => by rw [e2]; exact h2 i hi⟩
