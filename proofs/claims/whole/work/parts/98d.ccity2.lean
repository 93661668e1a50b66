/-! the class's city -/
def Q00 : Nt := (0, fun _ => 0, fun _ => 0, fun _ => 0)
noncomputable def cyY (S : Sx) (n : Nat) : Ry := yFin (sP S).2 n (y00 (tkW (sP S).2 n 0))
/-- what `city` does -/
noncomputable def oCity (S : Sx) (x : Int32) : Sa :=
  if 0 ≤ x ∧ x ≤ nI (sP S).1 then
    (if (yF (cyY S x.toNatClampNeg)).1 = 0 then (0, 0, (yC (cyY S x.toNatClampNeg), yT (cyY S x.toNatClampNeg), [], Q00, none, (0, (sP S).2), -1, sR S))
    else (0, nI (yF (cyY S x.toNatClampNeg)).1, (sC S, sT S, sA S, sQ S, sM S, (0, (sP S).2), nI (yF (cyY S x.toNatClampNeg)).2, upd (sR S) 0 (sR S 0 + 1))))
  else (1, 0, S)
abbrev Xi (o : Sa) (h : Hp) : String → Hp → Prop := fun E g => (o.1 = 1 ∧ E = nIAE) ∧ KI g o.2.2 ∧ Fw h g
/-- behind all lines -/
def CE (h g : Hp) (c : Nat) (Y : Ry) : Prop := Fcy c h g ∧ St g ∧ ((yF Y).1 = 0 → KY g c Y) ∧ (¬ (yF Y).1 = 0 → hI g 3 10 = nI (yF Y).1 ∧ hI g 3 11 = nI (yF Y).2)
theorem bgH_2 {h : Hp} {b c : Nat} : (bgH h b c).2 = (uR h b 0 (some c)).2 := by
  unfold bgH rc0 cpH flH
  simp only [uI_2, uF_2]
theorem bg_I {h : Hp} {c : Nat} (hc : c = 6 ∨ c = 18) : (∀ a k, ¬ (30 ≤ a ∧ a ≤ 37) → hI (bgH h 30 c) a k = hI h a k) ∧ (hI (bgH h 30 c) 30 1 = 0 ∧ hI (bgH h 30 c) 30 2 = 0) ∧ (∀ p, p < 8 → hI (bgH h 30 c) 31 p = hI h (c + 1) p ∧ hI (bgH h 30 c) 32 p = 0) ∧ (∀ i, i < 48 → hI (bgH h 30 c) 33 i = hI h (c + 4) i) ∧ ∀ t, t < 10 → hI (bgH h 30 c) 34 t = hI h (c + 6) t ∧ hI (bgH h 30 c) 35 t = hI h (c + 7) t ∧ hI (bgH h 30 c) 36 t = hI h (c + 8) t ∧ hI (bgH h 30 c) 37 t = 0 := by
  have r0 : ∀ a k, hI (uR h 30 0 (some c)) a k = hI h a k := fun _ _ => rfl
  have cn : ∀ {g : Hp} {a b n x k : Nat}, ¬ x = b → hI (cpH g a b n) x k = hI g x k := fun q => by rw [hI_cpH, if_neg q]
  have ce : ∀ {g : Hp} {a b n k : Nat}, k < n → hI (cpH g a b n) b k = hI g a k := fun q => by rw [hI_cpH, if_pos rfl, if_pos q]
  unfold bgH rc0
  refine ⟨fun a k q => ?_, ⟨?_, ?_⟩, fun p hp => ⟨?_, ?_⟩, fun i hi => ?_, fun t ht => ⟨?_, ?_, ?_, ?_⟩⟩
  all_goals repeat first | rw [hI_flHn (by omega)] | rw [cn (by omega)] | rw [hI_flHe (by omega)] | rw [ce (by omega)] | rw [hI_uI_ne (by omega)] | rw [hI_uI_eq] | rw [r0]
/-- the new city, the new town -/
theorem kb_new {h g : Hp} {c n : Nat} {Y : Ry} (hS : St g) (K : KY h c Y) (I : YI n Y) (h5 : hR g 0 5 = some c) (h0 : hR g 30 0 = some c) (eC : ∀ a k, c ≤ a → a ≤ c + 11 → hI g a k = hI h a k) (d1 : hI g 30 1 = 0) (d2 : hI g 30 2 = 0) (d3 : ∀ p, p < 8 → hI g 31 p = hI h (c + 1) p ∧ hI g 32 p = 0) (d4 : ∀ i, i < 48 → hI g 33 i = hI h (c + 4) i) (d5 : ∀ t, t < 10 → hI g 34 t = hI h (c + 6) t ∧ hI g 35 t = hI h (c + 7) t ∧ hI g 36 t = hI h (c + 8) t ∧ hI g 37 t = 0) : KB g c (yR Y).1 (yR Y).2.1 0 (yC Y) (yT Y) := by
  obtain ⟨⟨k1, k2⟩, ⟨k3, k4, k5, k6, k7, k8⟩, ⟨k9, k9a, k9b, k9c, k9d⟩, k10, k11, k12, k13, ⟨k14, k14a, k14b, k14c⟩, k15, k16⟩ := K
  obtain ⟨⟨⟨a1, a2, a3, a4⟩, ⟨a5, a6, a7⟩, a8, a9, a10⟩, ⟨⟨w1, w2, w3, w4, w5, w6⟩, w7, w8, w9, w10⟩, ⟨t1, t2, t3⟩, hn, ⟨e1, e2, e3, e4, e5⟩, -, -, -⟩ := I
  refine ⟨h5, ⟨⟨⟨hS, at30, k2, h0, ?_, w1, ?_, w2⟩, ⟨fun p hp => ⟨cWl (yC Y) p, ?_, (w7 p hp).1, (w7 p hp).2⟩, fun i hi => ?_⟩, ⟨⟨?_, ?_, by omega⟩, ?_, ?_, by omega⟩, fun t ht => ?_, ?_, ?_⟩, ⟨⟨?_, ?_⟩, fun p hp => ⟨?_, ?_⟩, fun t ht => ?_, fun j hj => ?_, fun j hj => ?_⟩, fun t ht => ⟨?_, ?_, ?_, ?_⟩, fun p hp => ⟨?_, ?_⟩, fun i hi => ?_, ?_⟩, fun p hp => ?_⟩
  · rw [eC _ _ (by omega) (by omega)]; exact k9b
  · rw [eC _ _ (by omega) (by omega)]; exact k9a
  · rw [eC _ _ (by omega) (by omega)]; exact (k10 p hp).2.2
  · show vp_in (hI g 33 i) 6
    rw [d4 i (by omega), k11 i (by omega)]
    obtain ⟨x, x1, x2⟩ := t3 i hi
    rw [x2]; exact vp_in_nI (by omega) (by decide)
  · rw [eC _ _ (by omega) (by omega)]; exact k14
  · rw [eC _ _ (by omega) (by omega)]; exact k14a
  · rw [eC _ _ (by omega) (by omega)]; exact k14b
  · rw [eC _ _ (by omega) (by omega)]; exact k14c
  · show hI g 36 t = -1 ∨ ∃ w, w < cP (yC Y) ∧ hI g 36 t = nI w
    rw [(d5 t (by omega)).2.2.1, k13 t (by omega)]
    exact (t1 t ht).2.1
  · show hI g 30 1 = nI (tD (yT Y))
    rw [d1, e1]; rfl
  · show tD (yT Y) < 2 ^ 30
    rw [e1]; decide
  · rw [eC _ _ (by omega) (by omega)]; exact k9
  · rw [eC _ _ (by omega) (by omega)]; exact k9c
  · rw [eC _ _ (by omega) (by omega)]; exact (k10 p hp).2.1
  · rw [eC _ _ (by omega) (by omega)]; exact (k10 p hp).2.2
  · rw [eC _ _ (by omega) (by omega)]; exact (k12 t ht).1
  · rw [eC _ _ (by omega) (by omega)]; exact k15 j hj
  · rw [eC _ _ (by omega) (by omega)]; exact k16 j hj
  · show hI g 35 t = tO (yT Y) t
    rw [(d5 t (by omega)).2.1]; exact (k12 t ht).2.2
  · show hI g 36 t = tB (yT Y) t
    rw [(d5 t (by omega)).2.2.1]; exact k13 t (by omega)
  · show hI g 37 t = tS (yT Y) t
    rw [(d5 t (by omega)).2.2.2, e3]
  · show hI g 34 t = tX (yT Y) t
    rw [(d5 t (by omega)).1]; exact (k12 t ht).2.1
  · show hI g 32 p = tH (yT Y) p
    rw [(d3 p (by omega)).2, e4]
  · show hI g 31 p = tV (yT Y) p
    rw [(d3 p (by omega)).1]; exact (k10 p hp).1
  · show hI g 33 i = tW (yT Y) i
    rw [d4 i (by omega)]; exact k11 i (by omega)
  · exact d2
  · rw [eC _ _ (by omega) (by omega)]; exact (k10 p hp).1
