/-! undo; the image -/
theorem unA_s {h : Hp} {a r k : Nat} : unA h 30 a r (k + 1) = un1 30 (hI h a) r k (unA h 30 a r k) := rfl
theorem unB_s {h : Hp} {a r k : Nat} : unB h 30 a r (k + 1) = un2 30 (hI h a) r k (unB h 30 a r k) := rfl
theorem unA_36 {h : Hp} {a r k t : Nat} : hI (unA h 30 a r k) 36 t = if t < k then (hI h a (r + 1 + t) &&& 15) - 1 else hI h 36 t := by
  induction k with
  | zero => rw [if_neg (Nat.not_lt_zero _)]; exact hI_uI_ne (by omega)
  | succ k ih =>
    rw [unA_s, un1, hI_uI_ne (by omega), hI_uI_ne (by omega), hI_uI_ne (by omega), hI_uI]
    by_cases e : t = k
    · subst e; rw [if_pos ⟨rfl, rfl⟩, if_pos (by omega)]
    · have : (t < k + 1) ↔ t < k := by omega
      rw [if_neg (fun q => e q.2), ih]; simp only [this]
theorem unA_35 {h : Hp} {a r k t : Nat} : hI (unA h 30 a r k) 35 t = if t < k then (hI h a (r + 1 + t) >>> ((4 : Int32) &&& 31)) &&& 15 else hI h 35 t := by
  induction k with
  | zero => rw [if_neg (Nat.not_lt_zero _)]; exact hI_uI_ne (by omega)
  | succ k ih =>
    rw [unA_s, un1, hI_uI_ne (by omega), hI_uI_ne (by omega), hI_uI]
    by_cases e : t = k
    · subst e; rw [if_pos ⟨rfl, rfl⟩, if_pos (by omega)]
    · have : (t < k + 1) ↔ t < k := by omega
      rw [if_neg (fun q => e q.2), hI_uI_ne (by omega), ih]; simp only [this]
theorem unA_34 {h : Hp} {a r k t : Nat} : hI (unA h 30 a r k) 34 t = if t < k then (hI h a (r + 1 + t) >>> ((8 : Int32) &&& 31)) &&& 15 else hI h 34 t := by
  induction k with
  | zero => rw [if_neg (Nat.not_lt_zero _)]; exact hI_uI_ne (by omega)
  | succ k ih =>
    rw [unA_s, un1, hI_uI_ne (by omega), hI_uI]
    by_cases e : t = k
    · subst e; rw [if_pos ⟨rfl, rfl⟩, if_pos (by omega)]
    · have : (t < k + 1) ↔ t < k := by omega
      rw [if_neg (fun q => e q.2), hI_uI_ne (by omega), hI_uI_ne (by omega), ih]; simp only [this]
theorem unA_37 {h : Hp} {a r k t : Nat} : hI (unA h 30 a r k) 37 t = if t < k then hI h a (r + 1 + t) >>> ((12 : Int32) &&& 31) else hI h 37 t := by
  induction k with
  | zero => rw [if_neg (Nat.not_lt_zero _)]; exact hI_uI_ne (by omega)
  | succ k ih =>
    rw [unA_s, un1, hI_uI]
    by_cases e : t = k
    · subst e; rw [if_pos ⟨rfl, rfl⟩, if_pos (by omega)]
    · have : (t < k + 1) ↔ t < k := by omega
      rw [if_neg (fun q => e q.2), hI_uI_ne (by omega), hI_uI_ne (by omega), hI_uI_ne (by omega), ih]; simp only [this]
theorem unA_o {h : Hp} {a r k x j : Nat} (hx : x ≤ 33) (hj : ¬ (x = 30 ∧ j = 1)) : hI (unA h 30 a r k) x j = hI h x j := by
  induction k with
  | zero => exact hI_uI_ne hj
  | succ k ih => rw [unA_s, un1, hI_uI_ne (by omega), hI_uI_ne (by omega), hI_uI_ne (by omega), hI_uI_ne (by omega)]; exact ih
theorem unA_1 {h : Hp} {a r k : Nat} : hI (unA h 30 a r k) 30 1 = hI h a r := by
  induction k with
  | zero => exact hI_uI_eq
  | succ k ih => rw [unA_s, un1, hI_uI_ne (by omega), hI_uI_ne (by omega), hI_uI_ne (by omega), hI_uI_ne (by omega)]; exact ih
theorem unB_o {h : Hp} {a r k x j : Nat} (h2 : x ≠ 32) (h3 : x ≠ 33) : hI (unB h 30 a r k) x j = hI (unA h 30 a r 10) x j := by
  induction k with
  | zero => rfl
  | succ k ih => rw [unB_s, un2, hI_uF_ne (by omega), hI_uI_ne (by omega)]; exact ih
theorem unB_32 {h : Hp} {a r k p : Nat} : hI (unB h 30 a r k) 32 p = if p < k then hI h a (r + 11 + p) &&& 127 else hI h 32 p := by
  induction k with
  | zero => rw [if_neg (Nat.not_lt_zero _)]; exact unA_o (by omega) (by omega)
  | succ k ih =>
    rw [unB_s, un2, hI_uF_ne (by omega), hI_uI]
    by_cases e : p = k
    · subst e; rw [if_pos ⟨rfl, rfl⟩, if_pos (by omega)]
    · have : (p < k + 1) ↔ p < k := by omega
      rw [if_neg (fun q => e q.2), ih]; simp only [this]
theorem unB_33 {h : Hp} {a r k i : Nat} : hI (unB h 30 a r k) 33 i = if i < 6 * k then (hI h a (r + 11 + i / 6) >>> ((7 + 3 * nI (i % 6)) &&& 31)) &&& 7 else hI h 33 i := by
  induction k with
  | zero => rw [if_neg (by omega)]; exact unA_o (by omega) (by omega)
  | succ k ih =>
    rw [unB_s, un2]
    show hI (uF (uI (unB h 30 a r k) 32 k _) 33 _) 33 i = _
    rw [hI_uF_eq, upsF_at]
    by_cases e : 6 * k ≤ i ∧ i < 6 * k + 6
    · have h1 : i / 6 = k := by omega
      have h2 : i % 6 = i - 6 * k := by omega
      rw [if_pos e, if_pos (by omega), h1, h2]
    · rw [if_neg e, ih]
      have : (i < 6 * (k + 1)) ↔ i < 6 * k := by omega
      simp only [this]
theorem KB.un {h : Hp} {c fs fr a r : Nat} {x : Int32} {C : Cy} {T T' : Tn} (W : WC C) (K : KB h c fs fr x C T) (hp : PKr (hI h a) r C T') (V : VT C T T') : KB (unB h 30 a r 8) c fs fr x C T' := by
  obtain ⟨h1, h2, h3⟩ := K
  obtain ⟨⟨⟨t1, t2, t3, t4, t5, t6, t7, t8⟩, ⟨k1, k2⟩, U, Wr, hD, hDl⟩, hC, ⟨e1, e2, e3, e4⟩⟩ := h2
  have F := fu_B (h := h) (b := 30) (a := a) (fr := r) 8
  have nc : ∀ i, i ≤ 11 → ∀ j, hI (unB h 30 a r 8) (c + i) j = hI h (c + i) j := fun i hi j => F.2.2.2 _ _ (by unfold Tu; rcases t3 with rfl | rfl <;> omega)
  have u1 : hI (unB h 30 a r 8) 30 1 = nI (tD T') := by rw [unB_o (by omega) (by omega), unA_1]; exact hp.1
  have u6 : ∀ t, t < cN C → hI (unB h 30 a r 8) 36 t = tB T' t := fun t ht => by rw [unB_o (by omega) (by omega), unA_36, if_pos (by omega)]; exact (hp.2.1 t ht).1
  have u3 : ∀ i, i < 6 * cP C → hI (unB h 30 a r 8) 33 i = tW T' i := fun i hi => by
    have := (hp.2.2 (i / 6) (by omega)).2 (i % 6) (by omega)
    rw [show 6 * (i / 6) + i % 6 = i from by omega] at this
    rw [unB_33, if_pos (by omega)]; exact this
  refine ⟨by rw [F.1]; exact h1, ⟨⟨⟨F.St t1, t2, t3, by rw [F.1]; exact t4, (nc 0 (by omega) 2).trans t5, t6, (nc 0 (by omega) 1).trans t7, t8⟩, ⟨fun p hp => by rw [nc 3 (by omega)]; exact k1 p hp, fun i hi => ?_⟩, ?_, fun t ht => ?_, u1, by have := V.2.2.1; show tD T' < 2 ^ 30; omega⟩, ?_, ⟨fun t ht => ?_, fun p hp' => ?_, fun i hi => u3 i hi, ?_⟩⟩, fun p hp => by rw [nc 1 (by omega), h3 p hp]; exact (V.2.2.2 p hp).symm⟩
  · show vp_in (hI (unB h 30 a r 8) 33 i) 6
    rw [u3 i hi]
    obtain ⟨w, hw, e⟩ := V.1.2.2 i hi
    rw [e]; exact vp_in_nI (by have := W.1.2.2.2.1; omega) (by decide)
  · unfold RU; rw [nc 10 (by omega), nc 10 (by omega), nc 11 (by omega), nc 11 (by omega)]; exact U
  · show hI (unB h 30 a r 8) 36 t = -1 ∨ _
    rw [show hI (unB h 30 a r 8) (30 + 6) t = tB T' t from u6 t ht]; exact (V.1.1 t ht).2.1
  · obtain ⟨⟨g1, g2⟩, g3, g4, g5, g6⟩ := hC
    refine ⟨⟨(nc 0 (by omega) 0).trans g1, (nc 0 (by omega) 3).trans g2⟩, fun p hp => ?_, fun t ht => ?_, fun j hj => ?_, fun j hj => ?_⟩
    · rw [nc 2 (by omega), nc 3 (by omega)]; exact g3 p hp
    · rw [nc 5 (by omega)]; exact g4 t ht
    · rw [nc 9 (by omega)]; exact g5 j hj
    · rw [nc 9 (by omega)]; exact g6 j hj
  · obtain ⟨p1, p2, p3, p4⟩ := hp.2.1 t ht
    show hI (unB h 30 a r 8) 35 t = _ ∧ hI (unB h 30 a r 8) 36 t = _ ∧ hI (unB h 30 a r 8) 37 t = _ ∧ hI (unB h 30 a r 8) 34 t = _
    refine ⟨?_, u6 t ht, ?_, ?_⟩
    · rw [unB_o (by omega) (by omega), unA_35, if_pos (by omega)]; exact p2
    · rw [unB_o (by omega) (by omega), unA_37, if_pos (by omega)]; exact p4
    · rw [unB_o (by omega) (by omega), unA_34, if_pos (by omega)]; exact p3
  · show hI (unB h 30 a r 8) 32 p = _ ∧ hI (unB h 30 a r 8) 31 p = _
    refine ⟨by rw [unB_32, if_pos (by omega)]; exact (hp.2.2 p hp').1, ?_⟩
    rw [unB_o (by omega) (by omega), unA_o (by omega) (by omega)]
    exact ((e2 p hp').2).trans (V.2.2.2 p hp').symm
  · show hI (unB h 30 a r 8) 30 2 = x
    rw [unB_o (by omega) (by omega), unA_o (by omega) (by omega)]; exact e4
/-- the last act is undone -/
def oUndo (S : Sx) : Sa := if (sA S).length = 0 then (0, -1, S) else (0, nI ((sA S).length - 1), (sC S, (sA S).getD ((sA S).length - 1) T00, (sA S).take ((sA S).length - 1), sQ S, sM S, sP S, sF S, sR S))
theorem gT_t {A : List Tn} {i n : Nat} (h : i < n) : (A.take n).getD i T00 = A.getD i T00 := by
  rw [List.getD_eq_getElem?_getD, List.getElem?_take_of_lt h, List.getD_eq_getElem?_getD]
theorem k_undo {l : Launch} {d : Nat} {S : Sx} {h : Hp} (W : WS S) (K : KI h S) : Ka l (d + 7) mX9_undo [.ref 0] h (oUndo S) := by
  have K0 := K
  obtain ⟨c, c', fs, fr, z, h0, K1, R⟩ := K
  obtain ⟨F, hF, hp⟩ := id R.1
  have hS := K1.2.1.hc.2.2
  refine run_lv [some (.ref 0)] (go := ?_)
  have ht := r_takeBack (l := l) (d := d + 4) hS at42 at30 hF
  unfold oUndo
  by_cases q : (sA S).length = 0
  · rw [if_pos q, if_pos q] at ht
    rw [if_pos q]
    refine go_aloadn dX9_undo_0 rfl ?_
    refine sg_getR dX9_undo_1 fX9_48 rfl (wo_L rfl) hS (wo_r8 hS rfl) ?_
    refine go_aloadn dX9_undo_4 rfl ?_
    refine sg_getR dX9_undo_5 fX9_41 rfl (wo_L rfl) hS (wo_r7 hS rfl) ?_
    refine sg_cVi (M' := mX0_takeBack) ([.ref 30]) dX9_undo_8 lX9_241 vX0_takeBack (ac_L (at42)) (by decide) rfl hS (ht) rfl (Nat.le_of_ble_eq_true rfl) (Nat.zero_le _) (Nat.zero_le _) ?_
    refine go_ireturn dX9_undo_11 rfl rfl (Nat.zero_le _) (Nat.zero_le _) ?_
    exact ⟨⟨rfl, rfl⟩, K0, Fw.rf⟩
  · rw [if_neg q, if_neg q] at ht
    rw [if_neg q]
    have n40 := W.2.2.1.1
    have K2 : KB (uI h 42 2 (nI ((sA S).length - 1))) c fs fr z (sC S) (sT S) := K1.put (by omega)
    have P2 : PKr (hI (uI h 42 2 (nI ((sA S).length - 1))) 43) (19 * ((F + ((sA S).length - 1)) % 40)) (sC S) ((sA S).getD ((sA S).length - 1) T00) := by
      have e : hI (uI h 42 2 (nI ((sA S).length - 1))) 43 = hI h 43 := funext fun k => hI_uI_ne (by omega)
      rw [e]; exact hp _ (by omega)
    have K3 := K2.un W.1 P2 (W.2.2.1.2 _ (by omega))
    have F3 := fu_B (h := uI h 42 2 (nI ((sA S).length - 1))) (b := 30) (a := 43) (fr := 19 * ((F + ((sA S).length - 1)) % 40)) 8
    have e3 : ∀ a k, 42 ≤ a → hI (unB (uI h 42 2 (nI ((sA S).length - 1))) 30 43 (19 * ((F + ((sA S).length - 1)) % 40)) 8) a k = hI (uI h 42 2 (nI ((sA S).length - 1))) a k := fun a k q => F3.2.2.2 a k (by unfold Tu; omega)
    have e4 : ∀ a k, a ≤ 2 → hI (unB (uI h 42 2 (nI ((sA S).length - 1))) 30 43 (19 * ((F + ((sA S).length - 1)) % 40)) 8) a k = hI (uI h 42 2 (nI ((sA S).length - 1))) a k := fun a k q => F3.2.2.2 a k (by unfold Tu; omega)
    have hA : AVr (unB (uI h 42 2 (nI ((sA S).length - 1))) 30 43 (19 * ((F + ((sA S).length - 1)) % 40)) 8) 42 (sC S) ((sA S).take ((sA S).length - 1)) := by
      have hl : ((sA S).take ((sA S).length - 1)).length = (sA S).length - 1 := by rw [List.length_take]; omega
      refine ⟨F, ⟨⟨by rw [e3 42 1 (by omega), hI_uI_ne (by omega)]; exact hF.1.1, hF.1.2⟩, by rw [e3 42 2 (by omega), hI_uI_eq, hl], by omega⟩, fun i hi => ?_⟩
      rw [hl] at hi
      rw [gT_t hi]
      have e : hI (unB (uI h 42 2 (nI ((sA S).length - 1))) 30 43 (19 * ((F + ((sA S).length - 1)) % 40)) 8) (42 + 1) = hI h (42 + 1) := funext fun k => by rw [e3 _ _ (by omega), hI_uI_ne (by omega)]
      rw [e]; exact hp i (by omega)
    refine go_aloadn dX9_undo_0 rfl ?_
    refine sg_getR dX9_undo_1 fX9_48 rfl (wo_L rfl) hS (wo_r8 hS rfl) ?_
    refine go_aloadn dX9_undo_4 rfl ?_
    refine sg_getR dX9_undo_5 fX9_41 rfl (wo_L rfl) hS (wo_r7 hS rfl) ?_
    refine sg_cVi (M' := mX0_takeBack) ([.ref 30]) dX9_undo_8 lX9_241 vX0_takeBack (ac_L (at42)) (by decide) rfl hS (ht) rfl (Nat.le_of_ble_eq_true rfl) (Nat.zero_le _) (Nat.zero_le _) ?_
    refine go_ireturn dX9_undo_11 rfl rfl (Nat.zero_le _) (Nat.zero_le _) ?_
    exact ⟨⟨rfl, rfl⟩, ⟨c, c', fs, fr, z, ⟨h0.1, h0.2.1, by rw [F3.1]; exact h0.2.2⟩, K3, R.acts hA (fun a k q => by rcases q with q | q; (· rw [e4 a k q, hI_uI_ne (by omega)]); rw [e3 a k (by omega), hI_uI_ne (by omega)])⟩, (Fw.rf.uI (by decide)).tr (Fw.fr F3 (fun a q => by unfold Tu at q; omega))⟩
