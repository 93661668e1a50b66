/-! the model: a day -/
def WT (C : Cy) (T : Tn) : Prop := (∀ t, t < cN C → (∃ o, o < cP C ∧ tO T t = nI o) ∧ (tB T t = -1 ∨ ∃ w, w < cP C ∧ tB T t = nI w) ∧ (∃ s, s < 100 ∧ tS T t = nI s) ∧ ∃ x, x ≤ 9 ∧ tX T t = nI x) ∧ (∀ p, p < cP C → (∃ s, s ≤ 99 ∧ tH T p = nI s) ∧ ∃ v, v ≤ 9 ∧ tV T p = nI v) ∧ ∀ i, i < 6 * cP C → ∃ w, w < cL C ∧ tW T i = nI w
theorem WT.o {C : Cy} {T : Tn} (H : WT C T) : WO C T := ⟨fun t ht => (H.1 t ht).2.2.2, fun p hp => (H.2.1 p hp).2⟩
/-- how many of those below n -/
def ctN (P : Nat → Prop) [DecidablePred P] : Nat → Nat := foF (fun t a => if P t then a + 1 else a) 0
theorem ctN_cong {P Q : Nat → Prop} [DecidablePred P] [DecidablePred Q] {n : Nat} (h : ∀ i, i < n → (P i ↔ Q i)) : ctN P n = ctN Q n := foF_cong (fun i hi a => by by_cases q : P i; (· rw [if_pos q, if_pos ((h i hi).mp q)]); rw [if_neg q, if_neg (fun z => q ((h i hi).mpr z))])
theorem ctN_z {P : Nat → Prop} [DecidablePred P] {n : Nat} : ctN P n = 0 ↔ ∀ i, i < n → ¬ P i := by
  induction n with
  | zero => exact ⟨fun _ i hi => absurd hi (Nat.not_lt_zero _), fun _ => rfl⟩
  | succ n ih =>
    show (if P n then ctN P n + 1 else ctN P n) = 0 ↔ _
    by_cases q : P n
    · rw [if_pos q]
      exact ⟨fun z => absurd z (by omega), fun z => absurd q (z n (by omega))⟩
    · rw [if_neg q, ih]
      exact ⟨fun z i hi => by by_cases e : i = n; (· subst e; exact q); exact z i (by omega), fun z i hi => z i (by omega)⟩
theorem bi_ct {P : Nat → Prop} [DecidablePred P] {n k : Nat} (hn : n ≤ 30) (hk : k ≤ 30) : bi10 (btF P n) k = nI (ctN (fun t => t < n ∧ P t) k) := by
  induction k with
  | zero => rfl
  | succ k ih =>
    show bi10 (btF P n) k + ((btF P n >>> (nI k &&& 31)) &&& 1) = nI (if k < n ∧ P k then ctN (fun t => t < n ∧ P t) k + 1 else ctN (fun t => t < n ∧ P t) k)
    rw [ih (by omega), sh_bit (by omega), bI_btF (by omega) (by omega)]
    by_cases q : k < n ∧ P k
    · rw [if_pos q, if_pos (decide_eq_true q), nI_1]
    · rw [if_neg q, if_neg (by simpa using q)]; simp
theorem ctN_ext {P : Nat → Prop} [DecidablePred P] {n m : Nat} (h : n ≤ m) : ctN (fun t => t < n ∧ P t) m = ctN P n := by
  induction m with
  | zero => have : n = 0 := by omega
            subst this; rfl
  | succ m ih =>
    by_cases e : n = m + 1
    · subst e
      exact ctN_cong (fun i hi => ⟨fun z => z.2, fun z => ⟨hi, z⟩⟩)
    · show (if m < n ∧ P m then _ else ctN (fun t => t < n ∧ P t) m) = _
      rw [if_neg (by omega)]; exact ih (by omega)
theorem bc_ct {P : Nat → Prop} [DecidablePred P] {n : Nat} (hn : n ≤ 10) : bi10 (btF P n) 10 = nI (ctN P n) := by rw [bi_ct (by omega) (by omega), ctN_ext hn]
theorem mn_ct {C : Cy} {T : Tn} {p : Nat} : mnT C T p = ctN (fun t => tB T t = nI p) (cN C) := rfl
theorem bt_mn {C : Cy} {T : Tn} {p : Nat} (W : WC C) : (btF (fun t => tB T t = nI p) (cN C) = 0) ↔ mnT C T p = 0 := by rw [btF_zero (by have := W.1.1; omega), mn_ct, ctN_z]
/-- one place of the row put anew -/
theorem mt_H {g : Hp} {b w : Nat} {C : Cy} {T : Tn} {v : Int32} (W : WC C) (hw : w < cP C) (H : MT g b C T) : MT (uI g 91 (b + (41 + w)) v) b C (tD T, tC T, tO T, tB T, tS T, tX T, upd (tH T) w v, tV T, tW T) := by
  obtain ⟨h1, h2, h3, h4⟩ := H
  have hN := W.1.1
  have hP := W.1.2.1
  refine ⟨?_, fun t ht => ?_, fun p hp => ?_, fun i hi => ?_⟩
  · rw [hI_uI_ne (by omega)]; exact h1
  · rw [hI_uI_ne (by omega), hI_uI_ne (by omega), hI_uI_ne (by omega), hI_uI_ne (by omega)]; exact h2 t ht
  · refine ⟨?_, by rw [hI_uI_ne (by omega)]; exact (h3 p hp).2⟩
    show _ = upd (tH T) w v p
    by_cases e : p = w
    · subst e; rw [hI_uI_eq, pk_us]
    · rw [hI_uI_ne (by omega), pk_un e]; exact (h3 p hp).1
  · rw [hI_uI_ne (by omega)]; exact h4 i hi
theorem mt_S {g : Hp} {b w : Nat} {C : Cy} {T : Tn} {v : Int32} (W : WC C) (hw : w < cN C) (H : MT g b C T) : MT (uI g 91 (b + (21 + w)) v) b C (tD T, tC T, tO T, tB T, upd (tS T) w v, tX T, tH T, tV T, tW T) := by
  obtain ⟨h1, h2, h3, h4⟩ := H
  have hN := W.1.1
  have hP := W.1.2.1
  refine ⟨?_, fun t ht => ?_, fun p hp => ?_, fun i hi => ?_⟩
  · rw [hI_uI_ne (by omega)]; exact h1
  · obtain ⟨a1, a2, a3, a4⟩ := h2 t ht
    rw [hI_uI_ne (by omega), hI_uI_ne (by omega)]
    refine ⟨a1, a2, ?_, by rw [hI_uI_ne (by omega)]; exact a4⟩
    show _ = upd (tS T) w v t
    by_cases e : t = w
    · subst e; rw [hI_uI_eq, pk_us]
    · rw [hI_uI_ne (by omega), pk_un e]; exact a3
  · rw [hI_uI_ne (by omega), hI_uI_ne (by omega)]; exact h3 p hp
  · rw [hI_uI_ne (by omega)]; exact h4 i hi
theorem mt_B {g : Hp} {b w : Nat} {C : Cy} {T : Tn} {v : Int32} (W : WC C) (hw : w < cN C) (H : MT g b C T) : MT (uI g 91 (b + (11 + w)) v) b C (tD T, tC T, tO T, upd (tB T) w v, tS T, tX T, tH T, tV T, tW T) := by
  obtain ⟨h1, h2, h3, h4⟩ := H
  have hN := W.1.1
  have hP := W.1.2.1
  refine ⟨?_, fun t ht => ?_, fun p hp => ?_, fun i hi => ?_⟩
  · rw [hI_uI_ne (by omega)]; exact h1
  · obtain ⟨a1, a2, a3, a4⟩ := h2 t ht
    rw [hI_uI_ne (by omega)]
    refine ⟨a1, ?_, by rw [hI_uI_ne (by omega)]; exact a3, by rw [hI_uI_ne (by omega)]; exact a4⟩
    show _ = upd (tB T) w v t
    by_cases e : t = w
    · subst e; rw [hI_uI_eq, pk_us]
    · rw [hI_uI_ne (by omega), pk_un e]; exact a2
  · rw [hI_uI_ne (by omega), hI_uI_ne (by omega)]; exact h3 p hp
  · rw [hI_uI_ne (by omega)]; exact h4 i hi
theorem mt_O {g : Hp} {b w : Nat} {C : Cy} {T : Tn} {v : Int32} (W : WC C) (hw : w < cN C) (H : MT g b C T) : MT (uI g 91 (b + (1 + w)) v) b C (tD T, tC T, upd (tO T) w v, tB T, tS T, tX T, tH T, tV T, tW T) := by
  obtain ⟨h1, h2, h3, h4⟩ := H
  have hN := W.1.1
  have hP := W.1.2.1
  refine ⟨?_, fun t ht => ?_, fun p hp => ?_, fun i hi => ?_⟩
  · rw [hI_uI_ne (by omega)]; exact h1
  · obtain ⟨a1, a2, a3, a4⟩ := h2 t ht
    refine ⟨?_, by rw [hI_uI_ne (by omega)]; exact a2, by rw [hI_uI_ne (by omega)]; exact a3, by rw [hI_uI_ne (by omega)]; exact a4⟩
    show _ = upd (tO T) w v t
    by_cases e : t = w
    · subst e; rw [hI_uI_eq, pk_us]
    · rw [hI_uI_ne (by omega), pk_un e]; exact a1
  · rw [hI_uI_ne (by omega), hI_uI_ne (by omega)]; exact h3 p hp
  · rw [hI_uI_ne (by omega)]; exact h4 i hi
theorem mt_X {g : Hp} {b w : Nat} {C : Cy} {T : Tn} {v : Int32} (W : WC C) (hw : w < cN C) (H : MT g b C T) : MT (uI g 91 (b + (31 + w)) v) b C (tD T, tC T, tO T, tB T, tS T, upd (tX T) w v, tH T, tV T, tW T) := by
  obtain ⟨h1, h2, h3, h4⟩ := H
  have hN := W.1.1
  have hP := W.1.2.1
  refine ⟨?_, fun t ht => ?_, fun p hp => ?_, fun i hi => ?_⟩
  · rw [hI_uI_ne (by omega)]; exact h1
  · obtain ⟨a1, a2, a3, a4⟩ := h2 t ht
    refine ⟨by rw [hI_uI_ne (by omega)]; exact a1, by rw [hI_uI_ne (by omega)]; exact a2, by rw [hI_uI_ne (by omega)]; exact a3, ?_⟩
    show _ = upd (tX T) w v t
    by_cases e : t = w
    · subst e; rw [hI_uI_eq, pk_us]
    · rw [hI_uI_ne (by omega), pk_un e]; exact a4
  · rw [hI_uI_ne (by omega), hI_uI_ne (by omega)]; exact h3 p hp
  · rw [hI_uI_ne (by omega)]; exact h4 i hi
theorem mt_V {g : Hp} {b w : Nat} {C : Cy} {T : Tn} {v : Int32} (W : WC C) (hw : w < cP C) (H : MT g b C T) : MT (uI g 91 (b + (49 + w)) v) b C (tD T, tC T, tO T, tB T, tS T, tX T, tH T, upd (tV T) w v, tW T) := by
  obtain ⟨h1, h2, h3, h4⟩ := H
  have hN := W.1.1
  have hP := W.1.2.1
  refine ⟨?_, fun t ht => ?_, fun p hp => ?_, fun i hi => ?_⟩
  · rw [hI_uI_ne (by omega)]; exact h1
  · rw [hI_uI_ne (by omega), hI_uI_ne (by omega), hI_uI_ne (by omega), hI_uI_ne (by omega)]; exact h2 t ht
  · refine ⟨by rw [hI_uI_ne (by omega)]; exact (h3 p hp).1, ?_⟩
    show _ = upd (tV T) w v p
    by_cases e : p = w
    · subst e; rw [hI_uI_eq, pk_us]
    · rw [hI_uI_ne (by omega), pk_un e]; exact (h3 p hp).2
  · rw [hI_uI_ne (by omega)]; exact h4 i hi
theorem MT.cong {g : Hp} {b : Nat} {C : Cy} {T T' : Tn} (H : MT g b C T) (h0 : tD T = tD T') (h1 : ∀ t, t < cN C → tO T t = tO T' t ∧ tB T t = tB T' t ∧ tS T t = tS T' t ∧ tX T t = tX T' t) (h2 : ∀ p, p < cP C → tH T p = tH T' p ∧ tV T p = tV T' p) (h3 : ∀ i, i < 6 * cP C → tW T i = tW T' i) : MT g b C T' := by
  obtain ⟨a0, a, c, d⟩ := H
  refine ⟨by rw [← h0]; exact a0, fun t ht => ?_, fun p hp => ?_, fun i hi => ?_⟩
  · obtain ⟨z1, z2, z3, z4⟩ := h1 t ht
    rw [← z1, ← z2, ← z3, ← z4]; exact a t ht
  · rw [← (h2 p hp).1, ← (h2 p hp).2]; exact c p hp
  · rw [← h3 i hi]; exact d i hi
/-- rows of values and their pile alone -/
abbrev S93 (a _k : Nat) : Prop := a = 93 ∨ a = 94
theorem s93d {b a k : Nat} (h : S93 a k) : SD b a k := by unfold SD; unfold S93 at h; omega
theorem MT.s93 {h g : Hp} {b : Nat} {C : Cy} {T : Tn} (W : WC C) (H : MT h b C T) (F : Fz S93 h g) : MT g b C T := H.fz W F (fun k _ _ => by unfold S93; omega)
theorem q_shameOf {l : Launch} {d as ar b t w : Nat} {C : Cy} {T : Tn} {h : Hp} (W : WC C) (H : MC h as ar C) (hT : MT h b C T) (hb : b ≤ 105) (hd : tD T < 2 ^ 31) (ht : t < cN C) (hw : w < cP C) (hwt : tB T t = nI w) :
    Ey l (d + 4) mX10_shameOf [.ref 77, .int (nI b), .int (nI t)] h (some (.int (shT C T t w (if hI h 77 47 = 0 then lkT C T w (tD T) else 0)))) (Fz S93 h) := by
  have hS := H.1
  have hN := W.1.1
  have hP := W.1.2.1
  obtain ⟨a1, a2, a3, a4⟩ := hT.2.1 t ht
  obtain ⟨b1, b2⟩ := hT.2.2.1 w hw
  have hbits : bi10 (if hI h 77 47 = 0 then lkT C T w (tD T) else 0) 10 = bcF (if hI h 77 47 = 0 then lkT C T w (tD T) else 0) := by
    split
    · exact bi_bc (by omega)
    · decide +kernel
  have hey := q_eyesOn (l := l) (d := d) W H hT hb hw hd
  generalize (if hI h 77 47 = 0 then lkT C T w (tD T) else 0) = lk at *
  rw [hwt] at a2
  refine run_lv [some (.ref 77), some (.int (nI b)), some (.int (nI t)), none, none] (go := ?_)
  refine go_aloadn dX10_shameOf_0 rfl ?_
  refine sg_getR dX10_shameOf_1 fX10_66 rfl (mo_L rfl) hS (mo_r42 hS rfl) ?_
  refine go_iloadn dX10_shameOf_4 rfl ?_
  refine go_bipush (v := 11) dX10_shameOf_5 rfl ?_
  refine go_iadd dX10_shameOf_7 ?_
  refine go_iloadn dX10_shameOf_8 rfl ?_
  refine go_iadd dX10_shameOf_9 ?_
  refine sg_ialdN (i := b + (11 + t)) dX10_shameOf_10 (mo_42 rfl) hS (by simp only [lit_nI, nI_add, pk_mul, Nat.add_assoc, Nat.zero_add, Nat.add_zero]) (by omega) (a2) ?_
  refine go_ist3 dX10_shameOf_11 rfl ?_
  refine go_aloadn dX10_shameOf_12 rfl ?_
  refine go_iloadn dX10_shameOf_13 rfl ?_
  refine go_iloadn dX10_shameOf_14 rfl ?_
  refine sg_cVi (M' := mX10_eyesOn) ([.int (nI b), .int (nI w)]) dX10_shameOf_15 lX10_309 vX10_eyesOn (mo_L rfl) (by decide) rfl hS (hey) rfl (Nat.le_of_ble_eq_true rfl) (Nat.zero_le _) (Nat.zero_le _) ?_
  refine go_ist4 dX10_shameOf_18 rfl ?_
  skip
  by_cases z : (cSh C).1 = 0
  · have hsa : hI h 77 5 = -1 := by rw [H.2.2.1.1, if_pos z]
    refine go_aloadn dX10_shameOf_20 rfl ?_
    refine sg_getI dX10_shameOf_21 fX10_16 rfl (mo_L rfl) hS ?_
    rw [hsa]
    refine go_iconst (v := -1) dX10_shameOf_24 rfl ?_
    refine go_icmp_ne (tgt := 64) dX10_shameOf_25 (by decide) (fun c25 => absurd rfl c25) (fun c25 => ?_)
    refine go_aloadn dX10_shameOf_28 rfl ?_
    refine sg_getR dX10_shameOf_29 fX10_66 rfl (mo_L rfl) hS (mo_r42 hS rfl) ?_
    refine go_iloadn dX10_shameOf_32 rfl ?_
    refine go_bipush (v := 31) dX10_shameOf_33 rfl ?_
    refine go_iadd dX10_shameOf_35 ?_
    refine go_iloadn dX10_shameOf_36 rfl ?_
    refine go_iadd dX10_shameOf_37 ?_
    refine sg_ialdN (i := b + (31 + t)) dX10_shameOf_38 (mo_42 rfl) hS (by simp only [lit_nI, nI_add, pk_mul, Nat.add_assoc, Nat.zero_add, Nat.add_zero]) (by omega) (a4) ?_
    refine go_iload dX10_shameOf_39 rfl ?_
    refine sg_cSi (M' := mX10_bits) ([.int lk]) dX10_shameOf_41 lX10_312 sX10_bits hS (q_bits) rfl (Nat.le_of_ble_eq_true rfl) (Nat.zero_le _) (Nat.zero_le _) ?_
    rw [hbits]
    refine go_iadd dX10_shameOf_44 ?_
    refine go_aloadn dX10_shameOf_45 rfl ?_
    refine sg_getR dX10_shameOf_46 fX10_66 rfl (mo_L rfl) hS (mo_r42 hS rfl) ?_
    refine go_iloadn dX10_shameOf_49 rfl ?_
    refine go_bipush (v := 49) dX10_shameOf_50 rfl ?_
    refine go_iadd dX10_shameOf_52 ?_
    refine go_iloadn dX10_shameOf_53 rfl ?_
    refine go_iadd dX10_shameOf_54 ?_
    refine sg_ialdN (i := b + (49 + w)) dX10_shameOf_55 (mo_42 rfl) hS (by simp only [lit_nI, nI_add, pk_mul, Nat.add_assoc, Nat.zero_add, Nat.add_zero]) (by omega) (b2) ?_
    refine go_isub dX10_shameOf_56 ?_
    refine go_iconst (v := 0) dX10_shameOf_57 rfl ?_
    refine go_bipush (v := 20) dX10_shameOf_58 rfl ?_
    refine sg_cSi (M' := mX10_bounded) ([.int _, .int 0, .int 20]) dX10_shameOf_60 lX10_315 sX10_bounded hS (q_bounded) rfl (Nat.le_of_ble_eq_true rfl) (Nat.zero_le _) (Nat.zero_le _) ?_
    refine go_ireturn dX10_shameOf_63 rfl rfl (Nat.zero_le _) (Nat.zero_le _) ?_
    exact ⟨by rw [bd_kept, shT, if_pos z], Fz.rf⟩
  · have hsa : hI h 77 5 = nI as := by rw [H.2.2.1.1, if_neg z]
    have hPM := H.2.2.2.2.2.1 z
    have hWP := W.2.2.1.1
    have e91 : ∀ (g : Hp) (k : Nat) (v : Int32) (i : Nat), hI (uI g 93 k v) 91 i = hI g 91 i := fun _ _ _ _ => hI_uI_ne (by omega)
    have e79 : ∀ (g : Hp) (k : Nat) (v : Int32) (i : Nat), hI (uI g 93 k v) 79 i = hI g 79 i := fun _ _ _ _ => hI_uI_ne (by omega)
    have e77 : ∀ (g : Hp) (k : Nat) (v : Int32) (i : Nat), hI (uI g 93 k v) 77 i = hI g 77 i := fun _ _ _ _ => hI_uI_ne (by omega)
    have hrec : Ey l (d + 3) mX10_reckons [.ref 77, .int (nI as)] (uI (uI (uI (uI (uI (uI (uI h 93 0 (tX T t)) 93 1 (cWt C t)) 93 2 (tS T t)) 93 3 (bcF lk)) 93 4 (lk >>> (tO T t &&& 31) &&& 1)) 93 5 (tV T w)) 93 6 (nI (tD T))) (some (.int (evP (cSh C) (svT C T t w lk)))) (Fz S94 (uI (uI (uI (uI (uI (uI (uI h 93 0 (tX T t)) 93 1 (cWt C t)) 93 2 (tS T t)) 93 3 (bcF lk)) 93 4 (lk >>> (tO T t &&& 31) &&& 1)) 93 5 (tV T w)) 93 6 (nI (tD T)))) := by
      refine q_reckons (A := shA) hS ?_ hWP (by omega) (fun k hk _ => ?_)
      · have : hI (uI (uI (uI (uI (uI (uI (uI h 93 0 (tX T t)) 93 1 (cWt C t)) 93 2 (tS T t)) 93 3 (bcF lk)) 93 4 (lk >>> (tO T t &&& 31) &&& 1)) 93 5 (tV T w)) 93 6 (nI (tD T))) 80 = hI h 80 := by
          funext k; rw [hI_uI_ne (by omega), hI_uI_ne (by omega), hI_uI_ne (by omega), hI_uI_ne (by omega), hI_uI_ne (by omega), hI_uI_ne (by omega), hI_uI_ne (by omega)]
        rw [this]; exact hPM
      · have hk : k < 7 := hk
        match k, hk with
        | 0, _ => simp [mvN, hI_uI, svT]
        | 1, _ => simp [mvN, hI_uI, svT]
        | 2, _ => simp [mvN, hI_uI, svT]
        | 3, _ => simp [mvN, hI_uI, svT]
        | 4, _ => simp [mvN, hI_uI, svT]
        | 5, _ => simp [mvN, hI_uI, svT]
        | 6, _ => simp [mvN, hI_uI, svT]
    refine go_aloadn dX10_shameOf_20 rfl ?_
    refine sg_getI dX10_shameOf_21 fX10_16 rfl (mo_L rfl) hS ?_
    rw [hsa]
    refine go_iconst (v := -1) dX10_shameOf_24 rfl ?_
    refine go_icmp_ne (tgt := 64) dX10_shameOf_25 (by decide) (fun c25 => ?_) (fun c25 => absurd c25 (nI_m1 (by have := hPM.2.2; omega)))
    refine go_aloadn dX10_shameOf_64 rfl ?_
    refine sg_getR dX10_shameOf_65 fX10_72 rfl (mo_L rfl) hS (mo_r45 hS rfl) ?_
    refine go_iconst (v := 0) dX10_shameOf_68 rfl ?_
    refine go_aloadn dX10_shameOf_69 rfl ?_
    refine sg_getR dX10_shameOf_70 fX10_66 rfl (mo_L rfl) hS (mo_r42 hS rfl) ?_
    refine go_iloadn dX10_shameOf_73 rfl ?_
    refine go_bipush (v := 31) dX10_shameOf_74 rfl ?_
    refine go_iadd dX10_shameOf_76 ?_
    refine go_iloadn dX10_shameOf_77 rfl ?_
    refine go_iadd dX10_shameOf_78 ?_
    refine sg_ialdN (i := b + (31 + t)) dX10_shameOf_79 (mo_42 rfl) hS (by simp only [lit_nI, nI_add, pk_mul, Nat.add_assoc, Nat.zero_add, Nat.add_zero]) (by omega) (a4) ?_
    refine sg_iastN (i := 0) dX10_shameOf_80 (mo_45 rfl) hS (by simp only [lit_nI, nI_add, pk_mul, Nat.add_assoc, Nat.zero_add, Nat.add_zero]) (by omega) ?_
    refine go_aloadn dX10_shameOf_81 rfl ?_
    refine sg_getR dX10_shameOf_82 fX10_72 rfl (mo_L rfl) hS (mo_r45 hS rfl) ?_
    refine go_iconst (v := 1) dX10_shameOf_85 rfl ?_
    refine go_aloadn dX10_shameOf_86 rfl ?_
    refine sg_getR dX10_shameOf_87 fX10_26 rfl (mo_L rfl) hS (mo_r8 hS rfl) ?_
    refine go_iloadn dX10_shameOf_90 rfl ?_
    refine sg_ialdN (i := t) (x := cWt C t) dX10_shameOf_91 (mo_8 rfl) hS (by simp only [lit_nI, nI_add, pk_mul, Nat.add_assoc, Nat.zero_add, Nat.add_zero]) (by omega) ((by rw [e79]; exact H.2.2.2.2.1 t ht)) ?_
    refine sg_iastN (i := 1) dX10_shameOf_92 (mo_45 rfl) hS (by simp only [lit_nI, nI_add, pk_mul, Nat.add_assoc, Nat.zero_add, Nat.add_zero]) (by omega) ?_
    refine go_aloadn dX10_shameOf_93 rfl ?_
    refine sg_getR dX10_shameOf_94 fX10_72 rfl (mo_L rfl) hS (mo_r45 hS rfl) ?_
    refine go_iconst (v := 2) dX10_shameOf_97 rfl ?_
    refine go_aloadn dX10_shameOf_98 rfl ?_
    refine sg_getR dX10_shameOf_99 fX10_66 rfl (mo_L rfl) hS (mo_r42 hS rfl) ?_
    refine go_iloadn dX10_shameOf_102 rfl ?_
    refine go_bipush (v := 21) dX10_shameOf_103 rfl ?_
    refine go_iadd dX10_shameOf_105 ?_
    refine go_iloadn dX10_shameOf_106 rfl ?_
    refine go_iadd dX10_shameOf_107 ?_
    refine sg_ialdN (i := b + (21 + t)) (x := tS T t) dX10_shameOf_108 (mo_42 rfl) hS (by simp only [lit_nI, nI_add, pk_mul, Nat.add_assoc, Nat.zero_add, Nat.add_zero]) (by omega) ((by rw [e91, e91]; exact a3)) ?_
    refine sg_iastN (i := 2) dX10_shameOf_109 (mo_45 rfl) hS (by simp only [lit_nI, nI_add, pk_mul, Nat.add_assoc, Nat.zero_add, Nat.add_zero]) (by omega) ?_
    refine go_aloadn dX10_shameOf_110 rfl ?_
    refine sg_getR dX10_shameOf_111 fX10_72 rfl (mo_L rfl) hS (mo_r45 hS rfl) ?_
    refine go_iconst (v := 3) dX10_shameOf_114 rfl ?_
    refine go_iload dX10_shameOf_115 rfl ?_
    refine sg_cSi (M' := mX10_bits) ([.int lk]) dX10_shameOf_117 lX10_312 sX10_bits hS (q_bits) rfl (Nat.le_of_ble_eq_true rfl) (Nat.zero_le _) (Nat.zero_le _) ?_
    rw [hbits]
    refine sg_iastN (i := 3) dX10_shameOf_120 (mo_45 rfl) hS (by simp only [lit_nI, nI_add, pk_mul, Nat.add_assoc, Nat.zero_add, Nat.add_zero]) (by omega) ?_
    refine go_aloadn dX10_shameOf_121 rfl ?_
    refine sg_getR dX10_shameOf_122 fX10_72 rfl (mo_L rfl) hS (mo_r45 hS rfl) ?_
    refine go_iconst (v := 4) dX10_shameOf_125 rfl ?_
    refine go_iload dX10_shameOf_126 rfl ?_
    refine go_aloadn dX10_shameOf_128 rfl ?_
    refine sg_getR dX10_shameOf_129 fX10_66 rfl (mo_L rfl) hS (mo_r42 hS rfl) ?_
    refine go_iloadn dX10_shameOf_132 rfl ?_
    refine go_iconst (v := 1) dX10_shameOf_133 rfl ?_
    refine go_iadd dX10_shameOf_134 ?_
    refine go_iloadn dX10_shameOf_135 rfl ?_
    refine go_iadd dX10_shameOf_136 ?_
    refine sg_ialdN (i := b + (1 + t)) (x := tO T t) dX10_shameOf_137 (mo_42 rfl) hS (by simp only [lit_nI, nI_add, pk_mul, Nat.add_assoc, Nat.zero_add, Nat.add_zero]) (by omega) ((by rw [e91, e91, e91, e91]; exact a1)) ?_
    refine go_ishr dX10_shameOf_138 ?_
    refine go_iconst (v := 1) dX10_shameOf_139 rfl ?_
    refine go_iand dX10_shameOf_140 ?_
    refine sg_iastN (i := 4) dX10_shameOf_141 (mo_45 rfl) hS (by simp only [lit_nI, nI_add, pk_mul, Nat.add_assoc, Nat.zero_add, Nat.add_zero]) (by omega) ?_
    refine go_aloadn dX10_shameOf_142 rfl ?_
    refine sg_getR dX10_shameOf_143 fX10_72 rfl (mo_L rfl) hS (mo_r45 hS rfl) ?_
    refine go_iconst (v := 5) dX10_shameOf_146 rfl ?_
    refine go_aloadn dX10_shameOf_147 rfl ?_
    refine sg_getR dX10_shameOf_148 fX10_66 rfl (mo_L rfl) hS (mo_r42 hS rfl) ?_
    refine go_iloadn dX10_shameOf_151 rfl ?_
    refine go_bipush (v := 49) dX10_shameOf_152 rfl ?_
    refine go_iadd dX10_shameOf_154 ?_
    refine go_iloadn dX10_shameOf_155 rfl ?_
    refine go_iadd dX10_shameOf_156 ?_
    refine sg_ialdN (i := b + (49 + w)) (x := tV T w) dX10_shameOf_157 (mo_42 rfl) hS (by simp only [lit_nI, nI_add, pk_mul, Nat.add_assoc, Nat.zero_add, Nat.add_zero]) (by omega) ((by rw [e91, e91, e91, e91, e91]; exact b2)) ?_
    refine sg_iastN (i := 5) dX10_shameOf_158 (mo_45 rfl) hS (by simp only [lit_nI, nI_add, pk_mul, Nat.add_assoc, Nat.zero_add, Nat.add_zero]) (by omega) ?_
    refine go_aloadn dX10_shameOf_159 rfl ?_
    refine sg_getR dX10_shameOf_160 fX10_72 rfl (mo_L rfl) hS (mo_r45 hS rfl) ?_
    refine go_bipush (v := 6) dX10_shameOf_163 rfl ?_
    refine go_aloadn dX10_shameOf_165 rfl ?_
    refine sg_getR dX10_shameOf_166 fX10_66 rfl (mo_L rfl) hS (mo_r42 hS rfl) ?_
    refine go_iloadn dX10_shameOf_169 rfl ?_
    refine go_iconst (v := 0) dX10_shameOf_170 rfl ?_
    refine go_iadd dX10_shameOf_171 ?_
    refine sg_ialdN (i := b) (x := nI (tD T)) dX10_shameOf_172 (mo_42 rfl) hS (by simp only [lit_nI, nI_add, pk_mul, Nat.add_assoc, Nat.zero_add, Nat.add_zero]) (by omega) ((by rw [e91, e91, e91, e91, e91, e91]; exact hT.1)) ?_
    refine sg_iastN (i := 6) dX10_shameOf_173 (mo_45 rfl) hS (by simp only [lit_nI, nI_add, pk_mul, Nat.add_assoc, Nat.zero_add, Nat.add_zero]) (by omega) ?_
    refine go_aloadn dX10_shameOf_174 rfl ?_
    refine go_aloadn dX10_shameOf_175 rfl ?_
    refine sg_getI dX10_shameOf_176 fX10_16 rfl (mo_L rfl) hS ?_
    rw [e77, e77, e77, e77, e77, e77, e77, hsa]
    refine sg_rVi (M' := mX10_reckons) ([.int (nI as)]) dX10_shameOf_179 lX10_318 vX10_reckons (mo_L rfl) (by decide) rfl hS (hrec) rfl (Nat.le_of_ble_eq_true rfl) (Nat.zero_le _) (Nat.zero_le _) (fun g F => ?_)
    have hS := F.St hS
    refine go_iconst (v := 0) dX10_shameOf_182 rfl ?_
    refine go_bipush (v := 20) dX10_shameOf_183 rfl ?_
    refine sg_cSi (M' := mX10_bounded) ([.int _, .int 0, .int 20]) dX10_shameOf_185 lX10_315 sX10_bounded hS (q_bounded) rfl (Nat.le_of_ble_eq_true rfl) (Nat.zero_le _) (Nat.zero_le _) ?_
    refine go_ireturn dX10_shameOf_188 rfl rfl (Nat.zero_le _) (Nat.zero_le _) ?_
    exact ⟨by rw [bd_kept, shT, if_neg z], ((((((((Fz.rf.uI (Or.inl rfl)).uI (Or.inl rfl)).uI (Or.inl rfl)).uI (Or.inl rfl)).uI (Or.inl rfl)).uI (Or.inl rfl)).uI (Or.inl rfl)).tr (F.sub (fun a k q => Or.inr q)))⟩
theorem q_isOff {l : Launch} {d b t : Nat} {h : Hp} (hS : St h) (hb : b ≤ 105) (ht : t < 10) : Ex l (d + 1) mX10_isOff [.ref 77, .int (nI b), .int (nI t)] h none (uI (uI h 91 (b + (11 + t)) (-1)) 91 (b + (21 + t)) 0) := by
  refine run_lv [some (.ref 77), some (.int (nI b)), some (.int (nI t))] (go := ?_)
  refine go_aloadn dX10_isOff_0 rfl ?_
  refine sg_getR dX10_isOff_1 fX10_66 rfl (mo_L rfl) hS (mo_r42 hS rfl) ?_
  refine go_iloadn dX10_isOff_4 rfl ?_
  refine go_bipush (v := 11) dX10_isOff_5 rfl ?_
  refine go_iadd dX10_isOff_7 ?_
  refine go_iloadn dX10_isOff_8 rfl ?_
  refine go_iadd dX10_isOff_9 ?_
  refine go_iconst (v := -1) dX10_isOff_10 rfl ?_
  refine sg_iastN (i := b + (11 + t)) dX10_isOff_11 (mo_42 rfl) hS (by simp only [lit_nI, nI_add, pk_mul, Nat.add_assoc, Nat.zero_add, Nat.add_zero]) (by omega) ?_
  refine go_aloadn dX10_isOff_12 rfl ?_
  refine sg_getR dX10_isOff_13 fX10_66 rfl (mo_L rfl) hS (mo_r42 hS rfl) ?_
  refine go_iloadn dX10_isOff_16 rfl ?_
  refine go_bipush (v := 21) dX10_isOff_17 rfl ?_
  refine go_iadd dX10_isOff_19 ?_
  refine go_iloadn dX10_isOff_20 rfl ?_
  refine go_iadd dX10_isOff_21 ?_
  refine go_iconst (v := 0) dX10_isOff_22 rfl ?_
  refine sg_iastN (i := b + (21 + t)) dX10_isOff_23 (mo_42 rfl) hS (by simp only [lit_nI, nI_add, pk_mul, Nat.add_assoc, Nat.zero_add, Nat.add_zero]) (by omega) ?_
  refine go_return dX10_isOff_24 rfl (Nat.zero_le _) (Nat.zero_le _) ?_
  exact ⟨rfl, rfl⟩
