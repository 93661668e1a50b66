/-! rules of the model: what waits, the code -/
def maN (o : Nat) : Int32 := ([14, 5, 4, 3, 6, 7, 8, 9, 10, 11] : List Int32).getD o 0
theorem ma_n : ∀ o : Fin 10, (maN o.val < 14 ↔ ¬ o.val = 0) ∧ (0 < o.val → srF (maN o.val) = nI (bdN o.val)) ∧ (0 < o.val → mcA (opO o.val) = maN o.val ∧ mlN (opO o.val) = 1 ∧ 2 ≤ (opO o.val).1) := by decide +kernel
def SKm (g : Hp) (tp : Nat) (W : List Nat) (p : Pr) : Prop := hI g 77 33 = nI W.length ∧ (∀ i, i < W.length → hI g 88 i = maN (W.getD (W.length - 1 - i) 0)) ∧ hI g 77 30 = nI (tp + mpF p p.1) ∧ ∀ j, j < p.1 → hI g 87 (tp + mpF p j) = mcA (p.2 j) ∧ ((p.2 j).1 ≤ 1 → hI g 87 (tp + mpF p j + 1) = mcB (p.2 j))
def Sdm (tp a k : Nat) : Prop := (a = 77 ∧ (k = 30 ∨ k = 33)) ∨ (a = 87 ∧ tp ≤ k)
theorem SKm.top {g : Hp} {tp o : Nat} {W : List Nat} {p : Pr} (H : SKm g tp (o :: W) p) : hI g 88 W.length = maN o := by
  have := H.2.1 W.length (by simp)
  rw [this, List.length_cons, show W.length + 1 - 1 - W.length = 0 by omega]; rfl
theorem mp_psh {p : Pr} {o : Op} : ∀ j, j ≤ p.1 → mpF (psh p o) j = mpF p j
  | 0, _ => rfl
  | j + 1, h => by
    show mpF (psh p o) j + mlN (if j = p.1 then o else p.2 j) = mpF p j + mlN (p.2 j)
    rw [if_neg (by omega), mp_psh j (by omega)]
theorem mp_new {p : Pr} {o : Op} : mpF (psh p o) (psh p o).1 = mpF p p.1 + mlN o := by
  show mpF (psh p o) p.1 + mlN (if p.1 = p.1 then o else p.2 p.1) = _
  rw [if_pos rfl, mp_psh _ (Nat.le_refl _)]
theorem mp_lt {p : Pr} : ∀ k j, j < k → mpF p j + mlN (p.2 j) ≤ mpF p k
  | 0, j, h => absurd h (Nat.not_lt_zero _)
  | k + 1, j, h => by
    have e : mpF p (k + 1) = mpF p k + mlN (p.2 k) := rfl
    by_cases q : j = k
    · rw [q, e]; exact Nat.le_refl _
    · have := mp_lt (p := p) k j (by omega)
      omega
theorem ml_1 {o : Op} : 1 ≤ mlN o ∧ mlN o ≤ 2 := by unfold mlN; split <;> decide
/-- a word behind the code -/
theorem SKm.psh {h g : Hp} {tp : Nat} {W W' : List Nat} {p : Pr} {o : Op} (H : SKm h tp W p) (F : ∀ k, ¬ (k = tp + mpF p p.1 ∨ (o.1 ≤ 1 ∧ k = tp + mpF p p.1 + 1)) → hI g 87 k = hI h 87 k) (h1 : hI g 77 33 = nI W'.length) (h2 : ∀ i, i < W'.length → hI g 88 i = maN (W'.getD (W'.length - 1 - i) 0)) (h3 : hI g 77 30 = nI (tp + mpF p p.1 + mlN o)) (v1 : hI g 87 (tp + mpF p p.1) = mcA o) (v2 : o.1 ≤ 1 → hI g 87 (tp + mpF p p.1 + 1) = mcB o) : SKm g tp W' (psh p o) := by
  refine ⟨h1, h2, by rw [h3, mp_new, Nat.add_assoc], fun j hj => ?_⟩
  have hj : j < p.1 + 1 := hj
  rw [mp_psh j (by omega)]
  show hI g 87 (tp + mpF p j) = mcA (if j = p.1 then o else p.2 j) ∧ ((if j = p.1 then o else p.2 j).1 ≤ 1 → hI g 87 (tp + mpF p j + 1) = mcB (if j = p.1 then o else p.2 j))
  by_cases q : j = p.1
  · rw [if_pos q, q]; exact ⟨v1, v2⟩
  · rw [if_neg q]
    have lt := mp_lt (p := p) p.1 j (by omega)
    have ml := ml_1 (o := p.2 j)
    obtain ⟨a1, a2⟩ := H.2.2.2 j (by omega)
    refine ⟨by rw [F _ (by omega)]; exact a1, fun z => ?_⟩
    have m2 : mlN (p.2 j) = 2 := by unfold mlN; rw [if_pos z]
    rw [F _ (by omega)]; exact a2 z
theorem q_dr0 {l : Launch} {d tp m : Nat} {n0 : Nat} {y : Int32} (hm7 : m ≤ 6) (hy : y = nI m) : ∀ (W : List Nat) (p : Pr) (h h0 : Hp), St h → Fz (Sdm tp) h0 h → SKm h tp W p → (∀ o, o ∈ W → o ≤ 9) → W.length ≤ 900 → tp + mpF p p.1 + W.length ≤ 1400 → Go l (rmOf (d + 2) (0, 0)) mX10_drops n0 (Zm (0, 0) (fun v h1 => v = none ∧ Fz (Sdm tp) h0 h1 ∧ SKm h1 tp (popW (max m 1) W p).1 (popW (max m 1) W p).2) noX) 0 [some (.ref 77), some (.int y)] [] h 0 0 := by
  intro W
  induction W with
  | nil =>
    intro p h h0 hS F H hW hl hb
    have h33 : hI h 77 33 = 0 := H.1
    refine go_aloadn dX10_drops_0 rfl ?_
    refine sg_getI dX10_drops_1 fX10_174 rfl (mo_L rfl) hS ?_
    rw [h33]
    refine go_if_le (tgt := 68) dX10_drops_4 (by decide) (fun c4 => ?_) (fun c4 => absurd (Int32.le_refl _) c4)
    refine go_return dX10_drops_68 rfl (Nat.zero_le _) (Nat.zero_le _) ?_
    exact ⟨rfl, F, H⟩
  | cons o W ih =>
    intro p h h0 hS F H hW hl hb
    have ho := hW o (by simp)
    have ht := H.top
    have h33 := H.1
    have hl' := hl
    rw [List.length_cons] at h33 hl' hb
    obtain ⟨b1, b2, b3⟩ := ma_n ⟨o, by omega⟩
    obtain ⟨-, b4, b5⟩ := bnd_n ⟨o, by omega⟩
    dsimp only at b1 b2 b3 b4 b5
    rw [popW_c]
    have es : nI (W.length + 1) - 1 = nI W.length := nI_sb (s := 1) (by omega)
    by_cases o0 : o = 0
    · have io := fun d => q_isOpen (l := l) (d := d) (y := maN o) (h := h)
      rw [if_neg (fun q => b1.mp q o0)] at io
      rw [if_neg (by have := b5.mpr o0; omega)]
      refine go_aloadn dX10_drops_0 rfl ?_
      refine sg_getI dX10_drops_1 fX10_174 rfl (mo_L rfl) hS ?_
      rw [h33]
      refine go_if_le (tgt := 68) dX10_drops_4 (by decide) (fun c4 => absurd c4 (Int32.not_le.mpr (nI_lt (a := 0) (by omega) (by omega)))) (fun c4 => ?_)
      refine go_aloadn dX10_drops_7 rfl ?_
      refine sg_getR dX10_drops_8 fX10_57 rfl (mo_L rfl) hS (mo_r39 hS rfl) ?_
      refine go_aloadn dX10_drops_11 rfl ?_
      refine sg_getI dX10_drops_12 fX10_174 rfl (mo_L rfl) hS ?_
      rw [h33]
      refine go_iconst (v := 1) dX10_drops_15 rfl ?_
      refine go_isub dX10_drops_16 ?_
      rw [es]
      refine sg_ialdN (i := W.length) (x := maN o) dX10_drops_17 (mo_39 rfl) hS (by simp only [lit_nI, nI_add, pk_mul, Nat.add_assoc, Nat.zero_add, Nat.add_zero]) (by omega) (ht) ?_
      refine sg_cSi (M' := mX10_isOpen) ([.int (maN o)]) dX10_drops_18 lX10_177 sX10_isOpen hS (io _) rfl (Nat.le_of_ble_eq_true rfl) (Nat.zero_le _) (Nat.zero_le _) ?_
      refine go_if_ne (tgt := 68) dX10_drops_21 (by decide) (fun c21 => ?_) (fun c21 => absurd c21 (by decide))
      refine go_return dX10_drops_68 rfl (Nat.zero_le _) (Nat.zero_le _) ?_
      exact ⟨rfl, F, H⟩
    · have io := fun d => q_isOpen (l := l) (d := d) (y := maN o) (h := h)
      rw [if_pos (b1.mpr o0)] at io
      have stg := fun d => q_strength (l := l) (d := d) (y := maN o) (h := h)
      rw [b2 (by omega)] at stg
      have bp : 0 < bdN o := by have := b5.mp; omega
      by_cases z : max m 1 ≤ bdN o
      · rw [if_pos z]
        obtain ⟨c1, c2, c3⟩ := b3 (by omega)
        have t0 : hI (uI h 77 33 (nI W.length)) 77 30 = nI (tp + mpF p p.1) := by rw [hI_uI_ne (by omega)]; exact H.2.2.1
        have S1 : St (uI h 77 33 (nI W.length)) := (Fz.rf.uI (S := fun _ _ => True) True.intro).St hS
        have pu := fun d => q_puts (l := l) (d := d) (t := tp + mpF p p.1) (y := maN o) (h := uI h 77 33 (nI W.length)) S1 t0 (by omega)
        have F1 : Fz (fun a k => (a = 77 ∧ (k = 33 ∨ k = 30)) ∨ (a = 87 ∧ k = tp + mpF p p.1)) h (uI (uI (uI h 77 33 (nI W.length)) 87 (tp + mpF p p.1) (maN o)) 77 30 (nI (tp + mpF p p.1 + 1))) := ((Fz.rf.uI (by omega)).uI (by omega)).uI (by omega)
        have w1 : hI (uI (uI (uI h 77 33 (nI W.length)) 87 (tp + mpF p p.1) (maN o)) 77 30 (nI (tp + mpF p p.1 + 1))) 77 33 = nI W.length := by rw [hI_uI_ne (by omega), hI_uI_ne (by omega), hI_uI_eq]
        have w2 : hI (uI (uI (uI h 77 33 (nI W.length)) 87 (tp + mpF p p.1) (maN o)) 77 30 (nI (tp + mpF p p.1 + 1))) 87 (tp + mpF p p.1) = maN o := by rw [hI_uI_ne (by omega), hI_uI_eq]
        have w3 : hI (uI (uI (uI h 77 33 (nI W.length)) 87 (tp + mpF p p.1) (maN o)) 77 30 (nI (tp + mpF p p.1 + 1))) 77 30 = nI (tp + mpF p p.1 + 1) := hI_uI_eq
        generalize uI (uI (uI h 77 33 (nI W.length)) 87 (tp + mpF p p.1) (maN o)) 77 30 (nI (tp + mpF p p.1 + 1)) = g at *
        have G : SKm g tp W (psh p (opO o)) := H.psh (fun k q => F1.I (by omega)) w1 (fun i hi => by rw [F1.I (by omega), H.2.1 i (by rw [List.length_cons]; omega), List.length_cons, show W.length + 1 - 1 - i = (W.length - 1 - i) + 1 by omega]; rfl) (by rw [w3, c2]) (by rw [w2, c1]) (fun q => absurd q (by omega))
        have go := ih (psh p (opO o)) g h0 (F1.St hS) (F.tr (F1.sub (fun a k q => by unfold Sdm; omega))) G (fun x hx => hW x (by simp [hx])) (by omega) (by rw [mp_new, c2]; omega)
        refine go_aloadn dX10_drops_0 rfl ?_
        refine sg_getI dX10_drops_1 fX10_174 rfl (mo_L rfl) hS ?_
        rw [h33]
        refine go_if_le (tgt := 68) dX10_drops_4 (by decide) (fun c4 => absurd c4 (Int32.not_le.mpr (nI_lt (a := 0) (by omega) (by omega)))) (fun c4 => ?_)
        refine go_aloadn dX10_drops_7 rfl ?_
        refine sg_getR dX10_drops_8 fX10_57 rfl (mo_L rfl) hS (mo_r39 hS rfl) ?_
        refine go_aloadn dX10_drops_11 rfl ?_
        refine sg_getI dX10_drops_12 fX10_174 rfl (mo_L rfl) hS ?_
        rw [h33]
        refine go_iconst (v := 1) dX10_drops_15 rfl ?_
        refine go_isub dX10_drops_16 ?_
        rw [es]
        refine sg_ialdN (i := W.length) (x := maN o) dX10_drops_17 (mo_39 rfl) hS (by simp only [lit_nI, nI_add, pk_mul, Nat.add_assoc, Nat.zero_add, Nat.add_zero]) (by omega) (ht) ?_
        refine sg_cSi (M' := mX10_isOpen) ([.int (maN o)]) dX10_drops_18 lX10_177 sX10_isOpen hS (io _) rfl (Nat.le_of_ble_eq_true rfl) (Nat.zero_le _) (Nat.zero_le _) ?_
        refine go_if_ne (tgt := 68) dX10_drops_21 (by decide) (fun c21 => absurd rfl c21) (fun c21 => ?_)
        refine go_aloadn dX10_drops_24 rfl ?_
        refine sg_getR dX10_drops_25 fX10_57 rfl (mo_L rfl) hS (mo_r39 hS rfl) ?_
        refine go_aloadn dX10_drops_28 rfl ?_
        refine sg_getI dX10_drops_29 fX10_174 rfl (mo_L rfl) hS ?_
        rw [h33]
        refine go_iconst (v := 1) dX10_drops_32 rfl ?_
        refine go_isub dX10_drops_33 ?_
        rw [es]
        refine sg_ialdN (i := W.length) (x := maN o) dX10_drops_34 (mo_39 rfl) hS (by simp only [lit_nI, nI_add, pk_mul, Nat.add_assoc, Nat.zero_add, Nat.add_zero]) (by omega) (ht) ?_
        refine sg_cSi (M' := mX10_strength) ([.int (maN o)]) dX10_drops_35 lX10_180 sX10_strength hS (stg _) rfl (Nat.le_of_ble_eq_true rfl) (Nat.zero_le _) (Nat.zero_le _) ?_
        refine go_iloadn dX10_drops_38 rfl ?_
        refine go_icmp_lt (tgt := 68) dX10_drops_39 (by decide) (fun c39 => absurd c39 (by rw [hy]; exact nI_nlt (by omega) (by omega))) (fun c39 => ?_)
        refine go_aloadn dX10_drops_42 rfl ?_
        refine go_dup dX10_drops_43 rfl ?_
        refine sg_getI dX10_drops_44 fX10_174 rfl (mo_L rfl) hS ?_
        rw [h33]
        refine go_iconst (v := 1) dX10_drops_47 rfl ?_
        refine go_isub dX10_drops_48 ?_
        rw [es]
        refine sg_putI dX10_drops_49 fX10_174 rfl rfl (mo_L rfl) hS ?_
        refine go_aloadn dX10_drops_52 rfl ?_
        refine go_aloadn dX10_drops_53 rfl ?_
        refine sg_getR dX10_drops_54 fX10_57 rfl (mo_L rfl) hS (mo_r39 hS rfl) ?_
        refine go_aloadn dX10_drops_57 rfl ?_
        refine sg_getI dX10_drops_58 fX10_174 rfl (mo_L rfl) hS ?_
        rw [hI_uI_eq]
        refine sg_ialdN (i := W.length) (x := maN o) dX10_drops_61 (mo_39 rfl) hS (by simp only [lit_nI, nI_add, pk_mul, Nat.add_assoc, Nat.zero_add, Nat.add_zero]) (by omega) ((by rw [hI_uI_ne (by omega)]; exact ht)) ?_
        have hS := S1
        refine sg_cV0 (M' := mX10_puts) ([.int (maN o)]) dX10_drops_62 lX10_183 vX10_puts (mo_L rfl) (by decide) rfl hS (pu _) rfl (Nat.le_of_ble_eq_true rfl) (Nat.zero_le _) (Nat.zero_le _) ?_
        refine go_goto (tgt := 0) dX10_drops_65 (by decide) ?_
        exact go
      · rw [if_neg z]
        refine go_aloadn dX10_drops_0 rfl ?_
        refine sg_getI dX10_drops_1 fX10_174 rfl (mo_L rfl) hS ?_
        rw [h33]
        refine go_if_le (tgt := 68) dX10_drops_4 (by decide) (fun c4 => absurd c4 (Int32.not_le.mpr (nI_lt (a := 0) (by omega) (by omega)))) (fun c4 => ?_)
        refine go_aloadn dX10_drops_7 rfl ?_
        refine sg_getR dX10_drops_8 fX10_57 rfl (mo_L rfl) hS (mo_r39 hS rfl) ?_
        refine go_aloadn dX10_drops_11 rfl ?_
        refine sg_getI dX10_drops_12 fX10_174 rfl (mo_L rfl) hS ?_
        rw [h33]
        refine go_iconst (v := 1) dX10_drops_15 rfl ?_
        refine go_isub dX10_drops_16 ?_
        rw [es]
        refine sg_ialdN (i := W.length) (x := maN o) dX10_drops_17 (mo_39 rfl) hS (by simp only [lit_nI, nI_add, pk_mul, Nat.add_assoc, Nat.zero_add, Nat.add_zero]) (by omega) (ht) ?_
        refine sg_cSi (M' := mX10_isOpen) ([.int (maN o)]) dX10_drops_18 lX10_177 sX10_isOpen hS (io _) rfl (Nat.le_of_ble_eq_true rfl) (Nat.zero_le _) (Nat.zero_le _) ?_
        refine go_if_ne (tgt := 68) dX10_drops_21 (by decide) (fun c21 => absurd rfl c21) (fun c21 => ?_)
        refine go_aloadn dX10_drops_24 rfl ?_
        refine sg_getR dX10_drops_25 fX10_57 rfl (mo_L rfl) hS (mo_r39 hS rfl) ?_
        refine go_aloadn dX10_drops_28 rfl ?_
        refine sg_getI dX10_drops_29 fX10_174 rfl (mo_L rfl) hS ?_
        rw [h33]
        refine go_iconst (v := 1) dX10_drops_32 rfl ?_
        refine go_isub dX10_drops_33 ?_
        rw [es]
        refine sg_ialdN (i := W.length) (x := maN o) dX10_drops_34 (mo_39 rfl) hS (by simp only [lit_nI, nI_add, pk_mul, Nat.add_assoc, Nat.zero_add, Nat.add_zero]) (by omega) (ht) ?_
        refine sg_cSi (M' := mX10_strength) ([.int (maN o)]) dX10_drops_35 lX10_180 sX10_strength hS (stg _) rfl (Nat.le_of_ble_eq_true rfl) (Nat.zero_le _) (Nat.zero_le _) ?_
        refine go_iloadn dX10_drops_38 rfl ?_
        refine go_icmp_lt (tgt := 68) dX10_drops_39 (by decide) (fun c39 => ?_) (fun c39 => absurd (by rw [hy]; exact nI_lt (by omega) (by omega)) c39)
        refine go_return dX10_drops_68 rfl (Nat.zero_le _) (Nat.zero_le _) ?_
        exact ⟨rfl, F, H⟩
theorem q_drops {l : Launch} {d tp m : Nat} {W : List Nat} {p : Pr} {h : Hp} (hS : St h) (H : SKm h tp W p) (hW : ∀ o, o ∈ W → o ≤ 9) (hl : W.length ≤ 900) (hb : tp + mpF p p.1 + W.length ≤ 1400) (hm : m ≤ 6) : Ey l (d + 2) mX10_drops [.ref 77, .int (nI m)] h none (fun g => Fz (Sdm tp) h g ∧ SKm g tp (popW (max m 1) W p).1 (popW (max m 1) W p).2) := by
  refine run_lv [some (.ref 77), some (.int (nI m))] (go := ?_)
  exact q_dr0 hm rfl W p h h hS Fz.rf H hW hl hb
