/-! the model: a day goes by -/
/-- those below k have given back -/
def rvK (C : Cy) (k : Nat) (T : Tn) : Tn := (tD T, tC T, tO T, fun t => if gvW C T k (tB T t) then -1 else tB T t, fun t => if gvW C T k (tB T t) then 0 else tS T t, tX T, fun p => if p < k ∧ gvT C T p = true then 0 else tH T p, tV T, tW T)
/-- .. and those below k have less shame -/
def eeK (C : Cy) (k : Nat) (T : Tn) : Tn := (tD T, tC T, tO T, fun t => if gvW C T (cP C) (tB T t) then -1 else tB T t, fun t => if gvW C T (cP C) (tB T t) then 0 else tS T t, tX T, fun p => if p < k then (if gvT C T p then 0 else if mnT C T p = 0 then mx0 (tH T p - 2) else tH T p) else if p < cP C ∧ gvT C T p = true then 0 else tH T p, tV T, tW T)
theorem rvK_0 {C : Cy} {T : Tn} : rvK C 0 T = T := by
  have : ∀ x, gvW C T 0 x = false := fun x => by simp [gvW]
  simp [rvK, this]
theorem eeK_0 {C : Cy} {T : Tn} : eeK C 0 T = rvK C (cP C) T := by simp [rvK, eeK]
theorem rvK_B {C : Cy} {T : Tn} {k t : Nat} : tB (rvK C k T) t = if gvW C T k (tB T t) then -1 else tB T t := rfl
theorem rvK_S {C : Cy} {T : Tn} {k t : Nat} : tS (rvK C k T) t = if gvW C T k (tB T t) then 0 else tS T t := rfl
theorem rvK_by {C : Cy} {T : Tn} {k p t : Nat} (hP : cP C ≤ 8) (hv : tB T t = -1 ∨ ∃ w, w < cP C ∧ tB T t = nI w) (hk : k ≤ p) (hp : p < cP C) : (tB (rvK C k T) t = nI p) ↔ tB T t = nI p := by
  rw [rvK_B]
  rcases hv with q | ⟨w, hw, q⟩
  · rw [q]; rfl
  · rw [q, gvW_nI (by omega)]
    by_cases e : w < k
    · cases hg : gvT C T w
      · simp [e]
      · have n1 : ¬ (-1 : Int32) = nI p := fun z => nI_m1 (by omega) z.symm
        have n2 : ¬ nI w = nI p := fun z => by have := (nI_eq (by omega) (by omega)).mp z; omega
        simp [e, n1, n2]
    · simp [e]
theorem mn_rv {C : Cy} {T : Tn} {k p : Nat} (hP : cP C ≤ 8) (hv : ∀ t, t < cN C → tB T t = -1 ∨ ∃ w, w < cP C ∧ tB T t = nI w) (hk : k ≤ p) (hp : p < cP C) : mnT C (rvK C k T) p = mnT C T p := ctN_cong (fun t ht => rvK_by hP (hv t ht) hk hp)
theorem gv2_rv {C : Cy} {T : Tn} {k p : Nat} (hP : cP C ≤ 8) (hv : ∀ t, t < cN C → tB T t = -1 ∨ ∃ w, w < cP C ∧ tB T t = nI w) (hk : k ≤ p) (hp : p < cP C) : gv2 C (rvK C k T) p = gv2 C T p := by
  have e : tH (rvK C k T) p = tH T p := if_neg (fun z => by omega)
  unfold gv2
  rw [mn_rv hP hv hk hp, e]
  have : rvT (rvK C k T) p (mnT C T p) = rvT T p (mnT C T p) := by funext j; unfold rvT; rw [e]; rfl
  rw [this]
theorem rvK_step {g : Hp} {b k : Nat} {C : Cy} {T : Tn} (W : WC C) (hv : ∀ t, t < cN C → tB T t = -1 ∨ ∃ w, w < cP C ∧ tB T t = nI w) (hk : k < cP C) : (gvT C T k = false → MT g b C (rvK C k T) → MT g b C (rvK C (k + 1) T)) ∧ (gvT C T k = true → MT g b C (ofK (rvK C k T) k (cN C)) → MT (uI g 91 (b + (41 + k)) 0) b C (rvK C (k + 1) T)) := by
  have hP := W.1.2.1
  refine ⟨fun q H => ?_, fun q H => ?_⟩
  · refine H.cong rfl (fun t ht => ⟨rfl, ?_, ?_, rfl⟩) (fun p hp => ⟨?_, rfl⟩) (fun _ _ => rfl)
    · rw [rvK_B, rvK_B]
      rcases hv t ht with z | ⟨w, hw, z⟩
      · rw [z]; rfl
      · rw [z, gvW_nI (by omega), gvW_nI (by omega)]
        by_cases e : w = k
        · subst e; simp [q]
        · have : (w < k + 1) ↔ w < k := by omega
          simp [this]
    · rw [rvK_S, rvK_S]
      rcases hv t ht with z | ⟨w, hw, z⟩
      · rw [z]; rfl
      · rw [z, gvW_nI (by omega), gvW_nI (by omega)]
        by_cases e : w = k
        · subst e; simp [q]
        · have : (w < k + 1) ↔ w < k := by omega
          simp [this]
    · show (if p < k ∧ gvT C T p = true then (0 : Int32) else tH T p) = if p < k + 1 ∧ gvT C T p = true then 0 else tH T p
      by_cases e : p = k
      · subst e; simp [q]
      · have : (p < k + 1) ↔ p < k := by omega
        simp [this]
  · refine (mt_H W hk H).cong rfl (fun t ht => ⟨rfl, ?_, ?_, rfl⟩) (fun p hp => ⟨?_, rfl⟩) (fun _ _ => rfl)
    · show (if t < cN C ∧ tB (rvK C k T) t = nI k then (-1 : Int32) else tB (rvK C k T) t) = tB (rvK C (k + 1) T) t
      simp only [ht, true_and, rvK_by hP (hv t ht) (Nat.le_refl k) hk]
      rw [rvK_B, rvK_B]
      rcases hv t ht with z | ⟨w, hw, z⟩
      · have n2 : ¬ (-1 : Int32) = nI k := fun z => nI_m1 (by omega) z.symm
        rw [z]; simp [gvW_m1, n2]
      · rw [z, gvW_nI (by omega), gvW_nI (by omega)]
        by_cases e : w = k
        · subst e; simp [q]
        · have : (w < k + 1) ↔ w < k := by omega
          have n1 : ¬ nI w = nI k := fun z => e ((nI_eq (by omega) (by omega)).mp z)
          simp [this, n1]
    · show (if t < cN C ∧ tB (rvK C k T) t = nI k then (0 : Int32) else tS (rvK C k T) t) = tS (rvK C (k + 1) T) t
      simp only [ht, true_and, rvK_by hP (hv t ht) (Nat.le_refl k) hk]
      rw [rvK_S, rvK_S]
      rcases hv t ht with z | ⟨w, hw, z⟩
      · have n2 : ¬ (-1 : Int32) = nI k := fun z => nI_m1 (by omega) z.symm
        rw [z]; simp [gvW_m1, n2]
      · rw [z, gvW_nI (by omega), gvW_nI (by omega)]
        by_cases e : w = k
        · subst e; simp [q]
        · have : (w < k + 1) ↔ w < k := by omega
          have n1 : ¬ nI w = nI k := fun z => e ((nI_eq (by omega) (by omega)).mp z)
          simp [this, n1]
    · show upd (fun p => if p < k ∧ gvT C T p = true then (0 : Int32) else tH T p) k 0 p = if p < k + 1 ∧ gvT C T p = true then 0 else tH T p
      by_cases e : p = k
      · subst e; rw [pk_us]; simp [q]
      · have : (p < k + 1) ↔ p < k := by omega
        rw [pk_un e]; simp [this]
theorem mn_ee {C : Cy} {T : Tn} {k p : Nat} (hP : cP C ≤ 8) (hv : ∀ t, t < cN C → tB T t = -1 ∨ ∃ w, w < cP C ∧ tB T t = nI w) (hp : p < cP C) : (mnT C (eeK C k T) p = 0) ↔ (gvT C T p = true ∨ mnT C T p = 0) := by
  have e : ∀ t, t < cN C → ((tB (eeK C k T) t = nI p) ↔ (tB T t = nI p ∧ gvT C T p = false)) := by
    intro t ht
    show ((if gvW C T (cP C) (tB T t) then (-1 : Int32) else tB T t) = nI p) ↔ _
    have n2 : ¬ (-1 : Int32) = nI p := fun z => nI_m1 (by omega) z.symm
    rcases hv t ht with z | ⟨w, hw, z⟩
    · rw [z]; simp [gvW_m1, n2]
    · rw [z, gvW_nI (by omega)]
      by_cases e : w = p
      · subst e
        cases hg : gvT C T w <;> simp [hw, n2]
      · have n1 : ¬ nI w = nI p := fun z => e ((nI_eq (by omega) (by omega)).mp z)
        cases hg : gvT C T w <;> simp [hw, n1, n2]
  rw [mn_ct, ctN_cong e, mn_ct, ctN_z, ctN_z]
  cases hg : gvT C T p
  · simp
  · simp
theorem eeK_step {g : Hp} {b k : Nat} {C : Cy} {T : Tn} (W : WC C) (hk : k < cP C) (hs : ∃ s, s ≤ 99 ∧ tH T k = nI s) (H : MT g b C (eeK C k T)) : (gvT C T k = true ∨ mnT C T k = 0 → MT (uI g 91 (b + (41 + k)) (bdF (tH (eeK C k T) k - 2) 0 99)) b C (eeK C (k + 1) T)) ∧ (¬ (gvT C T k = true ∨ mnT C T k = 0) → MT g b C (eeK C (k + 1) T)) := by
  have e0 : tH (eeK C k T) k = if gvT C T k = true then 0 else tH T k := by
    show (if k < k then _ else if k < cP C ∧ gvT C T k = true then (0 : Int32) else tH T k) = _
    rw [if_neg (Nat.lt_irrefl _)]
    by_cases q : gvT C T k = true
    · rw [if_pos ⟨hk, q⟩, if_pos q]
    · rw [if_neg (fun z => q z.2), if_neg q]
  have e1 : ∀ p, p ≠ k → tH (eeK C (k + 1) T) p = tH (eeK C k T) p := by
    intro p e
    show (if p < k + 1 then _ else _) = if p < k then _ else _
    have : (p < k + 1) ↔ p < k := by omega
    simp only [this]
  have e2 : tH (eeK C (k + 1) T) k = if gvT C T k then 0 else if mnT C T k = 0 then mx0 (tH T k - 2) else tH T k := by
    show (if k < k + 1 then _ else _) = _
    rw [if_pos (by omega)]
  refine ⟨fun q => ?_, fun q => ?_⟩
  · refine (mt_H W hk H).cong rfl (fun t ht => ⟨rfl, rfl, rfl, rfl⟩) (fun p hp => ⟨?_, rfl⟩) (fun _ _ => rfl)
    show upd (tH (eeK C k T)) k (bdF (tH (eeK C k T) k - 2) 0 99) p = tH (eeK C (k + 1) T) p
    by_cases e : p = k
    · subst e
      rw [pk_us, e2, e0]
      by_cases g1 : gvT C T p = true
      · rw [if_pos g1, if_pos g1]; decide
      · rw [if_neg g1, if_neg g1, if_pos (q.resolve_left g1)]
        obtain ⟨s, h9, es⟩ := hs
        rw [es]; exact bd_mx0 h9
    · rw [pk_un e, e1 p e]
  · refine H.cong rfl (fun t ht => ⟨rfl, rfl, rfl, rfl⟩) (fun p hp => ⟨?_, rfl⟩) (fun _ _ => rfl)
    by_cases e : p = k
    · subst e
      have g1 : ¬ gvT C T p = true := fun z => q (Or.inl z)
      rw [e2, e0, if_neg g1, if_neg g1, if_neg (fun z => q (Or.inr z))]
    · exact (e1 p e).symm
theorem eeK_P {C : Cy} {T : Tn} {p : Nat} (hp : p < cP C) : tH (eeK C (cP C) T) p = tH (evT C (cP C) T) p := by
  rw [evT_H]
  show (if p < cP C then _ else _) = _
  rw [if_pos hp, if_pos hp]
theorem q_dayGoes {l : Launch} {d as ar b : Nat} {C : Cy} {T : Tn} {h : Hp} (W : WC C) (H : MC h as ar C) (hT : MT h b C T) (V : WT C T) (hb : b ≤ 105) (hd : tD T + 1 < 2 ^ 30) :
    Ey l (d + 6) mX10_dayGoes [.ref 77, .int (nI b)] h none (fun g => Fz (SD b) h g ∧ MT g b C (dayT C (hI h 77 47) (t0 T)) ∧ hI g 77 48 = tC (dayT C (hI h 77 47) (t0 T))) := by
  have hN := W.1.1
  have hP := W.1.2.1
  have hS := H.1
  generalize hfog : hI h 77 47 = fog
  have hkd : ∀ k, tD (d1A C fog (t0 T) k) = tD T := fun k => (d1A_kept k).1
  have hvd : ∀ k, k ≤ cN C → WT C (d1A C fog (t0 T) k) := fun k hk => V.t0.dA W hk
  refine run_lv [some (.ref 77), some (.int (nI b)), none] (go := ?_)
  refine go_aloadn dX10_dayGoes_0 rfl ?_
  refine go_iconst (v := 0) dX10_dayGoes_1 rfl ?_
  refine sg_putI dX10_dayGoes_2 fX10_330 rfl rfl (mo_L rfl) hS ?_
  refine go_iconst (v := 0) dX10_dayGoes_5 rfl ?_
  refine go_ist2 dX10_dayGoes_6 rfl ?_
  refine go_loopR (lvf := fun k => [some (.ref 77), some (.int (nI b)), some (.int (nI k))]) (cN C) (fun k g => Fz (SD b) h g ∧ MT g b C (d1A C fog (t0 T) k) ∧ hI g 77 48 = tC (d1A C fog (t0 T) k)) (fun k g hk hh ih => ?_) (fun g hh => ?_) 0 _ (Nat.zero_le _) ⟨Fz.rf.uI (Or.inr (Or.inr (Or.inr ⟨rfl, rfl⟩))), (hT.fz (S := fun a k => a = 77) W (Fz.rf.uI rfl) (fun k _ _ => by omega)).cong rfl (fun _ _ => ⟨rfl, rfl, rfl, rfl⟩) (fun _ _ => ⟨rfl, rfl⟩) (fun _ _ => rfl), hI_uI_eq⟩
  · obtain ⟨F, T2, o2⟩ := hh
    have H2 := H.sd F
    have hS := H2.1
    have hth := H2.2.1.2.2.1
    have f2 : hI g 77 47 = fog := (F.I (by unfold SD; omega)).trans hfog
    have es : d1A C fog (t0 T) (k + 1) = d1T C fog k (d1A C fog (t0 T) k) := rfl
    rw [es] at ih
    have V2 := hvd k (Nat.le_of_lt hk)
    have hk1 := hkd k
    generalize d1A C fog (t0 T) k = T1 at *
    have eb := (T2.2.1 k hk).2.1
    by_cases z : tB T1 k = -1
    · refine go_iloadn dX10_dayGoes_7 rfl ?_
      refine go_aloadn dX10_dayGoes_8 rfl ?_
      refine sg_getI dX10_dayGoes_9 fX10_276 rfl (mo_L rfl) hS ?_
      rw [hth]
      refine go_icmp_ge (tgt := 42) dX10_dayGoes_12 (by decide) (fun c12 => absurd c12 (nI_ge hk (by omega))) (fun c12 => ?_)
      refine go_aloadn dX10_dayGoes_15 rfl ?_
      refine sg_getR dX10_dayGoes_16 fX10_66 rfl (mo_L rfl) hS (mo_r42 hS rfl) ?_
      refine go_iloadn dX10_dayGoes_19 rfl ?_
      refine go_bipush (v := 11) dX10_dayGoes_20 rfl ?_
      refine go_iadd dX10_dayGoes_22 ?_
      refine go_iloadn dX10_dayGoes_23 rfl ?_
      refine go_iadd dX10_dayGoes_24 ?_
      refine sg_ialdN (i := b + (11 + k)) dX10_dayGoes_25 (mo_42 rfl) hS (by simp only [lit_nI, nI_add, pk_mul, Nat.add_assoc, Nat.zero_add, Nat.add_zero]) (by omega) (eb) ?_
      refine go_iconst (v := -1) dX10_dayGoes_26 rfl ?_
      refine go_icmp_eq (tgt := 36) dX10_dayGoes_27 (by decide) (fun c27 => ?_) (fun c27 => absurd z c27)
      refine go_iinc2 (c1 := 1) dX10_dayGoes_36 rfl rfl ?_
      refine go_goto (tgt := 7) dX10_dayGoes_39 (by decide) ?_
      exact go_cong (ih g ⟨F, by rw [d1T, if_pos z]; exact T2, by rw [d1T, if_pos z]; exact o2⟩) (by simp [nI_1]) rfl
    · obtain ⟨w, hw, ew⟩ := (V2.1 k hk).2.1.resolve_left z
      have hq := q_thingGoes (l := l) (d := d) W H2 T2 o2 hb (by omega) hk hw ew
      rw [f2] at hq
      refine go_iloadn dX10_dayGoes_7 rfl ?_
      refine go_aloadn dX10_dayGoes_8 rfl ?_
      refine sg_getI dX10_dayGoes_9 fX10_276 rfl (mo_L rfl) hS ?_
      rw [hth]
      refine go_icmp_ge (tgt := 42) dX10_dayGoes_12 (by decide) (fun c12 => absurd c12 (nI_ge hk (by omega))) (fun c12 => ?_)
      refine go_aloadn dX10_dayGoes_15 rfl ?_
      refine sg_getR dX10_dayGoes_16 fX10_66 rfl (mo_L rfl) hS (mo_r42 hS rfl) ?_
      refine go_iloadn dX10_dayGoes_19 rfl ?_
      refine go_bipush (v := 11) dX10_dayGoes_20 rfl ?_
      refine go_iadd dX10_dayGoes_22 ?_
      refine go_iloadn dX10_dayGoes_23 rfl ?_
      refine go_iadd dX10_dayGoes_24 ?_
      refine sg_ialdN (i := b + (11 + k)) dX10_dayGoes_25 (mo_42 rfl) hS (by simp only [lit_nI, nI_add, pk_mul, Nat.add_assoc, Nat.zero_add, Nat.add_zero]) (by omega) (eb) ?_
      refine go_iconst (v := -1) dX10_dayGoes_26 rfl ?_
      refine go_icmp_eq (tgt := 36) dX10_dayGoes_27 (by decide) (fun c27 => absurd c27 z) (fun c27 => ?_)
      refine go_aloadn dX10_dayGoes_30 rfl ?_
      refine go_iloadn dX10_dayGoes_31 rfl ?_
      refine go_iloadn dX10_dayGoes_32 rfl ?_
      refine sg_rV0 (M' := mX10_thingGoes) ([.int (nI b), .int (nI k)]) dX10_dayGoes_33 lX10_333 vX10_thingGoes (mo_L rfl) (by decide) rfl hS (hq) rfl (Nat.le_of_ble_eq_true rfl) (Nat.zero_le _) (Nat.zero_le _) (fun g' F' => ?_)
      refine go_iinc2 (c1 := 1) dX10_dayGoes_36 rfl rfl ?_
      refine go_goto (tgt := 7) dX10_dayGoes_39 (by decide) ?_
      exact go_cong (ih g' ⟨F.tr F'.1, by rw [d1T, if_neg z, ew, cl_nI (by omega)]; exact F'.2.1, by rw [d1T, if_neg z, ew, cl_nI (by omega)]; exact F'.2.2⟩) (by simp [nI_1]) rfl
  · obtain ⟨F, T2, o2⟩ := hh
    have H2 := H.sd F
    have hS := H2.1
    have hth := H2.2.1.2.2.1
    have V2 := hvd (cN C) (Nat.le_refl _)
    have hk1 := hkd (cN C)
    have ed : dayT C fog (t0 T) = ndT (evT C (cP C) (d1A C fog (t0 T) (cN C))) := rfl
    rw [ed]
    generalize d1A C fog (t0 T) (cN C) = T1 at *
    have hv : ∀ t, t < cN C → tB T1 t = -1 ∨ ∃ w, w < cP C ∧ tB T1 t = nI w := fun t ht => (V2.1 t ht).2.1
    refine go_iloadn dX10_dayGoes_7 rfl ?_
    refine go_aloadn dX10_dayGoes_8 rfl ?_
    refine sg_getI dX10_dayGoes_9 fX10_276 rfl (mo_L rfl) hS ?_
    rw [hth]
    refine go_icmp_ge (tgt := 42) dX10_dayGoes_12 (by decide) (fun c12 => ?_) (fun c12 => absurd (nI_le (Nat.le_refl _) (by omega)) c12)
    refine go_iconst (v := 0) dX10_dayGoes_42 rfl ?_
    refine go_ist2 dX10_dayGoes_43 rfl ?_
    skip
    refine go_loopR (lvf := fun k => [some (.ref 77), some (.int (nI b)), some (.int (nI k))]) (cP C) (fun k g => Fz (SD b) h g ∧ MT g b C (rvK C k T1) ∧ hI g 77 48 = tC T1) (fun k g hk hh ih => ?_) (fun g hh => ?_) 0 _ (Nat.zero_le _) ⟨F, by rw [rvK_0]; exact T2, o2⟩
    · obtain ⟨F, T2, o2⟩ := hh
      have H2 := H.sd F
      have hS := H2.1
      have hpe := H2.2.1.2.1
      have s1 := fun g => (rvK_step (g := g) (b := b) W hv hk).1
      have s2 := fun g => (rvK_step (g := g) (b := b) W hv hk).2
      have emn := mn_rv hP hv (Nat.le_refl k) hk
      have hwb := q_wornBy (l := l) (d := d + 4) (x := nI k) W H2 T2 hb
      have hz := bt_mn (C := C) (T := rvK C k T1) (p := k) W
      rw [emn] at hz
      by_cases z : mnT C T1 k = 0
      · have gz : gvT C T1 k = false := by rw [gv_gv2, z]; rfl
        refine go_iloadn dX10_dayGoes_44 rfl ?_
        refine go_aloadn dX10_dayGoes_45 rfl ?_
        refine sg_getI dX10_dayGoes_46 fX10_273 rfl (mo_L rfl) hS ?_
        rw [hpe]
        refine go_icmp_ge (tgt := 97) dX10_dayGoes_49 (by decide) (fun c49 => absurd c49 (nI_ge hk (by omega))) (fun c49 => ?_)
        refine go_aloadn dX10_dayGoes_52 rfl ?_
        refine go_iloadn dX10_dayGoes_53 rfl ?_
        refine go_iloadn dX10_dayGoes_54 rfl ?_
        refine sg_cVi (M' := mX10_wornBy) ([.int (nI b), .int (nI k)]) dX10_dayGoes_55 lX10_300 vX10_wornBy (mo_L rfl) (by decide) rfl hS (hwb) rfl (Nat.le_of_ble_eq_true rfl) (Nat.zero_le _) (Nat.zero_le _) ?_
        refine go_if_eq (tgt := 91) dX10_dayGoes_58 (by decide) (fun c58 => ?_) (fun c58 => absurd (hz.mpr z) c58)
        refine go_iinc2 (c1 := 1) dX10_dayGoes_91 rfl rfl ?_
        refine go_goto (tgt := 44) dX10_dayGoes_94 (by decide) ?_
        exact go_cong (ih g ⟨F, s1 g gz T2, o2⟩) (by simp [nI_1]) rfl
      · have hr := q_returns0 (l := l) (d := d + 2) (p := k) W H2 T2 hb hk
        rw [gv2_rv hP hv (Nat.le_refl k) hk] at hr
        have gz : gvT C T1 k = gv2 C T1 k := by rw [gv_gv2]; simp [z]
        cases gq : gv2 C T1 k
        · rw [gq] at hr gz
          refine go_iloadn dX10_dayGoes_44 rfl ?_
          refine go_aloadn dX10_dayGoes_45 rfl ?_
          refine sg_getI dX10_dayGoes_46 fX10_273 rfl (mo_L rfl) hS ?_
          rw [hpe]
          refine go_icmp_ge (tgt := 97) dX10_dayGoes_49 (by decide) (fun c49 => absurd c49 (nI_ge hk (by omega))) (fun c49 => ?_)
          refine go_aloadn dX10_dayGoes_52 rfl ?_
          refine go_iloadn dX10_dayGoes_53 rfl ?_
          refine go_iloadn dX10_dayGoes_54 rfl ?_
          refine sg_cVi (M' := mX10_wornBy) ([.int (nI b), .int (nI k)]) dX10_dayGoes_55 lX10_300 vX10_wornBy (mo_L rfl) (by decide) rfl hS (hwb) rfl (Nat.le_of_ble_eq_true rfl) (Nat.zero_le _) (Nat.zero_le _) ?_
          refine go_if_eq (tgt := 91) dX10_dayGoes_58 (by decide) (fun c58 => absurd (hz.mp c58) z) (fun c58 => ?_)
          refine go_aloadn dX10_dayGoes_61 rfl ?_
          refine go_iloadn dX10_dayGoes_62 rfl ?_
          refine go_iloadn dX10_dayGoes_63 rfl ?_
          refine sg_rVi (M' := mX10_returns0) ([.int (nI b), .int (nI k)]) dX10_dayGoes_64 lX10_336 vX10_returns0 (mo_L rfl) (by decide) rfl hS (hr) rfl (Nat.le_of_ble_eq_true rfl) (Nat.zero_le _) (Nat.zero_le _) (fun g1 F1 => ?_)
          refine go_if_ne (tgt := 73) dX10_dayGoes_67 (by decide) (fun c67 => absurd rfl c67) (fun c67 => ?_)
          refine go_goto (tgt := 91) dX10_dayGoes_70 (by decide) ?_
          refine go_iinc2 (c1 := 1) dX10_dayGoes_91 rfl rfl ?_
          refine go_goto (tgt := 44) dX10_dayGoes_94 (by decide) ?_
          exact go_cong (ih g1 ⟨F.tr (F1.sub (fun _ _ => s93d)), s1 g1 gz (T2.s93 W F1), by rw [F1.I (by unfold S93; omega)]; exact o2⟩) (by simp [nI_1]) rfl
        · rw [gq] at hr gz
          refine go_iloadn dX10_dayGoes_44 rfl ?_
          refine go_aloadn dX10_dayGoes_45 rfl ?_
          refine sg_getI dX10_dayGoes_46 fX10_273 rfl (mo_L rfl) hS ?_
          rw [hpe]
          refine go_icmp_ge (tgt := 97) dX10_dayGoes_49 (by decide) (fun c49 => absurd c49 (nI_ge hk (by omega))) (fun c49 => ?_)
          refine go_aloadn dX10_dayGoes_52 rfl ?_
          refine go_iloadn dX10_dayGoes_53 rfl ?_
          refine go_iloadn dX10_dayGoes_54 rfl ?_
          refine sg_cVi (M' := mX10_wornBy) ([.int (nI b), .int (nI k)]) dX10_dayGoes_55 lX10_300 vX10_wornBy (mo_L rfl) (by decide) rfl hS (hwb) rfl (Nat.le_of_ble_eq_true rfl) (Nat.zero_le _) (Nat.zero_le _) ?_
          refine go_if_eq (tgt := 91) dX10_dayGoes_58 (by decide) (fun c58 => absurd (hz.mp c58) z) (fun c58 => ?_)
          refine go_aloadn dX10_dayGoes_61 rfl ?_
          refine go_iloadn dX10_dayGoes_62 rfl ?_
          refine go_iloadn dX10_dayGoes_63 rfl ?_
          refine sg_rVi (M' := mX10_returns0) ([.int (nI b), .int (nI k)]) dX10_dayGoes_64 lX10_336 vX10_returns0 (mo_L rfl) (by decide) rfl hS (hr) rfl (Nat.le_of_ble_eq_true rfl) (Nat.zero_le _) (Nat.zero_le _) (fun g1 F1 => ?_)
          refine go_if_ne (tgt := 73) dX10_dayGoes_67 (by decide) (fun c67 => ?_) (fun c67 => absurd c67 (by decide))
          have F3 := F.tr (F1.sub (fun _ _ => s93d (b := b)))
          have H3 := H.sd F3
          have hS := H3.1
          refine go_aloadn dX10_dayGoes_73 rfl ?_
          refine go_iloadn dX10_dayGoes_74 rfl ?_
          refine go_iloadn dX10_dayGoes_75 rfl ?_
          refine sg_rV0 (M' := mX10_givesAll) ([.int (nI b), .int (nI k)]) dX10_dayGoes_76 lX10_340 vX10_givesAll (mo_L rfl) (by decide) rfl hS (q_givesAll W H3 (T2.s93 W F1) hb) rfl (Nat.le_of_ble_eq_true rfl) (Nat.zero_le _) (Nat.zero_le _) (fun g2 F2 => ?_)
          have F4 := F3.tr (F2.1.sub (fun _ _ => Or.inl))
          have hS := (H.sd F4).1
          refine go_aloadn dX10_dayGoes_79 rfl ?_
          refine sg_getR dX10_dayGoes_80 fX10_66 rfl (mo_L rfl) hS (mo_r42 hS rfl) ?_
          refine go_iloadn dX10_dayGoes_83 rfl ?_
          refine go_bipush (v := 41) dX10_dayGoes_84 rfl ?_
          refine go_iadd dX10_dayGoes_86 ?_
          refine go_iloadn dX10_dayGoes_87 rfl ?_
          refine go_iadd dX10_dayGoes_88 ?_
          refine go_iconst (v := 0) dX10_dayGoes_89 rfl ?_
          refine sg_iastN (i := b + (41 + k)) dX10_dayGoes_90 (mo_42 rfl) hS (by simp only [lit_nI, nI_add, pk_mul, Nat.add_assoc, Nat.zero_add, Nat.add_zero]) (by omega) ?_
          refine go_iinc2 (c1 := 1) dX10_dayGoes_91 rfl rfl ?_
          refine go_goto (tgt := 44) dX10_dayGoes_94 (by decide) ?_
          exact go_cong (ih _ ⟨F4.uI (sdr (by omega)), s2 g2 gz F2.2, by rw [hI_uI_ne (by omega), F2.1.I (by omega), F1.I (by unfold S93; omega)]; exact o2⟩) (by simp [nI_1]) rfl
    · obtain ⟨F, T2, o2⟩ := hh
      have H2 := H.sd F
      have hS := H2.1
      have hpe := H2.2.1.2.1
      refine go_iloadn dX10_dayGoes_44 rfl ?_
      refine go_aloadn dX10_dayGoes_45 rfl ?_
      refine sg_getI dX10_dayGoes_46 fX10_273 rfl (mo_L rfl) hS ?_
      rw [hpe]
      refine go_icmp_ge (tgt := 97) dX10_dayGoes_49 (by decide) (fun c49 => ?_) (fun c49 => absurd (nI_le (Nat.le_refl _) (by omega)) c49)
      refine go_iconst (v := 0) dX10_dayGoes_97 rfl ?_
      refine go_ist2 dX10_dayGoes_98 rfl ?_
      skip
      refine go_loopR (lvf := fun k => [some (.ref 77), some (.int (nI b)), some (.int (nI k))]) (cP C) (fun k g => Fz (SD b) h g ∧ MT g b C (eeK C k T1) ∧ hI g 77 48 = tC T1) (fun k g hk hh ih => ?_) (fun g hh => ?_) 0 _ (Nat.zero_le _) ⟨F, by rw [eeK_0]; exact T2, o2⟩
      · obtain ⟨F, T2, o2⟩ := hh
        have H2 := H.sd F
        have hS := H2.1
        have hpe := H2.2.1.2.1
        obtain ⟨s1, s2⟩ := eeK_step W hk (V2.2.1 k hk).1 T2
        have hwb := q_wornBy (l := l) (d := d + 4) (x := nI k) W H2 T2 hb
        have hz := (bt_mn (C := C) (T := eeK C k T1) (p := k) W).trans (mn_ee hP hv hk)
        refine go_iloadn dX10_dayGoes_99 rfl ?_
        refine go_aloadn dX10_dayGoes_100 rfl ?_
        refine sg_getI dX10_dayGoes_101 fX10_273 rfl (mo_L rfl) hS ?_
        rw [hpe]
        refine go_icmp_ge (tgt := 152) dX10_dayGoes_104 (by decide) (fun c104 => absurd c104 (nI_ge hk (by omega))) (fun c104 => ?_)
        refine go_aloadn dX10_dayGoes_107 rfl ?_
        refine go_iloadn dX10_dayGoes_108 rfl ?_
        refine go_iloadn dX10_dayGoes_109 rfl ?_
        refine sg_cVi (M' := mX10_wornBy) ([.int (nI b), .int (nI k)]) dX10_dayGoes_110 lX10_300 vX10_wornBy (mo_L rfl) (by decide) rfl hS (hwb) rfl (Nat.le_of_ble_eq_true rfl) (Nat.zero_le _) (Nat.zero_le _) ?_
        refine go_if_ne (tgt := 146) dX10_dayGoes_113 (by decide) (fun c113 => ?_) (fun c113 => ?_)
        · refine go_iinc2 (c1 := 1) dX10_dayGoes_146 rfl rfl ?_
          refine go_goto (tgt := 99) dX10_dayGoes_149 (by decide) ?_
          first | exact go_cong (ih g ⟨F, s2 (fun q => c113 (hz.mpr q)), o2⟩) (by simp [nI_1]) rfl | exact go_cong (ih _ ⟨F.uI (sdr (by omega)), s1 (hz.mp c113), by rw [hI_uI_ne (by omega)]; exact o2⟩) (by simp [nI_1]) rfl | exact go_cong (ih _ ⟨F.uI (sdr (by omega)), s1 (hz.mp (Decidable.not_not.mp c113)), by rw [hI_uI_ne (by omega)]; exact o2⟩) (by simp [nI_1]) rfl
        · refine go_aloadn dX10_dayGoes_116 rfl ?_
          refine sg_getR dX10_dayGoes_117 fX10_66 rfl (mo_L rfl) hS (mo_r42 hS rfl) ?_
          refine go_iloadn dX10_dayGoes_120 rfl ?_
          refine go_bipush (v := 41) dX10_dayGoes_121 rfl ?_
          refine go_iadd dX10_dayGoes_123 ?_
          refine go_iloadn dX10_dayGoes_124 rfl ?_
          refine go_iadd dX10_dayGoes_125 ?_
          refine go_aloadn dX10_dayGoes_126 rfl ?_
          refine sg_getR dX10_dayGoes_127 fX10_66 rfl (mo_L rfl) hS (mo_r42 hS rfl) ?_
          refine go_iloadn dX10_dayGoes_130 rfl ?_
          refine go_bipush (v := 41) dX10_dayGoes_131 rfl ?_
          refine go_iadd dX10_dayGoes_133 ?_
          refine go_iloadn dX10_dayGoes_134 rfl ?_
          refine go_iadd dX10_dayGoes_135 ?_
          refine sg_ialdN (i := b + (41 + k)) dX10_dayGoes_136 (mo_42 rfl) hS (by simp only [lit_nI, nI_add, pk_mul, Nat.add_assoc, Nat.zero_add, Nat.add_zero]) (by omega) ((T2.2.2.1 k hk).1) ?_
          refine go_iconst (v := 2) dX10_dayGoes_137 rfl ?_
          refine go_isub dX10_dayGoes_138 ?_
          refine go_iconst (v := 0) dX10_dayGoes_139 rfl ?_
          refine go_bipush (v := 99) dX10_dayGoes_140 rfl ?_
          refine sg_cSi (M' := mX10_bounded) ([.int _, .int 0, .int 99]) dX10_dayGoes_142 lX10_315 sX10_bounded hS (q_bounded) rfl (Nat.le_of_ble_eq_true rfl) (Nat.zero_le _) (Nat.zero_le _) ?_
          refine sg_iastN (i := b + (41 + k)) dX10_dayGoes_145 (mo_42 rfl) hS (by simp only [lit_nI, nI_add, pk_mul, Nat.add_assoc, Nat.zero_add, Nat.add_zero]) (by omega) ?_
          refine go_iinc2 (c1 := 1) dX10_dayGoes_146 rfl rfl ?_
          refine go_goto (tgt := 99) dX10_dayGoes_149 (by decide) ?_
          first | exact go_cong (ih g ⟨F, s2 (fun q => c113 (hz.mpr q)), o2⟩) (by simp [nI_1]) rfl | exact go_cong (ih _ ⟨F.uI (sdr (by omega)), s1 (hz.mp c113), by rw [hI_uI_ne (by omega)]; exact o2⟩) (by simp [nI_1]) rfl | exact go_cong (ih _ ⟨F.uI (sdr (by omega)), s1 (hz.mp (Decidable.not_not.mp c113)), by rw [hI_uI_ne (by omega)]; exact o2⟩) (by simp [nI_1]) rfl
      · obtain ⟨F, T2, o2⟩ := hh
        have H2 := H.sd F
        have hS := H2.1
        have hpe := H2.2.1.2.1
        obtain ⟨m1, m2, m3, m4⟩ := id T2
        refine go_iloadn dX10_dayGoes_99 rfl ?_
        refine go_aloadn dX10_dayGoes_100 rfl ?_
        refine sg_getI dX10_dayGoes_101 fX10_273 rfl (mo_L rfl) hS ?_
        rw [hpe]
        refine go_icmp_ge (tgt := 152) dX10_dayGoes_104 (by decide) (fun c104 => ?_) (fun c104 => absurd (nI_le (Nat.le_refl _) (by omega)) c104)
        refine go_aloadn dX10_dayGoes_152 rfl ?_
        refine sg_getR dX10_dayGoes_153 fX10_66 rfl (mo_L rfl) hS (mo_r42 hS rfl) ?_
        refine go_iloadn dX10_dayGoes_156 rfl ?_
        refine go_iconst (v := 0) dX10_dayGoes_157 rfl ?_
        refine go_iadd dX10_dayGoes_158 ?_
        refine go_dup2 dX10_dayGoes_159 rfl rfl ?_
        refine sg_ialdN (i := b) dX10_dayGoes_160 (mo_42 rfl) hS (by simp only [lit_nI, nI_add, pk_mul, Nat.add_assoc, Nat.zero_add, Nat.add_zero]) (by omega) (m1) ?_
        refine go_iconst (v := 1) dX10_dayGoes_161 rfl ?_
        refine go_iadd dX10_dayGoes_162 ?_
        refine sg_iastN (i := b) dX10_dayGoes_163 (mo_42 rfl) hS (by simp only [lit_nI, nI_add, pk_mul, Nat.add_assoc, Nat.zero_add, Nat.add_zero]) (by omega) ?_
        refine go_return dX10_dayGoes_164 rfl (Nat.zero_le _) (Nat.zero_le _) ?_
        exact ⟨rfl, F.uI (Or.inl ⟨rfl, by omega, by omega⟩), ⟨by rw [hI_uI_eq, nI_1]; rfl, fun t ht => by rw [hI_uI_ne (by omega), hI_uI_ne (by omega), hI_uI_ne (by omega), hI_uI_ne (by omega)]; exact m2 t ht, fun p hp => by rw [hI_uI_ne (by omega), hI_uI_ne (by omega)]; exact ⟨(m3 p hp).1.trans (eeK_P hp), (m3 p hp).2⟩, fun i hi => by rw [hI_uI_ne (by omega)]; exact m4 i hi⟩, by rw [hI_uI_ne (by omega)]; exact o2⟩
