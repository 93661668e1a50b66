/-! Vanities: whom to look at next -/
theorem r_first {l : Launch} {d m : Nat} {h : Hp} (hS : St h) (hm : hI h 70 0 = nI m) (hm7 : m ≤ 72) : Ex l (d + 1) mX8_first [.ref 70] h (some (.int (if m = 0 then -1 else hI h 71 0))) h := by
  refine run_lv [some (.ref 70)] (go := ?_)
  refine go_aloadn dX8_first_0 rfl ?_
  refine sg_getI dX8_first_1 fX8_18 rfl (va_L rfl) hS ?_
  rw [hm]
  refine go_if_le (tgt := 16) dX8_first_4 (by decide) (fun c4 => ?_) (fun c4 => ?_)
  · refine go_iconst (v := -1) dX8_first_16 rfl ?_
    refine go_ireturn dX8_first_17 rfl rfl (Nat.zero_le _) (Nat.zero_le _) ?_
    exact ⟨by first | (rw [if_pos (by rcases Nat.eq_zero_or_pos m with q | q; exact q; exact absurd c4 (nI_nle q (by omega)))]; done) | (rw [if_neg (fun q => c4 (by rw [q]; decide))]; rfl), rfl⟩
  · refine go_aloadn dX8_first_7 rfl ?_
    refine sg_getR dX8_first_8 fX8_11 rfl (va_L rfl) hS (va_r3 hS rfl) ?_
    refine go_iconst (v := 0) dX8_first_11 rfl ?_
    refine sg_iald dX8_first_12 (va_3 rfl) hS (vp_in_nI (n := 0) (by decide) (by decide)) ?_
    refine go_goto (tgt := 17) dX8_first_13 (by decide) ?_
    refine go_ireturn dX8_first_17 rfl rfl (Nat.zero_le _) (Nat.zero_le _) ?_
    exact ⟨by first | (rw [if_pos (by rcases Nat.eq_zero_or_pos m with q | q; exact q; exact absurd c4 (nI_nle q (by omega)))]; done) | (rw [if_neg (fun q => c4 (by rw [q]; decide))]; rfl), rfl⟩
/-- what one would see of a thing -/
def ocI (s w : Int32) : Int32 := (s <<< ((4 : Int32) &&& 31)) ||| (w + 1)
theorem r_keepOutcomes {l : Launch} {d m : Nat} {h : Hp} (hS : St h) (hm : m < 72) : Ex l (d + 1) mX8_keepOutcomes [.ref 70, .int (nI m), .ref 56] h none (uF h 72 (upsF (10 * m) (fun t => ocI (hI h 63 t) (hI h 62 t)) (hI h 72) 10)) := by
  refine run_lv [some (.ref 70), some (.int (nI m)), some (.ref 56), none] (go := ?_)
  refine go_iconst (v := 0) dX8_keepOutcomes_0 rfl ?_
  refine go_ist3 dX8_keepOutcomes_1 rfl ?_
  refine go_cong (go_loop (lvf := fun k => [some (.ref 70), some (.int (nI m)), some (.ref 56), some (.int (nI k))]) (hf := fun k => uF h 72 (upsF (10 * m) (fun t => ocI (hI h 63 t) (hI h 62 t)) (hI h 72) k)) 10 (fun _ => True) (fun k hk _ ih => ?_) (fun _ => ?_) 0 (Nat.zero_le _) trivial) rfl (by exact uF_self.symm)
  · have hS : St (uF h 72 (upsF (10 * m) (fun t => ocI (hI h 63 t) (hI h 62 t)) (hI h 72) k)) := hS
    have e1 : nI m * 10 + nI k = nI (10 * m + k) := by rw [show (10 : Int32) = nI 10 from rfl, pk_mul, nI_add, Nat.mul_comm]
    have e0 : (nI k).toNatClampNeg = k := cl_nI (by omega)
    refine go_iloadn dX8_keepOutcomes_2 rfl ?_
    refine go_bipush (v := 10) dX8_keepOutcomes_3 rfl ?_
    refine go_icmp_ge (tgt := 42) dX8_keepOutcomes_5 (by decide) (fun c5 => ?_) (fun c5 => ?_)
    · exact absurd c5 (nI_ge (b := 10) hk (by decide))
    · refine go_aloadn dX8_keepOutcomes_8 rfl ?_
      refine sg_getR dX8_keepOutcomes_9 fX8_15 rfl (va_L rfl) hS (va_r4 hS rfl) ?_
      refine go_iloadn dX8_keepOutcomes_12 rfl ?_
      refine go_bipush (v := 10) dX8_keepOutcomes_13 rfl ?_
      refine go_imul dX8_keepOutcomes_15 ?_
      refine go_iloadn dX8_keepOutcomes_16 rfl ?_
      refine go_iadd dX8_keepOutcomes_17 ?_
      refine go_aloadn dX8_keepOutcomes_18 rfl ?_
      refine sg_getR dX8_keepOutcomes_19 fX8_76 rfl (tw_L at56) hS (tw_r9 hS at56) ?_
      refine go_iloadn dX8_keepOutcomes_22 rfl ?_
      refine sg_iald dX8_keepOutcomes_23 (tw_9 at56) hS (vp_in_nI hk (by decide)) ?_
      rw [e0, hI_uF_ne (by decide)]
      refine go_iconst (v := 4) dX8_keepOutcomes_24 rfl ?_
      refine go_ishl dX8_keepOutcomes_25 ?_
      refine go_aloadn dX8_keepOutcomes_26 rfl ?_
      refine sg_getR dX8_keepOutcomes_27 fX8_79 rfl (tw_L at56) hS (tw_r8 hS at56) ?_
      refine go_iloadn dX8_keepOutcomes_30 rfl ?_
      refine sg_iald dX8_keepOutcomes_31 (tw_8 at56) hS (vp_in_nI hk (by decide)) ?_
      rw [e0, hI_uF_ne (by decide)]
      refine go_iconst (v := 1) dX8_keepOutcomes_32 rfl ?_
      refine go_iadd dX8_keepOutcomes_33 ?_
      refine go_ior dX8_keepOutcomes_34 ?_
      rw [e1]
      refine sg_iast dX8_keepOutcomes_35 (va_4 rfl) hS (vp_in_nI (by omega) (by decide)) ?_
      refine go_iinc3 (c1 := 1) dX8_keepOutcomes_36 rfl rfl ?_
      refine go_goto (tgt := 2) dX8_keepOutcomes_39 (by decide) ?_
      exact go_cong (ih trivial) (by simp [nI_1]) (by rw [cl_nI (by omega), uI_uF]; rfl)
  · have hS : St (uF h 72 (upsF (10 * m) (fun t => ocI (hI h 63 t) (hI h 62 t)) (hI h 72) 10)) := hS
    refine go_iloadn dX8_keepOutcomes_2 rfl ?_
    refine go_bipush (v := 10) dX8_keepOutcomes_3 rfl ?_
    refine go_icmp_ge (tgt := 42) dX8_keepOutcomes_5 (by decide) (fun c5 => ?_) (fun c5 => ?_)
    · refine go_return dX8_keepOutcomes_42 rfl (Nat.zero_le _) (Nat.zero_le _) ?_
      exact ⟨rfl, rfl⟩
    · exact absurd (by decide) c5
/-- whether nobody ahead of i has the same outcome -/
def nwB (O : Nat → Int32) (t i : Nat) : Bool := decide (fsN (fun j => O (10 * j + t) = O (10 * i + t)) i = none)
theorem r_isNewOutcome {l : Launch} {d i t : Nat} {h : Hp} (hS : St h) (hi : i < 72) (ht : t < 10) : Ex l (d + 1) mX8_isNewOutcome [.ref 70, .int (nI i), .int (nI t)] h (some (.int (if nwB (hI h 72) t i then 1 else 0))) h := by
  have e1 : ∀ j, nI j * 10 + nI t = nI (10 * j + t) := fun j => by rw [show (10 : Int32) = nI 10 from rfl, pk_mul, nI_add, Nat.mul_comm]
  refine run_lv [some (.ref 70), some (.int (nI i)), some (.int (nI t)), none] (go := ?_)
  refine go_iconst (v := 0) dX8_isNewOutcome_0 rfl ?_
  refine go_ist3 dX8_isNewOutcome_1 rfl ?_
  refine go_loop (lvf := fun k => [some (.ref 70), some (.int (nI i)), some (.int (nI t)), some (.int (nI k))]) (hf := fun _ => h) i (fun k => ∀ j, j < k → ¬ hI h 72 (10 * j + t) = hI h 72 (10 * i + t)) (fun k hk hh ih => ?_) (fun hh => ?_) 0 (Nat.zero_le _) (fun _ q => absurd q (by omega))
  · refine go_iloadn dX8_isNewOutcome_2 rfl ?_
    refine go_iloadn dX8_isNewOutcome_3 rfl ?_
    refine go_icmp_ge (tgt := 40) dX8_isNewOutcome_4 (by decide) (fun c4 => ?_) (fun c4 => ?_)
    · exact absurd c4 (nI_ge hk (by omega))
    · refine go_aloadn dX8_isNewOutcome_7 rfl ?_
      refine sg_getR dX8_isNewOutcome_8 fX8_15 rfl (va_L rfl) hS (va_r4 hS rfl) ?_
      refine go_iloadn dX8_isNewOutcome_11 rfl ?_
      refine go_bipush (v := 10) dX8_isNewOutcome_12 rfl ?_
      refine go_imul dX8_isNewOutcome_14 ?_
      refine go_iloadn dX8_isNewOutcome_15 rfl ?_
      refine go_iadd dX8_isNewOutcome_16 ?_
      rw [e1]
      refine sg_iald dX8_isNewOutcome_17 (va_4 rfl) hS (vp_in_nI (by omega) (by decide)) ?_
      rw [cl_nI (by omega)]
      refine go_aloadn dX8_isNewOutcome_18 rfl ?_
      refine sg_getR dX8_isNewOutcome_19 fX8_15 rfl (va_L rfl) hS (va_r4 hS rfl) ?_
      refine go_iloadn dX8_isNewOutcome_22 rfl ?_
      refine go_bipush (v := 10) dX8_isNewOutcome_23 rfl ?_
      refine go_imul dX8_isNewOutcome_25 ?_
      refine go_iloadn dX8_isNewOutcome_26 rfl ?_
      refine go_iadd dX8_isNewOutcome_27 ?_
      rw [e1]
      refine sg_iald dX8_isNewOutcome_28 (va_4 rfl) hS (vp_in_nI (by omega) (by decide)) ?_
      rw [cl_nI (by omega)]
      refine go_icmp_ne (tgt := 34) dX8_isNewOutcome_29 (by decide) (fun c29 => ?_) (fun c29 => ?_)
      · refine go_iinc3 (c1 := 1) dX8_isNewOutcome_34 rfl rfl ?_
        refine go_goto (tgt := 2) dX8_isNewOutcome_37 (by decide) ?_
        exact go_cong (ih (fun j hj => by by_cases e : j = k; (· subst e; exact c29); exact hh j (by omega))) (by simp [nI_1]) rfl
      · refine go_iconst (v := 0) dX8_isNewOutcome_32 rfl ?_
        refine go_ireturn dX8_isNewOutcome_33 rfl rfl (Nat.zero_le _) (Nat.zero_le _) ?_
        exact ⟨by rw [if_neg (fun q => by rw [nwB, fs_some hk c29 hh] at q; simp at q)], rfl⟩
  · refine go_iloadn dX8_isNewOutcome_2 rfl ?_
    refine go_iloadn dX8_isNewOutcome_3 rfl ?_
    refine go_icmp_ge (tgt := 40) dX8_isNewOutcome_4 (by decide) (fun c4 => ?_) (fun c4 => ?_)
    · refine go_iconst (v := 1) dX8_isNewOutcome_40 rfl ?_
      refine go_ireturn dX8_isNewOutcome_41 rfl rfl (Nat.zero_le _) (Nat.zero_le _) ?_
      exact ⟨by rw [if_pos (by rw [nwB, fs_none hh]; rfl)], rfl⟩
    · exact absurd (nI_le (Nat.le_refl _) (by omega)) c4
def ulN (O : Nat → Int32) (t : Nat) : Nat → Nat := foF (fun i a => if nwB O t i then a + 1 else a) 0
theorem ulN_le {O : Nat → Int32} {t n : Nat} : ulN O t n ≤ n := by
  induction n with
  | zero => exact Nat.le_refl _
  | succ n ih => simp only [ulN, foF] at ih ⊢; split <;> omega
theorem r_unlikeOutcomes {l : Launch} {d m t : Nat} {h : Hp} (hS : St h) (hm : hI h 70 0 = nI m) (hm7 : m ≤ 72) (ht : t < 10) : Ex l (d + 2) mX8_unlikeOutcomes [.ref 70, .int (nI t)] h (some (.int (nI (ulN (hI h 72) t m)))) h := by
  refine run_lv [some (.ref 70), some (.int (nI t)), none, none] (go := ?_)
  refine go_iconst (v := 0) dX8_unlikeOutcomes_0 rfl ?_
  refine go_ist2 dX8_unlikeOutcomes_1 rfl ?_
  refine go_iconst (v := 0) dX8_unlikeOutcomes_2 rfl ?_
  refine go_ist3 dX8_unlikeOutcomes_3 rfl ?_
  refine go_loop (lvf := fun k => [some (.ref 70), some (.int (nI t)), some (.int (nI (ulN (hI h 72) t k))), some (.int (nI k))]) (hf := fun _ => h) m (fun _ => True) (fun k hk _ ih => ?_) (fun _ => ?_) 0 (Nat.zero_le _) trivial
  · have es : ulN (hI h 72) t (k + 1) = if nwB (hI h 72) t k then ulN (hI h 72) t k + 1 else ulN (hI h 72) t k := rfl
    rw [es] at ih
    refine go_iloadn dX8_unlikeOutcomes_4 rfl ?_
    refine go_aloadn dX8_unlikeOutcomes_5 rfl ?_
    refine sg_getI dX8_unlikeOutcomes_6 fX8_18 rfl (va_L rfl) hS ?_
    refine go_icmp_ge (tgt := 30) dX8_unlikeOutcomes_9 (by decide) (fun c9 => ?_) (fun c9 => ?_)
    · exact absurd (hm ▸ c9) (nI_ge hk (by omega))
    · refine go_aloadn dX8_unlikeOutcomes_12 rfl ?_
      refine go_iloadn dX8_unlikeOutcomes_13 rfl ?_
      refine go_iloadn dX8_unlikeOutcomes_14 rfl ?_
      refine sg_cVi (M' := mX8_isNewOutcome) ([.int (nI k), .int (nI t)]) dX8_unlikeOutcomes_15 lX8_82 vX8_isNewOutcome (va_L rfl) (by decide) rfl hS (r_isNewOutcome hS (by omega) ht) rfl (Nat.le_of_ble_eq_true rfl) (Nat.zero_le _) (Nat.zero_le _) ?_
      refine go_if_eq (tgt := 24) dX8_unlikeOutcomes_18 (by decide) (fun c18 => ?_) (fun c18 => ?_)
      · refine go_iinc3 (c1 := 1) dX8_unlikeOutcomes_24 rfl rfl ?_
        refine go_goto (tgt := 4) dX8_unlikeOutcomes_27 (by decide) ?_
        exact go_cong (ih trivial) (by by_cases q : nwB (hI h 72) t k = true; (· rw [if_pos q] at c18 ⊢; first | exact absurd c18 (by decide) | simp [nI_1]); (rw [if_neg q] at c18 ⊢; first | exact absurd rfl c18 | simp [nI_1])) rfl
      · refine go_iinc2 (c1 := 1) dX8_unlikeOutcomes_21 rfl rfl ?_
        refine go_iinc3 (c1 := 1) dX8_unlikeOutcomes_24 rfl rfl ?_
        refine go_goto (tgt := 4) dX8_unlikeOutcomes_27 (by decide) ?_
        exact go_cong (ih trivial) (by by_cases q : nwB (hI h 72) t k = true; (· rw [if_pos q] at c18 ⊢; first | exact absurd c18 (by decide) | simp [nI_1]); (rw [if_neg q] at c18 ⊢; first | exact absurd rfl c18 | simp [nI_1])) rfl
  · refine go_iloadn dX8_unlikeOutcomes_4 rfl ?_
    refine go_aloadn dX8_unlikeOutcomes_5 rfl ?_
    refine sg_getI dX8_unlikeOutcomes_6 fX8_18 rfl (va_L rfl) hS ?_
    refine go_icmp_ge (tgt := 30) dX8_unlikeOutcomes_9 (by decide) (fun c9 => ?_) (fun c9 => ?_)
    · refine go_iloadn dX8_unlikeOutcomes_30 rfl ?_
      refine go_ireturn dX8_unlikeOutcomes_31 rfl rfl (Nat.zero_le _) (Nat.zero_le _) ?_
      exact ⟨rfl, rfl⟩
    · exact absurd (by rw [hm]; exact nI_le (Nat.le_refl _) (by omega)) c9
theorem ulN_cong {O O' : Nat → Int32} {t m : Nat} (h : ∀ i, i < m → O (10 * i + t) = O' (10 * i + t)) {n : Nat} (hn : n ≤ m) : ulN O t n = ulN O' t n := by
  refine foF_cong (fun i hi a => ?_)
  have : nwB O t i = nwB O' t i := by
    unfold nwB
    rw [fs_cong (Q := fun j => O' (10 * j + t) = O' (10 * i + t)) (fun j hj => by rw [h j (by omega), h i (by omega)])]
  rw [this]
/-- the town behind ten days, by the i-th one found -/
def aoT (C : Cy) (T : Tn) (g : Nat) : Tn := dnT C (vaT (g / 10) (nI (g % 10)) (t0 T)) 10
/-- outcomes by the list of those found -/
def aoF (C : Cy) (T : Tn) (G : Nat → Nat) : Nat → Int32 := fun x => ocI (tS (aoT C T (G (x / 10))) (x % 10)) (tB (aoT C T (G (x / 10))) (x % 10))
def cmT (O : Nat → Int32) (m : Nat) : Nat → Int32 × Int32 := foF (fun t s => if nI (ulN O t m) ≤ s.2 then s else (nI t, nI (ulN O t m))) (-1, 0)
theorem r_compare {l : Launch} {d c fs fr m : Nat} {C : Cy} {T : Tn} {G : Nat → Nat} {h : Hp} (W : WC C) (H : TV h 30 c fs fr C T) (hD : tD T + 100 < 2 ^ 30) (hm : hI h 70 0 = nI m) (hm7 : m ≤ 72) (hG : ∀ i, i < m → hI h 71 i = nI (G i) ∧ G i < 80) :
    Ey l (d + 7) mX8_compare [.ref 70, .ref 30, .ref 55] h none (fun g => F7 h g ∧ hI g 70 1 = (cmT (aoF C T G) m (cN C)).1 ∧ hI g 70 2 = (cmT (aoF C T G) m (cN C)).2) := by
  have hP := W.1.2.1
  have hN1 := W.1.1
  obtain ⟨hc, hbc, hS⟩ := H.hc
  refine run_lv [some (.ref 70), some (.ref 30), some (.ref 55), none, none] (go := ?_)
  refine go_iconst (v := 0) dX8_compare_0 rfl ?_
  refine go_ist3 dX8_compare_1 rfl ?_
  refine go_loopR (lvf := fun k => [some (.ref 70), some (.ref 30), some (.ref 55), some (.int (nI k)), none]) m (fun k g => F7 h g ∧ hI g 70 0 = nI m ∧ (∀ i, hI g 71 i = hI h 71 i) ∧ ∀ i t, i < k → t < cN C → hI g 72 (10 * i + t) = aoF C T G (10 * i + t)) (fun k g hk hh ih => ?_) (fun g hh => ?_) 0 h (Nat.zero_le _) ⟨Fq.rf, hm, fun _ => rfl, fun _ _ q => absurd q (by omega)⟩
  · obtain ⟨F, m0, m1, hh⟩ := hh
    have H2 := H.fc (F.sub (fun _ => s7c))
    have hS := H2.hc.2.2
    obtain ⟨eG, lG⟩ := hG k hk
    have e0 : (nI k).toNatClampNeg = k := cl_nI (by omega)
    have d10 : nI (G k) / 10 = nI (G k / 10) := pk_div (by omega) (by decide) (by decide)
    have r10 : nI (G k) - nI (G k) / 10 * 10 = nI (G k % 10) := pk_rem (by omega) (by decide) (by decide)
    refine go_iloadn dX8_compare_2 rfl ?_
    refine go_aloadn dX8_compare_3 rfl ?_
    refine sg_getI dX8_compare_4 fX8_18 rfl (va_L rfl) hS ?_
    refine go_icmp_ge (tgt := 62) dX8_compare_7 (by decide) (fun c7 => ?_) (fun c7 => ?_)
    · exact absurd (m0 ▸ c7) (nI_ge hk (by omega))
    · refine go_aloadn dX8_compare_10 rfl ?_
      refine go_aloadn dX8_compare_11 rfl ?_
      refine sg_rV0 (M' := mX7_start) ([.ref 30]) dX8_compare_12 lX8_22 vX7_start (tr_L rfl) (by decide) rfl hS (r_start H2) rfl (Nat.le_of_ble_eq_true rfl) (Nat.zero_le _) (Nat.zero_le _) (fun g1 F1 => ?_)
      have hS := F1.2.hc.2.2
      have m1' : ∀ i, hI g1 71 i = hI h 71 i := fun i => by rw [F1.1.2.2.2 71 i (by unfold S6; omega)]; exact m1 i
      refine go_aloadn dX8_compare_15 rfl ?_
      refine sg_getR dX8_compare_16 fX8_28 rfl (tr_L rfl) hS (tr_r0 hS rfl) ?_
      refine sg_getR dX8_compare_19 fX8_53 rfl (tw_L (at56)) hS (tw_r3 hS (at56)) ?_
      refine go_aloadn dX8_compare_22 rfl ?_
      refine sg_getR dX8_compare_23 fX8_11 rfl (va_L rfl) hS (va_r3 hS rfl) ?_
      refine go_iloadn dX8_compare_26 rfl ?_
      refine sg_iald dX8_compare_27 (va_3 rfl) hS (vp_in_nI (by omega) (by decide)) ?_
      rw [e0, m1', eG]
      refine go_bipush (v := 10) dX8_compare_28 rfl ?_
      refine go_idiv dX8_compare_30 (by decide) ?_
      rw [d10]
      refine go_aloadn dX8_compare_31 rfl ?_
      refine sg_getR dX8_compare_32 fX8_11 rfl (va_L rfl) hS (va_r3 hS rfl) ?_
      refine go_iloadn dX8_compare_35 rfl ?_
      refine sg_iald dX8_compare_36 (va_3 rfl) hS (vp_in_nI (by omega) (by decide)) ?_
      rw [e0, m1', eG]
      refine go_bipush (v := 10) dX8_compare_37 rfl ?_
      refine go_irem dX8_compare_39 (by decide) ?_
      rw [r10]
      refine sg_iast dX8_compare_40 (tw_3 (at56)) hS (vp_in_nI (by omega) (by decide)) ?_
      rw [cl_nI (by omega)]
      have H3 : TV (uI g1 57 (G k / 10) (nI (G k % 10))) 56 c fs fr C (vaT (G k / 10) (nI (G k % 10)) (t0 T)) := tv_van F1.2
      have F3 : F7 h (uI g1 57 (G k / 10) (nI (G k % 10))) := (F.tr (F67 F1.1)).uI (by unfold S7; omega)
      have hS := H3.hc.2.2
      refine go_aloadn dX8_compare_41 rfl ?_
      refine go_bipush (v := 10) dX8_compare_42 rfl ?_
      refine sg_rV0 (M' := mX7_passDays) ([.int (nI 10)]) dX8_compare_44 lX8_56 vX7_passDays (tr_L rfl) (by decide) rfl hS (r_passDays W H3 (by show tD T + 10 < 2 ^ 30; omega)) rfl (Nat.le_of_ble_eq_true rfl) (Nat.zero_le _) (Nat.zero_le _) (fun g4 F4 => ?_)
      have H4 : TV g4 56 c fs fr C (aoT C T (G k)) := F4.2
      have hS := H4.hc.2.2
      refine go_aloadn dX8_compare_47 rfl ?_
      refine go_iloadn dX8_compare_48 rfl ?_
      refine go_aloadn dX8_compare_49 rfl ?_
      refine sg_getR dX8_compare_50 fX8_28 rfl (tr_L rfl) hS (tr_r0 hS rfl) ?_
      refine sg_cV0 (M' := mX8_keepOutcomes) ([.int (nI k), .ref 56]) dX8_compare_53 lX8_60 vX8_keepOutcomes (va_L rfl) (by decide) rfl hS (r_keepOutcomes hS (by omega)) rfl (Nat.le_of_ble_eq_true rfl) (Nat.zero_le _) (Nat.zero_le _) ?_
      refine go_iinc3 (c1 := 1) dX8_compare_56 rfl rfl ?_
      refine go_goto (tgt := 2) dX8_compare_59 (by decide) ?_
      exact go_back (ih _ ⟨(F3.tr (F67 F4.1)).uF (by unfold S7; omega), by rw [hI_uF_ne (by decide), F4.1.2.2.2 70 0 (by unfold S6; omega), hI_uI_ne (by omega), F1.1.2.2.2 70 0 (by unfold S6; omega)]; exact m0, fun i => by rw [hI_uF_ne (by decide), F4.1.2.2.2 71 i (by unfold S6; omega), hI_uI_ne (by omega)]; exact m1' i, fun i t hi ht => by rw [hI_uF_eq, upsF_at]; by_cases e : i = k; (· subst e; rw [if_pos (by omega), Nat.add_sub_cancel_left]; (have q1 : (10 * i + t) / 10 = i := by omega); (have q2 : (10 * i + t) % 10 = t := by omega); obtain ⟨-, z2, z3, -⟩ := H4.2.2.1 t ht; unfold aoF; rw [q1, q2, ← z2, ← z3]); (rw [if_neg (by omega), F4.1.2.2.2 72 _ (by unfold S6; omega), hI_uI_ne (by omega), F1.1.2.2.2 72 _ (by unfold S6; omega)]; exact hh i t (by omega) ht)⟩) (by simp [lsub, nI_1]) rfl
  · obtain ⟨F, m0, m1, hh⟩ := hh
    have hS := F.St hS
    refine go_iloadn dX8_compare_2 rfl ?_
    refine go_aloadn dX8_compare_3 rfl ?_
    refine sg_getI dX8_compare_4 fX8_18 rfl (va_L rfl) hS ?_
    refine go_icmp_ge (tgt := 62) dX8_compare_7 (by decide) (fun c7 => ?_) (fun c7 => absurd (by rw [m0]; exact nI_le (Nat.le_refl _) (by omega)) c7)
    refine go_aloadn dX8_compare_62 rfl ?_
    refine go_iconst (v := -1) dX8_compare_63 rfl ?_
    refine sg_putI dX8_compare_64 fX8_64 rfl rfl (va_L rfl) hS ?_
    refine go_aloadn dX8_compare_67 rfl ?_
    refine go_iconst (v := 0) dX8_compare_68 rfl ?_
    refine sg_putI dX8_compare_69 fX8_67 rfl rfl (va_L rfl) hS ?_
    refine go_iconst (v := 0) dX8_compare_72 rfl ?_
    refine go_ist3 dX8_compare_73 rfl ?_
    refine go_loopR (lvf := fun k => [some (.ref 70), some (.ref 30), some (.ref 55), some (.int (nI k)), none]) (cN C) (fun k g => F7 h g ∧ hI g 70 0 = nI m ∧ (∀ i t, i < m → t < cN C → hI g 72 (10 * i + t) = aoF C T G (10 * i + t)) ∧ hI g 70 1 = (cmT (aoF C T G) m k).1 ∧ hI g 70 2 = (cmT (aoF C T G) m k).2) (fun k g hk hh ih => ?_) (fun g hh => ?_) 0 (uI (uI g 70 1 (-1)) 70 2 0) (Nat.zero_le _) ⟨(F.uI (by unfold S7; omega)).uI (by unfold S7; omega), by rw [hI_uI_ne (by omega), hI_uI_ne (by omega)]; exact m0, fun i t hi ht => by rw [hI_uI_ne (by omega), hI_uI_ne (by omega)]; exact hh i t hi ht, by rw [hI_uI_ne (by omega), hI_uI_eq]; rfl, hI_uI_eq⟩
    · obtain ⟨F, m0, hh, b1, b2⟩ := hh
      have H2 := H.fc (F.sub (fun _ => s7c))
      obtain ⟨-, hbc, hS⟩ := H2.hc
      have hth := H2.1.1.2.2.2.2.1
      have eu : ulN (hI g 72) k m = ulN (aoF C T G) k m := ulN_cong (m := m) (fun i hi => hh i k hi hk) (Nat.le_refl _)
      have es : cmT (aoF C T G) m (k + 1) = if nI (ulN (aoF C T G) k m) ≤ (cmT (aoF C T G) m k).2 then cmT (aoF C T G) m k else (nI k, nI (ulN (aoF C T G) k m)) := rfl
      rw [es] at ih
      refine go_iloadn dX8_compare_74 rfl ?_
      refine go_aloadn dX8_compare_75 rfl ?_
      refine sg_getR dX8_compare_76 fX8_38 rfl (tw_L at30) hS hbc ?_
      refine sg_getI dX8_compare_79 fX8_70 rfl (ct_L hc) hS ?_
      refine go_icmp_ge (tgt := 118) dX8_compare_82 (by decide) (fun c82 => ?_) (fun c82 => ?_)
      · exact absurd (hth ▸ c82) (nI_ge hk (by omega))
      · refine go_aloadn dX8_compare_85 rfl ?_
        refine go_iloadn dX8_compare_86 rfl ?_
        refine sg_cVi (M' := mX8_unlikeOutcomes) ([.int (nI k)]) dX8_compare_87 lX8_73 vX8_unlikeOutcomes (va_L rfl) (by decide) rfl hS (r_unlikeOutcomes hS m0 hm7 (by omega)) rfl (Nat.le_of_ble_eq_true rfl) (Nat.zero_le _) (Nat.zero_le _) ?_
        rw [eu]
        refine go_ist4 dX8_compare_90 rfl ?_
        refine go_iload dX8_compare_92 rfl ?_
        refine go_aloadn dX8_compare_94 rfl ?_
        refine sg_getI dX8_compare_95 fX8_67 rfl (va_L rfl) hS ?_
        rw [b2]
        refine go_icmp_le (tgt := 112) dX8_compare_98 (by decide) (fun c98 => ?_) (fun c98 => ?_)
        · exact (by
          refine go_iinc3 (c1 := 1) dX8_compare_112 rfl rfl ?_
          refine go_goto (tgt := 74) dX8_compare_115 (by decide) ?_
          exact go_back (ih g ⟨F, m0, hh, by rw [if_pos c98]; exact b1, by rw [if_pos c98]; exact b2⟩) (by simp [lsub, nI_1]) rfl)
        · refine go_aloadn dX8_compare_101 rfl ?_
          refine go_iloadn dX8_compare_102 rfl ?_
          refine sg_putI dX8_compare_103 fX8_64 rfl rfl (va_L rfl) hS ?_
          refine go_aloadn dX8_compare_106 rfl ?_
          refine go_iload dX8_compare_107 rfl ?_
          refine sg_putI dX8_compare_109 fX8_67 rfl rfl (va_L rfl) hS ?_
          refine go_iinc3 (c1 := 1) dX8_compare_112 rfl rfl ?_
          refine go_goto (tgt := 74) dX8_compare_115 (by decide) ?_
          exact go_back (ih _ ⟨(F.uI (by unfold S7; omega)).uI (by unfold S7; omega), by rw [hI_uI_ne (by omega), hI_uI_ne (by omega)]; exact m0, fun i t hi ht => by rw [hI_uI_ne (by omega), hI_uI_ne (by omega)]; exact hh i t hi ht, by rw [if_neg c98, hI_uI_ne (by omega), hI_uI_eq], by rw [if_neg c98, hI_uI_eq]⟩) (by simp [lsub, nI_1]) rfl
    · obtain ⟨F, m0, hh, b1, b2⟩ := hh
      have H2 := H.fc (F.sub (fun _ => s7c))
      obtain ⟨-, hbc, hS⟩ := H2.hc
      have hth := H2.1.1.2.2.2.2.1
      refine go_iloadn dX8_compare_74 rfl ?_
      refine go_aloadn dX8_compare_75 rfl ?_
      refine sg_getR dX8_compare_76 fX8_38 rfl (tw_L at30) hS hbc ?_
      refine sg_getI dX8_compare_79 fX8_70 rfl (ct_L hc) hS ?_
      refine go_icmp_ge (tgt := 118) dX8_compare_82 (by decide) (fun c82 => ?_) (fun c82 => ?_)
      · refine go_return dX8_compare_118 rfl (Nat.zero_le _) (Nat.zero_le _) ?_
        exact ⟨rfl, F, b1, b2⟩
      · exact absurd (by rw [hth]; exact nI_le (Nat.le_refl _) (by omega)) c82
