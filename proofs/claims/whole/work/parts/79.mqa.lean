/-! the model: what is noted -/
/-- who wears nothing: his vanity counts for nothing -/
def noW (C : Cy) (T : Tn) (p : Nat) : Prop := p < 8 ∧ ∀ t, t < cN C → ¬ tB T t = nI p
theorem noW_mn {C : Cy} {T : Tn} {p : Nat} (h : noW C T p) : mnT C T p = 0 := by rw [mn_ct]; exact ctN_z.mpr h.2
theorem sv_va {C : Cy} {T : Tn} {t w p : Nat} {v lk : Int32} (hw : w ≠ p) : svT C (vaT p v T) t w lk = svT C T t w lk := by
  funext k
  have e : tV (vaT p v T) w = tV T w := pk_un hw
  unfold svT
  rw [e]; rfl
theorem sh_va {C : Cy} {T : Tn} {t w p : Nat} {v lk : Int32} (hw : w ≠ p) : shT C (vaT p v T) t w lk = shT C T t w lk := by
  have e : tV (vaT p v T) w = tV T w := pk_un hw
  unfold shT
  rw [sv_va hw, e]; rfl
theorem wd_va {C : Cy} {T : Tn} {t w p : Nat} {v lk : Int32} (hw : w ≠ p) : wdT C t w lk (vaT p v T) = vaT p v (wdT C t w lk T) := by
  have e : tS (vaT p v T) t = tS T t := rfl
  unfold wdT
  rw [sh_va hw, e]
  by_cases a : lk = 0
  · rw [if_pos a, if_pos a]; rfl
  · rw [if_neg a, if_neg a]
    by_cases b : tS T t + 1 < nI (cM C)
    · rw [if_pos b, if_pos b]; rfl
    · rw [if_neg b, if_neg b]; rfl
theorem dA_va {C : Cy} {T : Tn} {p n : Nat} {v fog : Int32} (W : WC C) (V : WT C T) (h : noW C T p) (hn : n ≤ cN C) : d1A C fog (vaT p v T) n = vaT p v (d1A C fog T n) ∧ noW C (d1A C fog T n) p := by
  induction n with
  | zero => exact ⟨rfl, h⟩
  | succ n ih =>
    obtain ⟨i1, i2⟩ := ih (by omega)
    have V2 := V.dA (fog := fog) W (show n ≤ cN C by omega)
    have e1 : d1A C fog (vaT p v T) (n + 1) = d1T C fog n (d1A C fog (vaT p v T) n) := rfl
    have e2 : d1A C fog T (n + 1) = d1T C fog n (d1A C fog T n) := rfl
    rw [e1, e2, i1]
    generalize d1A C fog T n = T1 at *
    have eB : tB (vaT p v T1) n = tB T1 n := rfl
    unfold d1T
    rw [eB]
    by_cases z : tB T1 n = -1
    · rw [if_pos z, if_pos z]; exact ⟨rfl, i2⟩
    · rw [if_neg z, if_neg z]
      obtain ⟨w, hw, ew⟩ := (V2.1 n (by omega)).2.1.resolve_left z
      have hP := W.1.2.1
      have ec : (tB T1 n).toNatClampNeg = w := by rw [ew]; exact cl_nI (by omega)
      have ne : w ≠ p := fun e => i2.2 n (by omega) (by rw [ew, e])
      rw [ec]
      refine ⟨wd_va ne, i2.1, fun t ht => ?_⟩
      rcases (wdT_kept (C := C) (lk := if fog = 0 then lkT C T1 w (tD T1) else 0) (t := n) (w := w) (T := T1)).2 with y | y
      · rw [y]; exact i2.2 t ht
      · rw [y]
        by_cases e : t = n
        · subst e; rw [pk_us]; exact fun q => nI_m1 (by have := h.1; omega) q.symm
        · rw [pk_un e]; exact i2.2 t ht
theorem gv_va {C : Cy} {T : Tn} {p q : Nat} {v : Int32} (h : mnT C T p = 0) : gvT C (vaT p v T) q = gvT C T q := by
  have em : mnT C (vaT p v T) q = mnT C T q := rfl
  unfold gvT
  rw [em]
  by_cases e : q = p
  · subst e; rw [h]; simp
  · have ev : tV (vaT p v T) q = tV T q := pk_un e
    have er : rvT (vaT p v T) q (mnT C T q) = rvT T q (mnT C T q) := by
      funext k; unfold rvT; rw [ev]; rfl
    have eh : tH (vaT p v T) q = tH T q := rfl
    rw [er, eh]
theorem ev_va {C : Cy} {T : Tn} {p k : Nat} {v : Int32} (h : mnT C T p = 0) : evT C k (vaT p v T) = vaT p v (evT C k T) := by
  have eg : ∀ x, gvW C (vaT p v T) k x = gvW C T k x := fun x => by unfold gvW; rw [gv_va h]
  have eg2 : ∀ q, gvT C (vaT p v T) q = gvT C T q := fun q => gv_va h
  unfold evT
  simp only [eg, eg2]
  rfl
theorem day_va {C : Cy} {T : Tn} {p : Nat} {v fog : Int32} (W : WC C) (V : WT C T) (h : noW C T p) : dayT C fog (vaT p v T) = vaT p v (dayT C fog T) ∧ noW C (dayT C fog T) p := by
  obtain ⟨i1, i2⟩ := dA_va (v := v) (fog := fog) W V h (Nat.le_refl _)
  unfold dayT
  rw [i1]
  generalize d1A C fog T (cN C) = T1 at *
  rw [ev_va (noW_mn i2)]
  refine ⟨rfl, h.1, fun t ht => ?_⟩
  show ¬ (if gvW C T1 (cP C) (tB T1 t) then (-1 : Int32) else tB T1 t) = nI p
  split
  · exact fun q => nI_m1 (by have := h.1; omega) q.symm
  · exact i2.2 t ht
theorem dn_va {C : Cy} {T : Tn} {p k : Nat} {v : Int32} (W : WC C) (V : WT C T) (h : noW C T p) : dnT C (vaT p v T) k = vaT p v (dnT C T k) ∧ noW C (dnT C T k) p := by
  induction k with
  | zero => exact ⟨rfl, h⟩
  | succ k ih =>
    have e1 : dnT C (vaT p v T) (k + 1) = dayT C 0 (dnT C (vaT p v T) k) := rfl
    have e2 : dnT C T (k + 1) = dayT C 0 (dnT C T k) := rfl
    rw [e1, e2, ih.1]
    exact day_va W (V.dn W) ih.2
theorem ho_va {C : Cy} {Q : Nt} {T : Tn} {p : Nat} {v : Int32} (W : WC C) (V : WT C T) (h : noW C T p) : hoT C Q (vaT p v T) = hoT C Q T := by
  unfold hoT
  have : ∀ k, nbT Q (dnT C (vaT p v T) k) k = nbT Q (dnT C T k) k := fun k => by rw [(dn_va W V h).1]; rfl
  simp only [this]
theorem ok_va {C : Cy} {Q : Nt} {T : Tn} {p v : Nat} (W : WC C) (V : WT C T) (hp : p < 8) : okC C Q T p v = hoT C Q (vaT p (nI v) (t0 T)) := by
  unfold okC
  by_cases z : btF (fun t => tB T t = nI p) (cN C) = 0
  · rw [if_pos z]
    have := (btF_zero (by have := W.1.1; omega)).mp z
    exact (ho_va W V.t0 ⟨hp, this⟩).symm
  · rw [if_neg z]
/-- the model's notes -/
def MN (h : Hp) (N : Nat) (Q : Nt) : Prop := hI h 77 51 = nI (qM Q) ∧ qM Q ≤ 8 ∧ ∀ i, i < qM Q → hI h 97 (3 * i) = nI (qT Q i) ∧ hI h 97 (3 * i + 1) = nI (qD Q i) ∧ hI h 97 (3 * i + 2) = qW Q i ∧ qT Q i < N ∧ qD Q i ≤ 30
theorem MN.fz {S : Nat → Nat → Prop} {h g : Hp} {N : Nat} {Q : Nt} (H : MN h N Q) (F : Fz S h g) (hs : ¬ S 77 51 ∧ ∀ k, ¬ S 97 k) : MN g N Q := by
  obtain ⟨h1, h2, h3⟩ := H
  refine ⟨by rw [F.I hs.1]; exact h1, h2, fun i hi => ?_⟩
  rw [F.I (hs.2 _), F.I (hs.2 _), F.I (hs.2 _)]; exact h3 i hi
theorem MN.sm {h g : Hp} {N : Nat} {Q : Nt} (H : MN h N Q) (F : Fz SM h g) : MN g N Q := H.fz F (by unfold SM; exact ⟨by omega, fun k => by omega⟩)
theorem MN.sn {h g : Hp} {N : Nat} {Q : Nt} (H : MN h N Q) (F : Fz SN h g) : MN g N Q := H.sm F.sn
def soN (g : Hp) (C : Cy) (T : Tn) : Prop := ∀ t, t < cN C → hI g 98 t = tB T t ∧ hI g 98 (10 + t) = tS T t
/-- scratch, but for what all guesses hold -/
def SG (a k : Nat) : Prop := SN a k ∧ ¬ a = 99
theorem Fz.sg {h g : Hp} (F : Fz SG h g) : Fz SN h g := F.sub (fun _ _ q => q.1)
/-- a day of the trial row leaves what soon holds -/
theorem q_day' {l : Launch} {d as ar : Nat} {C : Cy} {T T' : Tn} {h : Hp} (W : WC C) (H : ME h as ar C T T') (V : WT C T') (hD : tD T' + 1 < 2 ^ 30) : Ey l (d + 6) mX10_dayGoes [.ref 77, .int (nI 105)] h none (fun g => Fz SG h g ∧ ME g as ar C T (dayT C 0 T') ∧ ∀ a k, 95 ≤ a → hI g a k = hI h a k) := by
  refine (q_dayGoes W H.1.1 H.2 V (Nat.le_refl _) hD).mono (fun g q => ?_)
  obtain ⟨F, m, o⟩ := q
  rw [H.1.2.2] at m
  refine ⟨F.sub (fun a k q => ⟨sdn q, by unfold SD at q; omega⟩), ⟨H.1.sn W (F.sub (fun _ _ => sdn)), ?_⟩, fun a k ha => F.I (by unfold SD; omega)⟩
  rw [day_t0]; exact m
theorem q_isNoted {l : Launch} {d as ar : Nat} {C : Cy} {T T' : Tn} {Q : Nt} {h : Hp} (W : WC C) (H : ME h as ar C T T') (V : WT C T') (hD : tD T' + 40 < 2 ^ 30) (hQ : MN h (cN C) Q) : Ey l (d + 7) mX10_isNoted [.ref 77] h (some (.int (if hoT C Q T' = true then 1 else 0))) (fun g => Fz SG h g ∧ (hoT C Q T' = true → soN g C (dnT C T' 10))) := by
  have hN1 := W.1.1
  refine run_lv [some (.ref 77), none, none] (go := ?_)
  refine go_iconst (v := 0) dX10_isNoted_0 rfl ?_
  refine go_ist1 dX10_isNoted_1 rfl ?_
  refine go_loopR (lvf := fun k => [some (.ref 77), some (.int (nI k)), none]) 31 (fun k g => ((Fz SG h g ∧ ME g as ar C T (dnT C T' k)) ∧ ∀ j, j < k → ¬ ¬ nbT Q (dnT C T' j) j = none) ∧ (10 < k → soN g C (dnT C T' 10))) (fun k g hk hh ih => ?_) (fun g hh => ?_) 0 h (Nat.zero_le _) ⟨⟨⟨Fz.rf, H⟩, fun _ q => absurd q (by omega)⟩, fun q => absurd q (by omega)⟩
  · obtain ⟨⟨⟨F, H2⟩, hj⟩, hs⟩ := hh
    have hS := H2.1.1.1
    have hQ2 := hQ.sn F.sg
    refine go_iloadn dX10_isNoted_2 rfl ?_
    refine go_bipush (v := 30) dX10_isNoted_3 rfl ?_
    refine go_icmp_gt (tgt := 125) dX10_isNoted_5 (by decide) (fun c5 => absurd c5 (nI_nlt (a := 30) (by omega) (by decide))) (fun c5 => ?_)
    refine go_iconst (v := 0) dX10_isNoted_8 rfl ?_
    refine go_ist2 dX10_isNoted_9 rfl ?_
    skip
    refine go_loop (lvf := fun i => [some (.ref 77), some (.int (nI k)), some (.int (nI i))]) (hf := fun _ => g) (qM Q) (fun i => ∀ j, j < i → ¬ (qD Q j = k ∧ ¬ (if tB (dnT C T' k) (qT Q j) = -1 then (0 : Int32) else 1) = qW Q j)) (fun i hi hh ih2 => ?_) (fun hh => ?_) 0 (Nat.zero_le _) (fun _ q => absurd q (by omega))
    · have q8 := hQ2.2.1
      obtain ⟨n1, n2, n3, n4, n5⟩ := hQ2.2.2 i hi
      have ek : (nI (qD Q i) = nI k) ↔ qD Q i = k := nI_eq (by omega) (by omega)
      refine go_iloadn dX10_isNoted_10 rfl ?_
      refine go_aloadn dX10_isNoted_11 rfl ?_
      refine sg_getI dX10_isNoted_12 fX10_286 rfl (mo_L rfl) hS ?_
      rw [hQ2.1]
      refine go_icmp_ge (tgt := 78) dX10_isNoted_15 (by decide) (fun c15 => absurd c15 (nI_ge hi (by omega))) (fun c15 => ?_)
      refine go_aloadn dX10_isNoted_18 rfl ?_
      refine sg_getR dX10_isNoted_19 fX10_84 rfl (mo_L rfl) hS (mo_r52 hS rfl) ?_
      refine go_iconst (v := 3) dX10_isNoted_22 rfl ?_
      refine go_iloadn dX10_isNoted_23 rfl ?_
      refine go_imul dX10_isNoted_24 ?_
      refine go_iconst (v := 1) dX10_isNoted_25 rfl ?_
      refine go_iadd dX10_isNoted_26 ?_
      refine sg_ialdN (i := 3 * i + 1) dX10_isNoted_27 (mo_52 rfl) hS (by simp only [lit_nI, nI_add, pk_mul, Nat.add_assoc, Nat.zero_add, Nat.add_zero]) (by omega) (n2) ?_
      refine go_iloadn dX10_isNoted_28 rfl ?_
      refine go_icmp_ne (tgt := 72) dX10_isNoted_29 (by decide) (fun c29 => ?_) (fun c29 => ?_)
      · refine go_iinc2 (c1 := 1) dX10_isNoted_72 rfl rfl ?_
        refine go_goto (tgt := 10) dX10_isNoted_75 (by decide) ?_
        exact go_cong (ih2 (fun j hji => by by_cases e : j = i; (· subst e; rintro ⟨q1, q2⟩; first | exact c29 (ek.mpr q1) | (rw [if_pos c49] at q2; exact q2 c67) | (rw [if_neg c49] at q2; exact q2 c67)); exact hh j (by omega))) (by simp [nI_1]) rfl
      · refine go_aloadn dX10_isNoted_32 rfl ?_
        refine sg_getR dX10_isNoted_33 fX10_66 rfl (mo_L rfl) hS (mo_r42 hS rfl) ?_
        refine go_bipush (v := 116) dX10_isNoted_36 rfl ?_
        refine go_aloadn dX10_isNoted_38 rfl ?_
        refine sg_getR dX10_isNoted_39 fX10_84 rfl (mo_L rfl) hS (mo_r52 hS rfl) ?_
        refine go_iconst (v := 3) dX10_isNoted_42 rfl ?_
        refine go_iloadn dX10_isNoted_43 rfl ?_
        refine go_imul dX10_isNoted_44 ?_
        refine sg_ialdN (i := 3 * i) dX10_isNoted_45 (mo_52 rfl) hS (by simp only [lit_nI, nI_add, pk_mul, Nat.add_assoc, Nat.zero_add, Nat.add_zero]) (by omega) (n1) ?_
        refine go_iadd dX10_isNoted_46 ?_
        refine sg_ialdN (i := 116 + qT Q i) dX10_isNoted_47 (mo_42 rfl) hS (by simp only [lit_nI, nI_add, pk_mul, Nat.add_assoc, Nat.zero_add, Nat.add_zero]) (by omega) ((mB5 H2.2 n4).2.1) ?_
        refine go_iconst (v := -1) dX10_isNoted_48 rfl ?_
        refine go_icmp_eq (tgt := 56) dX10_isNoted_49 (by decide) (fun c49 => ?_) (fun c49 => ?_)
        · refine go_iconst (v := 0) dX10_isNoted_56 rfl ?_
          refine go_aloadn dX10_isNoted_57 rfl ?_
          refine sg_getR dX10_isNoted_58 fX10_84 rfl (mo_L rfl) hS (mo_r52 hS rfl) ?_
          refine go_iconst (v := 3) dX10_isNoted_61 rfl ?_
          refine go_iloadn dX10_isNoted_62 rfl ?_
          refine go_imul dX10_isNoted_63 ?_
          refine go_iconst (v := 2) dX10_isNoted_64 rfl ?_
          refine go_iadd dX10_isNoted_65 ?_
          refine sg_ialdN (i := 3 * i + 2) dX10_isNoted_66 (mo_52 rfl) hS (by simp only [lit_nI, nI_add, pk_mul, Nat.add_assoc, Nat.zero_add, Nat.add_zero]) (by omega) (n3) ?_
          refine go_icmp_eq (tgt := 72) dX10_isNoted_67 (by decide) (fun c67 => ?_) (fun c67 => ?_)
          · refine go_iinc2 (c1 := 1) dX10_isNoted_72 rfl rfl ?_
            refine go_goto (tgt := 10) dX10_isNoted_75 (by decide) ?_
            exact go_cong (ih2 (fun j hji => by by_cases e : j = i; (· subst e; rintro ⟨q1, q2⟩; first | exact c29 (ek.mpr q1) | (rw [if_pos c49] at q2; exact q2 c67) | (rw [if_neg c49] at q2; exact q2 c67)); exact hh j (by omega))) (by simp [nI_1]) rfl
          · refine go_iconst (v := 0) dX10_isNoted_70 rfl ?_
            refine go_ireturn dX10_isNoted_71 rfl rfl (Nat.zero_le _) (Nat.zero_le _) ?_
            exact ⟨by rw [if_neg (fun q => by rw [hoT, decide_eq_true_eq] at q; exact fs_of_none q k hk (fun z => fs_of_none z i hi ⟨ek.mp (by first | exact c29 | exact Decidable.not_not.mp c29), by first | (rw [if_pos c49]; exact c67) | (rw [if_neg c49]; exact c67)⟩))], F, fun q => by rw [hoT, decide_eq_true_eq] at q; exact absurd (fun z => fs_of_none z i hi ⟨ek.mp (by first | exact c29 | exact Decidable.not_not.mp c29), by first | (rw [if_pos c49]; exact c67) | (rw [if_neg c49]; exact c67)⟩) (fs_of_none q k hk)⟩
        · refine go_iconst (v := 1) dX10_isNoted_52 rfl ?_
          refine go_goto (tgt := 57) dX10_isNoted_53 (by decide) ?_
          refine go_aloadn dX10_isNoted_57 rfl ?_
          refine sg_getR dX10_isNoted_58 fX10_84 rfl (mo_L rfl) hS (mo_r52 hS rfl) ?_
          refine go_iconst (v := 3) dX10_isNoted_61 rfl ?_
          refine go_iloadn dX10_isNoted_62 rfl ?_
          refine go_imul dX10_isNoted_63 ?_
          refine go_iconst (v := 2) dX10_isNoted_64 rfl ?_
          refine go_iadd dX10_isNoted_65 ?_
          refine sg_ialdN (i := 3 * i + 2) dX10_isNoted_66 (mo_52 rfl) hS (by simp only [lit_nI, nI_add, pk_mul, Nat.add_assoc, Nat.zero_add, Nat.add_zero]) (by omega) (n3) ?_
          refine go_icmp_eq (tgt := 72) dX10_isNoted_67 (by decide) (fun c67 => ?_) (fun c67 => ?_)
          · refine go_iinc2 (c1 := 1) dX10_isNoted_72 rfl rfl ?_
            refine go_goto (tgt := 10) dX10_isNoted_75 (by decide) ?_
            exact go_cong (ih2 (fun j hji => by by_cases e : j = i; (· subst e; rintro ⟨q1, q2⟩; first | exact c29 (ek.mpr q1) | (rw [if_pos c49] at q2; exact q2 c67) | (rw [if_neg c49] at q2; exact q2 c67)); exact hh j (by omega))) (by simp [nI_1]) rfl
          · refine go_iconst (v := 0) dX10_isNoted_70 rfl ?_
            refine go_ireturn dX10_isNoted_71 rfl rfl (Nat.zero_le _) (Nat.zero_le _) ?_
            exact ⟨by rw [if_neg (fun q => by rw [hoT, decide_eq_true_eq] at q; exact fs_of_none q k hk (fun z => fs_of_none z i hi ⟨ek.mp (by first | exact c29 | exact Decidable.not_not.mp c29), by first | (rw [if_pos c49]; exact c67) | (rw [if_neg c49]; exact c67)⟩))], F, fun q => by rw [hoT, decide_eq_true_eq] at q; exact absurd (fun z => fs_of_none z i hi ⟨ek.mp (by first | exact c29 | exact Decidable.not_not.mp c29), by first | (rw [if_pos c49]; exact c67) | (rw [if_neg c49]; exact c67)⟩) (fs_of_none q k hk)⟩
    · have nb : nbT Q (dnT C T' k) k = none := fs_none hh
      have day : ∀ g2, Fz SG h g2 → ME g2 as ar C T (dnT C T' k) → (10 < k + 1 → soN g2 C (dnT C T' 10)) → ∀ lo, Go l (rmOf (d + 7) (0, 0)) mX10_isNoted (hN h) (Zm (0, 0) (fun v h1 => v = some (.int (if hoT C Q T' = true then 1 else 0)) ∧ Fz SG h h1 ∧ (hoT C Q T' = true → soN h1 C (dnT C T' 10))) noX) 113 [some (.ref 77), some (.int (nI k)), lo] [] g2 0 0 := by
        intro g2 F2 H3 hs2 lo
        have hS := H3.1.1.1
        refine go_aloadn dX10_isNoted_113 rfl ?_
        refine go_bipush (v := 105) dX10_isNoted_114 rfl ?_
        refine sg_rV0 (M' := mX10_dayGoes) ([.int (nI 105)]) dX10_isNoted_116 lX10_343 vX10_dayGoes (mo_L rfl) (by decide) rfl hS (q_day' W H3 (V.dn W) (by rw [tD_dn]; omega)) rfl (Nat.le_of_ble_eq_true rfl) (Nat.zero_le _) (Nat.zero_le _) (fun g3 F3 => ?_)
        refine go_iinc1 (c1 := 1) dX10_isNoted_119 rfl rfl ?_
        refine go_goto (tgt := 2) dX10_isNoted_122 (by decide) ?_
        exact go_back (ih g3 ⟨⟨⟨F2.tr F3.1, F3.2.1⟩, fun j hj2 => by by_cases e : j = k; (· subst e; exact fun q => q nb); exact hj j (by omega)⟩, fun q t ht => by rw [F3.2.2 _ _ (by omega), F3.2.2 _ _ (by omega)]; exact hs2 q t ht⟩) (by simp [lsub, nI_1]) rfl
      by_cases e10 : k = 10
      · subst e10
        refine go_iloadn dX10_isNoted_10 rfl ?_
        refine go_aloadn dX10_isNoted_11 rfl ?_
        refine sg_getI dX10_isNoted_12 fX10_286 rfl (mo_L rfl) hS ?_
        rw [hQ2.1]
        refine go_icmp_ge (tgt := 78) dX10_isNoted_15 (by decide) (fun c15 => ?_) (fun c15 => absurd (nI_le (Nat.le_refl _) (by have := hQ2.2.1; omega)) c15)
        refine go_iloadn dX10_isNoted_78 rfl ?_
        refine go_bipush (v := 10) dX10_isNoted_79 rfl ?_
        refine go_icmp_ne (tgt := 113) dX10_isNoted_81 (by decide) (fun c81 => absurd rfl c81) (fun c81 => ?_)
        refine go_iconst (v := 0) dX10_isNoted_84 rfl ?_
        refine go_ist2 dX10_isNoted_85 rfl ?_
        skip
        refine go_loopR (lvf := fun j => [some (.ref 77), some (.int (nI 10)), some (.int (nI j))]) 20 (fun j g2 => Fz (fun a _ => a = 98) g g2 ∧ ∀ i, i < j → hI g2 98 i = hI g 91 (116 + i)) (fun j g2 hj2 hh ih3 => ?_) (fun g2 hh => ?_) 0 g (Nat.zero_le _) ⟨Fz.rf, fun _ q => absurd q (by omega)⟩
        · obtain ⟨F2, hz⟩ := hh
          have hS := F2.St H2.1.1.1
          refine go_iloadn dX10_isNoted_86 rfl ?_
          refine go_bipush (v := 20) dX10_isNoted_87 rfl ?_
          refine go_icmp_ge (tgt := 113) dX10_isNoted_89 (by decide) (fun c89 => absurd c89 (nI_ge (b := 20) hj2 (by decide))) (fun c89 => ?_)
          refine go_aloadn dX10_isNoted_92 rfl ?_
          refine sg_getR dX10_isNoted_93 fX10_87 rfl (mo_L rfl) hS (mo_r53 hS rfl) ?_
          refine go_iloadn dX10_isNoted_96 rfl ?_
          refine go_aloadn dX10_isNoted_97 rfl ?_
          refine sg_getR dX10_isNoted_98 fX10_66 rfl (mo_L rfl) hS (mo_r42 hS rfl) ?_
          refine go_bipush (v := 116) dX10_isNoted_101 rfl ?_
          refine go_iloadn dX10_isNoted_103 rfl ?_
          refine go_iadd dX10_isNoted_104 ?_
          refine sg_ialdN (i := 116 + j) (x := hI g 91 (116 + j)) dX10_isNoted_105 (mo_42 rfl) hS (by simp only [lit_nI, nI_add, pk_mul, Nat.add_assoc, Nat.zero_add, Nat.add_zero]) (by omega) ((F2.I (by omega))) ?_
          refine sg_iastN (i := j) dX10_isNoted_106 (mo_53 rfl) hS (by simp only [lit_nI, nI_add, pk_mul, Nat.add_assoc, Nat.zero_add, Nat.add_zero]) (by omega) ?_
          refine go_iinc2 (c1 := 1) dX10_isNoted_107 rfl rfl ?_
          refine go_goto (tgt := 86) dX10_isNoted_110 (by decide) ?_
          exact go_cong (ih3 _ ⟨F2.uI rfl, fun i hi => by rw [hI_uI]; by_cases z : i = j; (· subst z; rw [if_pos ⟨rfl, rfl⟩]); (rw [if_neg (by omega)]; exact hz i (by omega))⟩) (by simp [nI_1]) rfl
        · obtain ⟨F2, hz⟩ := hh
          have hS := F2.St H2.1.1.1
          have F4 : Fz SG g g2 := F2.sub (fun a k q => by unfold SG SN; omega)
          refine go_iloadn dX10_isNoted_86 rfl ?_
          refine go_bipush (v := 20) dX10_isNoted_87 rfl ?_
          refine go_icmp_ge (tgt := 113) dX10_isNoted_89 (by decide) (fun c89 => ?_) (fun c89 => absurd (by decide) c89)
          exact day g2 (F.tr F4) ⟨H2.1.sn W F4.sg, H2.2.fz W F2 (fun _ _ _ => by omega)⟩ (fun _ t ht => And.intro (by rw [hz _ (by omega)]; exact (mB5 H2.2 ht).2.1) (by rw [hz _ (by omega), show 116 + (10 + t) = 126 + t from by omega]; exact (mB5 H2.2 ht).2.2.1)) _
      · refine go_iloadn dX10_isNoted_10 rfl ?_
        refine go_aloadn dX10_isNoted_11 rfl ?_
        refine sg_getI dX10_isNoted_12 fX10_286 rfl (mo_L rfl) hS ?_
        rw [hQ2.1]
        refine go_icmp_ge (tgt := 78) dX10_isNoted_15 (by decide) (fun c15 => ?_) (fun c15 => absurd (nI_le (Nat.le_refl _) (by have := hQ2.2.1; omega)) c15)
        refine go_iloadn dX10_isNoted_78 rfl ?_
        refine go_bipush (v := 10) dX10_isNoted_79 rfl ?_
        refine go_icmp_ne (tgt := 113) dX10_isNoted_81 (by decide) (fun c81 => ?_) (fun c81 => absurd ((nI_eq (b := 10) (by omega) (by decide)).mp c81) e10)
        exact day g F H2 (fun q => hs (by omega)) _
  · obtain ⟨⟨⟨F, H2⟩, hj⟩, hs⟩ := hh
    have ho : hoT C Q T' = true := by rw [hoT, decide_eq_true_eq]; exact fs_none hj
    refine go_iloadn dX10_isNoted_2 rfl ?_
    refine go_bipush (v := 30) dX10_isNoted_3 rfl ?_
    refine go_icmp_gt (tgt := 125) dX10_isNoted_5 (by decide) (fun c5 => ?_) (fun c5 => absurd (by decide) c5)
    refine go_iconst (v := 1) dX10_isNoted_125 rfl ?_
    refine go_ireturn dX10_isNoted_126 rfl rfl (Nat.zero_le _) (Nat.zero_le _) ?_
    exact ⟨by rw [if_pos ho], F, fun _ => hs (by omega)⟩

theorem q_tries' {l : Launch} {d as ar : Nat} {C : Cy} {T : Tn} {h : Hp} (W : WC C) (H : MB h as ar C T) : Ey l (d + 1) mX10_tries [.ref 77] h none (fun g => Fz SG h g ∧ ME g as ar C T (t0 T)) := by
  have hN := W.1.1
  have hP := W.1.2.1
  refine run_lv [some (.ref 77), none] (go := ?_)
  refine go_iconst (v := 0) dX10_tries_0 rfl ?_
  refine go_ist1 dX10_tries_1 rfl ?_
  refine go_loopR (lvf := fun k => [some (.ref 77), some (.int (nI k))]) 105 (fun k g => Fz SG h g ∧ ∀ j, j < k → hI g 91 (105 + j) = hI h 91 j) (fun k g hk hh ih => ?_) (fun g hh => ?_) 0 h (Nat.zero_le _) ⟨Fz.rf, fun _ q => absurd q (by omega)⟩
  · obtain ⟨F, e⟩ := hh
    have hS := F.St H.1.1
    refine go_iloadn dX10_tries_2 rfl ?_
    refine go_bipush (v := 105) dX10_tries_3 rfl ?_
    refine go_icmp_ge (tgt := 29) dX10_tries_5 (by decide) (fun c5 => absurd c5 (nI_ge (b := 105) hk (by decide))) (fun c5 => ?_)
    refine go_aloadn dX10_tries_8 rfl ?_
    refine sg_getR dX10_tries_9 fX10_66 rfl (mo_L rfl) hS (mo_r42 hS rfl) ?_
    refine go_bipush (v := 105) dX10_tries_12 rfl ?_
    refine go_iloadn dX10_tries_14 rfl ?_
    refine go_iadd dX10_tries_15 ?_
    refine go_aloadn dX10_tries_16 rfl ?_
    refine sg_getR dX10_tries_17 fX10_66 rfl (mo_L rfl) hS (mo_r42 hS rfl) ?_
    refine go_iloadn dX10_tries_20 rfl ?_
    refine sg_ialdN (i := k) (x := hI h 91 k) dX10_tries_21 (mo_42 rfl) hS (by simp only [lit_nI, nI_add, pk_mul, Nat.add_assoc, Nat.zero_add, Nat.add_zero]) (by omega) ((F.I (by unfold SG SN; omega))) ?_
    refine sg_iastN (i := 105 + k) dX10_tries_22 (mo_42 rfl) hS (by simp only [lit_nI, nI_add, pk_mul, Nat.add_assoc, Nat.zero_add, Nat.add_zero]) (by omega) ?_
    refine go_iinc1 (c1 := 1) dX10_tries_23 rfl rfl ?_
    refine go_goto (tgt := 2) dX10_tries_26 (by decide) ?_
    exact go_cong (ih _ ⟨F.uI (by unfold SG SN; omega), fun j hj => by rw [hI_uI]; by_cases z : j = k; (· subst z; rw [if_pos ⟨rfl, rfl⟩]); (rw [if_neg (by omega)]; exact e j (by omega))⟩) (by simp [nI_1]) rfl
  · obtain ⟨F, e⟩ := hh
    have hS := F.St H.1.1
    obtain ⟨m1, m2, m3, m4⟩ := H.2.1
    refine go_iloadn dX10_tries_2 rfl ?_
    refine go_bipush (v := 105) dX10_tries_3 rfl ?_
    refine go_icmp_ge (tgt := 29) dX10_tries_5 (by decide) (fun c5 => ?_) (fun c5 => absurd (by decide) c5)
    refine go_return dX10_tries_29 rfl (Nat.zero_le _) (Nat.zero_le _) ?_
    exact ⟨rfl, F, H.sn W F.sg, (e 0 (by omega)).trans m1, fun t ht => by rw [e _ (by omega), e _ (by omega), e _ (by omega), e _ (by omega)]; have := m2 t ht; rw [Nat.zero_add, Nat.zero_add, Nat.zero_add, Nat.zero_add] at this; exact this, fun p hp => by rw [e _ (by omega), e _ (by omega)]; have := m3 p hp; rw [Nat.zero_add, Nat.zero_add] at this; exact this, fun i hi => by rw [e _ (by omega)]; have := m4 i hi; rw [Nat.zero_add] at this; exact this⟩
theorem mt_van {g : Hp} {b p : Nat} {v : Int32} {C : Cy} {T : Tn} (W : WC C) (hp : p < cP C) (H : MT g b C T) : MT (uI g 91 (b + (49 + p)) v) b C (vaT p v T) := by
  obtain ⟨h1, h2, h3, h4⟩ := H
  have hN := W.1.1
  have hP := W.1.2.1
  refine ⟨?_, fun t ht => ?_, fun q hq => ⟨?_, ?_⟩, fun i hi => ?_⟩
  · rw [hI_uI_ne (by omega)]; exact h1
  · rw [hI_uI_ne (by omega), hI_uI_ne (by omega), hI_uI_ne (by omega), hI_uI_ne (by omega)]; exact h2 t ht
  · rw [hI_uI_ne (by omega)]; exact (h3 q hq).1
  · show _ = upd (tV T) p v q
    by_cases e : q = p
    · subst e; rw [hI_uI_eq, pk_us]
    · rw [hI_uI_ne (by omega), pk_un e]; exact (h3 q hq).2
  · rw [hI_uI_ne (by omega)]; exact h4 i hi
theorem WT.va {C : Cy} {T : Tn} {p v : Nat} (V : WT C T) (hv : v < 10) : WT C (vaT p (nI v) T) := by
  refine ⟨V.1, fun q hq => ⟨(V.2.1 q hq).1, ?_⟩, V.2.2⟩
  show ∃ x, x ≤ 9 ∧ upd (tV T) p (nI v) q = nI x
  by_cases e : q = p
  · subst e; exact ⟨v, by omega, pk_us⟩
  · rw [pk_un e]; exact (V.2.1 q hq).2
theorem q_isGuess {l : Launch} {d as ar k : Nat} {C : Cy} {T : Tn} {Q : Nt} {h : Hp} (W : WC C) (H : MB h as ar C T) (V : WT C T) (hD9 : tD T ≤ 9999) (hQ : MN h (cN C) Q) (hk : k < 10 * cP C) : Ey l (d + 8) mX10_isGuess [.ref 77, .int (nI k)] h (some (.int (if gsB C Q T k = true then 1 else 0))) (fun g => Fz SG h g ∧ (gsB C Q T k = true → soN g C (aoT C T k))) := by
  have hS := H.1.1
  have hP := W.1.2.1
  have hp : k / 10 < cP C := by omega
  have d10 : nI k / 10 = nI (k / 10) := pk_div (by omega) (by decide) (by decide)
  have r10 : nI k - nI k / 10 * 10 = nI (k % 10) := pk_rem (by omega) (by decide) (by decide)
  have v1 := (H.2.1.2.2.1 _ hp).2
  rw [Nat.zero_add] at v1
  refine run_lv [some (.ref 77), some (.int (nI k)), none] (go := ?_)
  by_cases e18 : tV T (k / 10) = nI (k % 10)
  · refine go_iloadn dX10_isGuess_0 rfl ?_
    refine go_bipush (v := 10) dX10_isGuess_1 rfl ?_
    refine go_idiv dX10_isGuess_3 (by decide) ?_
    rw [d10]
    refine go_ist2 dX10_isGuess_4 rfl ?_
    refine go_aloadn dX10_isGuess_5 rfl ?_
    refine sg_getR dX10_isGuess_6 fX10_66 rfl (mo_L rfl) hS (mo_r42 hS rfl) ?_
    refine go_bipush (v := 49) dX10_isGuess_9 rfl ?_
    refine go_iloadn dX10_isGuess_11 rfl ?_
    refine go_iadd dX10_isGuess_12 ?_
    refine sg_ialdN (i := 49 + k / 10) dX10_isGuess_13 (mo_42 rfl) hS (by simp only [lit_nI, nI_add, pk_mul, Nat.add_assoc, Nat.zero_add, Nat.add_zero]) (by omega) (v1) ?_
    refine go_iloadn dX10_isGuess_14 rfl ?_
    refine go_bipush (v := 10) dX10_isGuess_15 rfl ?_
    refine go_irem dX10_isGuess_17 (by decide) ?_
    rw [r10]
    refine go_icmp_ne (tgt := 23) dX10_isGuess_18 (by decide) (fun c18 => absurd e18 c18) (fun c18 => ?_)
    refine go_iconst (v := 0) dX10_isGuess_21 rfl ?_
    refine go_ireturn dX10_isGuess_22 rfl rfl (Nat.zero_le _) (Nat.zero_le _) ?_
    exact ⟨by rw [if_neg (fun q => by rw [gsB, decide_eq_true e18] at q; simp at q)], Fz.rf, fun q => by rw [gsB, decide_eq_true e18] at q; simp at q⟩
  refine go_iloadn dX10_isGuess_0 rfl ?_
  refine go_bipush (v := 10) dX10_isGuess_1 rfl ?_
  refine go_idiv dX10_isGuess_3 (by decide) ?_
  rw [d10]
  refine go_ist2 dX10_isGuess_4 rfl ?_
  refine go_aloadn dX10_isGuess_5 rfl ?_
  refine sg_getR dX10_isGuess_6 fX10_66 rfl (mo_L rfl) hS (mo_r42 hS rfl) ?_
  refine go_bipush (v := 49) dX10_isGuess_9 rfl ?_
  refine go_iloadn dX10_isGuess_11 rfl ?_
  refine go_iadd dX10_isGuess_12 ?_
  refine sg_ialdN (i := 49 + k / 10) dX10_isGuess_13 (mo_42 rfl) hS (by simp only [lit_nI, nI_add, pk_mul, Nat.add_assoc, Nat.zero_add, Nat.add_zero]) (by omega) (v1) ?_
  refine go_iloadn dX10_isGuess_14 rfl ?_
  refine go_bipush (v := 10) dX10_isGuess_15 rfl ?_
  refine go_irem dX10_isGuess_17 (by decide) ?_
  rw [r10]
  refine go_icmp_ne (tgt := 23) dX10_isGuess_18 (by decide) (fun c18 => ?_) (fun c18 => absurd c18 e18)
  refine go_aloadn dX10_isGuess_23 rfl ?_
  refine sg_rV0 (M' := mX10_tries) ([]) dX10_isGuess_24 lX10_393 vX10_tries (mo_L rfl) (by decide) rfl hS (q_tries' W H) rfl (Nat.le_of_ble_eq_true rfl) (Nat.zero_le _) (Nat.zero_le _) (fun g F => ?_)
  have hS := F.2.1.1.1
  refine go_aloadn dX10_isGuess_27 rfl ?_
  refine sg_getR dX10_isGuess_28 fX10_66 rfl (mo_L rfl) hS (mo_r42 hS rfl) ?_
  refine go_sipush (v := 154) dX10_isGuess_31 rfl ?_
  refine go_iloadn dX10_isGuess_34 rfl ?_
  refine go_iadd dX10_isGuess_35 ?_
  refine go_iloadn dX10_isGuess_36 rfl ?_
  refine go_bipush (v := 10) dX10_isGuess_37 rfl ?_
  refine go_irem dX10_isGuess_39 (by decide) ?_
  rw [r10]
  refine sg_iastN (i := 154 + k / 10) dX10_isGuess_40 (mo_42 rfl) hS (by simp only [lit_nI, nI_add, pk_mul, Nat.add_assoc, Nat.zero_add, Nat.add_zero]) (by omega) ?_
  skip
  have F2 : Fz SG g (uI g 91 (154 + k / 10) (nI (k % 10))) := Fz.rf.uI (by unfold SG SN; omega)
  have H2 : ME (uI g 91 (154 + k / 10) (nI (k % 10))) as ar C T (vaT (k / 10) (nI (k % 10)) (t0 T)) := ⟨F.2.1.sn W F2.sg, by have := mt_van (v := nI (k % 10)) W hp F.2.2; rw [← Nat.add_assoc] at this; exact this⟩
  refine go_cong (h' := uI g 91 (154 + k / 10) (nI (k % 10))) ?_ rfl rfl
  generalize uI g 91 (154 + k / 10) (nI (k % 10)) = g2 at *
  have hS := H2.1.1.1
  have eg : (gsB C Q T k = true) = (hoT C Q (vaT (k / 10) (nI (k % 10)) (t0 T)) = true) := by
    rw [gsB, decide_eq_false e18, ok_va W V (by omega)]; simp
  by_cases q : hoT C Q (vaT (k / 10) (nI (k % 10)) (t0 T)) = true
  · refine go_aloadn dX10_isGuess_41 rfl ?_
    refine sg_rVi (M' := mX10_isNoted) ([]) dX10_isGuess_42 lX10_422 vX10_isNoted (mo_L rfl) (by decide) rfl hS (q_isNoted W H2 (V.t0.va (Nat.mod_lt _ (by decide))) (by show tD T + 40 < _; omega) (hQ.sn (F.1.tr F2).sg)) rfl (Nat.le_of_ble_eq_true rfl) (Nat.zero_le _) (Nat.zero_le _) (fun g3 F3 => ?_)
    rw [if_pos q]
    refine go_ireturn dX10_isGuess_45 rfl rfl (Nat.zero_le _) (Nat.zero_le _) ?_
    exact ⟨by rw [if_pos (by rw [eg]; exact q)], (F.1.tr F2).tr F3.1, fun _ => F3.2 q⟩
  · refine go_aloadn dX10_isGuess_41 rfl ?_
    refine sg_rVi (M' := mX10_isNoted) ([]) dX10_isGuess_42 lX10_422 vX10_isNoted (mo_L rfl) (by decide) rfl hS (q_isNoted W H2 (V.t0.va (Nat.mod_lt _ (by decide))) (by show tD T + 40 < _; omega) (hQ.sn (F.1.tr F2).sg)) rfl (Nat.le_of_ble_eq_true rfl) (Nat.zero_le _) (Nat.zero_le _) (fun g3 F3 => ?_)
    rw [if_neg q]
    refine go_ireturn dX10_isGuess_45 rfl rfl (Nat.zero_le _) (Nat.zero_le _) ?_
    exact ⟨by rw [if_neg (by rw [eg]; exact q)], (F.1.tr F2).tr F3.1, fun z => absurd (by rw [← eg]; exact z) q⟩
def fvI (L : List Nat) : Int32 := if L.length = 0 then -1 else nI (L.getD 0 0)
theorem fv_s {L : List Nat} {n : Nat} (hn : ∀ t, t ∈ L → t < 2 ^ 31) : fvI (L ++ [n]) = if fvI L = -1 then nI n else fvI L := by
  cases L with
  | nil => rfl
  | cons a L =>
    have : ¬ fvI (a :: L) = -1 := nI_m1 (hn a (List.mem_cons_self ..))
    rw [if_neg this]; rfl
theorem m_vain {l : Launch} {d as ar : Nat} {w : Int32} {C : Cy} {T : Tn} {Q : Nt} {h : Hp} (W : WC C) (H : MB h as ar C T) (V : WT C T) (hD9 : tD T ≤ 9999) (hQ : MN h (cN C) Q) : Qm l (d + 9) mX10_vain [.ref 77, .int w] h (vVain C Q T w) := by
  have hS := H.1.1
  have hP := W.1.2.1
  refine run_lv [some (.ref 77), some (.int w), none, none, none] (go := ?_)
  unfold vVain
  refine go_aloadn dX10_vain_0 rfl ?_
  refine go_iconst (v := 0) dX10_vain_1 rfl ?_
  refine sg_putI dX10_vain_2 fX10_102 rfl rfl (mo_L rfl) hS ?_
  have hF : Fz SM h (uI h 77 0 0) := Fz.rf.uI sm0
  have H := H.sm W hF
  have hQ := hQ.sm hF
  have h0 : hI (uI h 77 0 0) 77 0 = 0 := hI_uI_eq
  generalize uI h 77 0 0 = h1 at *
  have hS := H.1.1
  refine go_aloadn dX10_vain_5 rfl ?_
  refine go_iloadn dX10_vain_6 rfl ?_
  refine go_iconst (v := 2) dX10_vain_7 rfl ?_
  refine sg_mnd (M' := mX10_isWhat) ([.int w, .int 2]) dX10_vain_8 lX10_365 vX10_isWhat (mo_L rfl) (by decide) rfl hS (q_isWhat hS h0).1 (q_isWhat hS h0).2 rfl (Nat.le_of_ble_eq_true rfl) (fun k8 => ?_) (fun k8 => ?_)
  · refine go_if_ne (tgt := 16) dX10_vain_11 (by decide) (fun c => absurd rfl c) (fun _ => ?_)
    refine go_iconst (v := 0) dX10_vain_14 rfl ?_
    refine go_ireturn dX10_vain_15 rfl rfl (Nat.zero_le _) (Nat.zero_le _) ?_
    exact ⟨⟨0, rfl, fun q => absurd q (by decide)⟩, hI_uI_eq, hF.uI sm0⟩
  refine go_if_ne (tgt := 16) dX10_vain_11 (by decide) (fun c11 => ?_) (fun c11 => absurd c11 (by decide))
  skip
  by_cases e18 : w = 2
  · refine go_iloadn dX10_vain_16 rfl ?_
    refine go_iconst (v := 2) dX10_vain_17 rfl ?_
    refine go_icmp_ne (tgt := 38) dX10_vain_18 (by decide) (fun c18 => absurd e18 c18) (fun c18 => ?_)
    refine go_aloadn dX10_vain_21 rfl ?_
    refine sg_rV0 (M' := mX10_tries) ([]) dX10_vain_22 lX10_393 vX10_tries (mo_L rfl) (by decide) rfl hS (q_tries W H) rfl (Nat.le_of_ble_eq_true rfl) (Nat.zero_le _) (Nat.zero_le _) (fun g F => ?_)
    have hS := F.2.1.1.1
    refine go_aloadn dX10_vain_25 rfl ?_
    refine sg_rVi (M' := mX10_isNoted) ([]) dX10_vain_26 lX10_422 vX10_isNoted (mo_L rfl) (by decide) rfl hS (q_isNoted W F.2 V.t0 (by show tD T + 40 < _; omega) (hQ.sn F.1)) rfl (Nat.le_of_ble_eq_true rfl) (Nat.zero_le _) (Nat.zero_le _) (fun g2 F2 => ?_)
    refine go_if_eq (tgt := 36) dX10_vain_29 (by decide) (fun c29 => ?_) (fun c29 => ?_)
    · refine go_iconst (v := 0) dX10_vain_36 rfl ?_
      refine go_ireturn dX10_vain_37 rfl rfl (Nat.zero_le _) (Nat.zero_le _) ?_
      first | exact qn_ok (by rw [if_pos c18]; exact c29.symm) ((F.1.tr F2.1.sg).t0.trans h0) (hF.tr (F.1.tr F2.1.sg).sn) | exact qn_ok (by rw [if_pos c18]; exact ho1 c29) ((F.1.tr F2.1.sg).t0.trans h0) (hF.tr (F.1.tr F2.1.sg).sn)
    · refine go_iconst (v := 1) dX10_vain_32 rfl ?_
      refine go_goto (tgt := 37) dX10_vain_33 (by decide) ?_
      refine go_ireturn dX10_vain_37 rfl rfl (Nat.zero_le _) (Nat.zero_le _) ?_
      first | exact qn_ok (by rw [if_pos c18]; exact c29.symm) ((F.1.tr F2.1.sg).t0.trans h0) (hF.tr (F.1.tr F2.1.sg).sn) | exact qn_ok (by rw [if_pos c18]; exact ho1 c29) ((F.1.tr F2.1.sg).t0.trans h0) (hF.tr (F.1.tr F2.1.sg).sn)
  refine go_iloadn dX10_vain_16 rfl ?_
  refine go_iconst (v := 2) dX10_vain_17 rfl ?_
  refine go_icmp_ne (tgt := 38) dX10_vain_18 (by decide) (fun c18 => ?_) (fun c18 => absurd c18 e18)
  refine go_iconst (v := 0) dX10_vain_38 rfl ?_
  refine go_ist2 dX10_vain_39 rfl ?_
  refine go_iconst (v := -1) dX10_vain_40 rfl ?_
  refine go_ist3 dX10_vain_41 rfl ?_
  refine go_iconst (v := 0) dX10_vain_42 rfl ?_
  refine go_ist4 dX10_vain_43 rfl ?_
  skip
  refine go_cong (go_loopR (lvf := fun k => [some (.ref 77), some (.int w), some (.int (nI (glL C Q T k).length)), some (.int (fvI (glL C Q T k))), some (.int (nI k))]) (10 * cP C) (fun k g => Fz SG h1 g) (fun k g hk F ih => ?_) (fun g F => ?_) 0 h1 (Nat.zero_le _) Fz.rf) rfl rfl
  · have H2 := H.sn W F.sg
    have hS := H2.1.1
    have hpe := H2.1.2.1.2.1
    rw [glL_s] at ih
    by_cases q : gsB C Q T k = true
    · rw [if_pos q, fv_s (fun t ht => by have := glL_lt ht; omega), List.length_append] at ih
      refine go_iload dX10_vain_45 rfl ?_
      refine go_bipush (v := 10) dX10_vain_47 rfl ?_
      refine go_aloadn dX10_vain_49 rfl ?_
      refine sg_getI dX10_vain_50 fX10_273 rfl (mo_L rfl) hS ?_
      refine go_imul dX10_vain_53 ?_
      rw [hpe, show (10 : Int32) = nI 10 from rfl, pk_mul]
      refine go_icmp_ge (tgt := 86) dX10_vain_54 (by decide) (fun c54 => absurd c54 (nI_ge hk (by omega))) (fun c54 => ?_)
      refine go_aloadn dX10_vain_57 rfl ?_
      refine go_iload dX10_vain_58 rfl ?_
      refine sg_rVi (M' := mX10_isGuess) ([.int (nI k)]) dX10_vain_60 lX10_425 vX10_isGuess (mo_L rfl) (by decide) rfl hS (q_isGuess W H2 V hD9 (hQ.sn F.sg) hk) rfl (Nat.le_of_ble_eq_true rfl) (Nat.zero_le _) (Nat.zero_le _) (fun g2 F2 => ?_)
      rw [if_pos q]
      refine go_if_ne (tgt := 69) dX10_vain_63 (by decide) (fun c63 => ?_) (fun c63 => absurd c63 (by decide))
      refine go_iinc2 (c1 := 1) dX10_vain_69 rfl rfl ?_
      refine go_iloadn dX10_vain_72 rfl ?_
      refine go_iconst (v := -1) dX10_vain_73 rfl ?_
      refine go_icmp_ne (tgt := 80) dX10_vain_74 (by decide) (fun c74 => ?_) (fun c74 => ?_)
      · refine go_iinc4 (c1 := 1) dX10_vain_80 rfl rfl ?_
        refine go_goto (tgt := 45) dX10_vain_83 (by decide) ?_
        first | exact go_cong (ih g2 (F.tr F2.1)) (by rw [if_pos c74]; simp [nI_1]) rfl | exact go_cong (ih g2 (F.tr F2.1)) (by rw [if_neg c74]; simp [nI_1]) rfl
      · refine go_iload dX10_vain_77 rfl ?_
        refine go_ist3 dX10_vain_79 rfl ?_
        refine go_iinc4 (c1 := 1) dX10_vain_80 rfl rfl ?_
        refine go_goto (tgt := 45) dX10_vain_83 (by decide) ?_
        first | exact go_cong (ih g2 (F.tr F2.1)) (by rw [if_pos c74]; simp [nI_1]) rfl | exact go_cong (ih g2 (F.tr F2.1)) (by rw [if_neg c74]; simp [nI_1]) rfl
    · rw [if_neg q] at ih
      refine go_iload dX10_vain_45 rfl ?_
      refine go_bipush (v := 10) dX10_vain_47 rfl ?_
      refine go_aloadn dX10_vain_49 rfl ?_
      refine sg_getI dX10_vain_50 fX10_273 rfl (mo_L rfl) hS ?_
      refine go_imul dX10_vain_53 ?_
      rw [hpe, show (10 : Int32) = nI 10 from rfl, pk_mul]
      refine go_icmp_ge (tgt := 86) dX10_vain_54 (by decide) (fun c54 => absurd c54 (nI_ge hk (by omega))) (fun c54 => ?_)
      refine go_aloadn dX10_vain_57 rfl ?_
      refine go_iload dX10_vain_58 rfl ?_
      refine sg_rVi (M' := mX10_isGuess) ([.int (nI k)]) dX10_vain_60 lX10_425 vX10_isGuess (mo_L rfl) (by decide) rfl hS (q_isGuess W H2 V hD9 (hQ.sn F.sg) hk) rfl (Nat.le_of_ble_eq_true rfl) (Nat.zero_le _) (Nat.zero_le _) (fun g2 F2 => ?_)
      rw [if_neg q]
      refine go_if_ne (tgt := 69) dX10_vain_63 (by decide) (fun c63 => absurd rfl c63) (fun c63 => ?_)
      refine go_goto (tgt := 80) dX10_vain_66 (by decide) ?_
      refine go_iinc4 (c1 := 1) dX10_vain_80 rfl rfl ?_
      refine go_goto (tgt := 45) dX10_vain_83 (by decide) ?_
      exact go_cong (ih g2 (F.tr F2.1)) (by simp [nI_1]) rfl
  · have H2 := H.sn W F.sg
    have hS := H2.1.1
    have hpe := H2.1.2.1.2.1
    refine go_iload dX10_vain_45 rfl ?_
    refine go_bipush (v := 10) dX10_vain_47 rfl ?_
    refine go_aloadn dX10_vain_49 rfl ?_
    refine sg_getI dX10_vain_50 fX10_273 rfl (mo_L rfl) hS ?_
    refine go_imul dX10_vain_53 ?_
    rw [hpe, show (10 : Int32) = nI 10 from rfl, pk_mul]
    refine go_icmp_ge (tgt := 86) dX10_vain_54 (by decide) (fun c54 => ?_) (fun c54 => absurd (nI_le (Nat.le_refl _) (by omega)) c54)
    refine go_iloadn dX10_vain_86 rfl ?_
    refine go_if_ne (tgt := 94) dX10_vain_87 (by decide) (fun c87 => ?_) (fun c87 => ?_)
    · refine go_iloadn dX10_vain_94 rfl ?_
      refine go_ireturn dX10_vain_95 rfl rfl (Nat.zero_le _) (Nat.zero_le _) ?_
      first | exact qn_ok (by rw [if_neg c18, if_pos c87]) (F.sg.t0.trans h0) (hF.tr F.sg.sn) | exact qn_ok (by rw [if_neg c18, if_neg c87]; rfl) (F.sg.t0.trans h0) (hF.tr F.sg.sn)
    · refine go_iloadn dX10_vain_90 rfl ?_
      refine go_goto (tgt := 95) dX10_vain_91 (by decide) ?_
      refine go_ireturn dX10_vain_95 rfl rfl (Nat.zero_le _) (Nat.zero_le _) ?_
      first | exact qn_ok (by rw [if_neg c18, if_pos c87]) (F.sg.t0.trans h0) (hF.tr F.sg.sn) | exact qn_ok (by rw [if_neg c18, if_neg c87]; rfl) (F.sg.t0.trans h0) (hF.tr F.sg.sn)
