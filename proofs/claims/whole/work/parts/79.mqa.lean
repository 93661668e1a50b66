/-! the model: what is noted -/
/-- who wears nothing: his vanity counts for nothing -/
def noW (C : Cy) (T : Tn) (p : Nat) : Prop := p < 8 ∧ ∀ t, t < cN C → ¬ tB T t = nI p
theorem noW_mn {C : Cy} {T : Tn} {p : Nat} (h : noW C T p) : mnT C T p = 0 := by rw [mn_ct]; exact ctN_z.mpr h.2
theorem sv_va {C : Cy} {T : Tn} {t w p : Nat} {v lk : Int32} (hw : w ≠ p) : svT C (vaT p v T) t w lk = svT C T t w lk := by
  funext k
  have e : tV (vaT p v T) w = tV T w := pk_un hw
  unfold svT
  rw [e]; rfl
theorem sh_va {C : Cy} {T : Tn} {t w p : Nat} {v lk : Int32} (hw : w ≠ p) : shT C (vaT p v T) t w lk = shT C T t w lk := by
  have e : tV (vaT p v T) w = tV T w := pk_un hw
  unfold shT
  rw [sv_va hw, e]; rfl
theorem wd_va {C : Cy} {T : Tn} {t w p : Nat} {v lk : Int32} (hw : w ≠ p) : wdT C t w lk (vaT p v T) = vaT p v (wdT C t w lk T) := by
  have e : tS (vaT p v T) t = tS T t := rfl
  unfold wdT
  rw [sh_va hw, e]
  by_cases a : lk = 0
  · rw [if_pos a, if_pos a]; rfl
  · rw [if_neg a, if_neg a]
    by_cases b : tS T t + 1 < nI (cM C)
    · rw [if_pos b, if_pos b]; rfl
    · rw [if_neg b, if_neg b]; rfl
theorem dA_va {C : Cy} {T : Tn} {p n : Nat} {v fog : Int32} (W : WC C) (V : WT C T) (h : noW C T p) (hn : n ≤ cN C) : d1A C fog (vaT p v T) n = vaT p v (d1A C fog T n) ∧ noW C (d1A C fog T n) p := by
  induction n with
  | zero => exact ⟨rfl, h⟩
  | succ n ih =>
    obtain ⟨i1, i2⟩ := ih (by omega)
    have V2 := V.dA (fog := fog) W (show n ≤ cN C by omega)
    have e1 : d1A C fog (vaT p v T) (n + 1) = d1T C fog n (d1A C fog (vaT p v T) n) := rfl
    have e2 : d1A C fog T (n + 1) = d1T C fog n (d1A C fog T n) := rfl
    rw [e1, e2, i1]
    generalize d1A C fog T n = T1 at *
    have eB : tB (vaT p v T1) n = tB T1 n := rfl
    unfold d1T
    rw [eB]
    by_cases z : tB T1 n = -1
    · rw [if_pos z, if_pos z]; exact ⟨rfl, i2⟩
    · rw [if_neg z, if_neg z]
      obtain ⟨w, hw, ew⟩ := (V2.1 n (by omega)).2.1.resolve_left z
      have hP := W.1.2.1
      have ec : (tB T1 n).toNatClampNeg = w := by rw [ew]; exact cl_nI (by omega)
      have ne : w ≠ p := fun e => i2.2 n (by omega) (by rw [ew, e])
      rw [ec]
      refine ⟨wd_va ne, i2.1, fun t ht => ?_⟩
      rcases (wdT_kept (C := C) (lk := if fog = 0 then lkT C T1 w (tD T1) else 0) (t := n) (w := w) (T := T1)).2 with y | y
      · rw [y]; exact i2.2 t ht
      · rw [y]
        by_cases e : t = n
        · subst e; rw [pk_us]; exact fun q => nI_m1 (by have := h.1; omega) q.symm
        · rw [pk_un e]; exact i2.2 t ht
theorem gv_va {C : Cy} {T : Tn} {p q : Nat} {v : Int32} (h : mnT C T p = 0) : gvT C (vaT p v T) q = gvT C T q := by
  have em : mnT C (vaT p v T) q = mnT C T q := rfl
  unfold gvT
  rw [em]
  by_cases e : q = p
  · subst e; rw [h]; simp
  · have ev : tV (vaT p v T) q = tV T q := pk_un e
    have er : rvT (vaT p v T) q (mnT C T q) = rvT T q (mnT C T q) := by
      funext k; unfold rvT; rw [ev]; rfl
    have eh : tH (vaT p v T) q = tH T q := rfl
    rw [er, eh]
theorem ev_va {C : Cy} {T : Tn} {p k : Nat} {v : Int32} (h : mnT C T p = 0) : evT C k (vaT p v T) = vaT p v (evT C k T) := by
  have eg : ∀ x, gvW C (vaT p v T) k x = gvW C T k x := fun x => by unfold gvW; rw [gv_va h]
  have eg2 : ∀ q, gvT C (vaT p v T) q = gvT C T q := fun q => gv_va h
  unfold evT
  simp only [eg, eg2]
  rfl
theorem day_va {C : Cy} {T : Tn} {p : Nat} {v fog : Int32} (W : WC C) (V : WT C T) (h : noW C T p) : dayT C fog (vaT p v T) = vaT p v (dayT C fog T) ∧ noW C (dayT C fog T) p := by
  obtain ⟨i1, i2⟩ := dA_va (v := v) (fog := fog) W V h (Nat.le_refl _)
  unfold dayT
  rw [i1]
  generalize d1A C fog T (cN C) = T1 at *
  rw [ev_va (noW_mn i2)]
  refine ⟨rfl, h.1, fun t ht => ?_⟩
  show ¬ (if gvW C T1 (cP C) (tB T1 t) then (-1 : Int32) else tB T1 t) = nI p
  split
  · exact fun q => nI_m1 (by have := h.1; omega) q.symm
  · exact i2.2 t ht
theorem dn_va {C : Cy} {T : Tn} {p k : Nat} {v : Int32} (W : WC C) (V : WT C T) (h : noW C T p) : dnT C (vaT p v T) k = vaT p v (dnT C T k) ∧ noW C (dnT C T k) p := by
  induction k with
  | zero => exact ⟨rfl, h⟩
  | succ k ih =>
    have e1 : dnT C (vaT p v T) (k + 1) = dayT C 0 (dnT C (vaT p v T) k) := rfl
    have e2 : dnT C T (k + 1) = dayT C 0 (dnT C T k) := rfl
    rw [e1, e2, ih.1]
    exact day_va W (V.dn W) ih.2
theorem ho_va {C : Cy} {Q : Nt} {T : Tn} {p : Nat} {v : Int32} (W : WC C) (V : WT C T) (h : noW C T p) : hoT C Q (vaT p v T) = hoT C Q T := by
  unfold hoT
  have : ∀ k, nbT Q (dnT C (vaT p v T) k) k = nbT Q (dnT C T k) k := fun k => by rw [(dn_va W V h).1]; rfl
  simp only [this]
theorem ok_va {C : Cy} {Q : Nt} {T : Tn} {p v : Nat} (W : WC C) (V : WT C T) (hp : p < 8) : okC C Q T p v = hoT C Q (vaT p (nI v) (t0 T)) := by
  unfold okC
  by_cases z : btF (fun t => tB T t = nI p) (cN C) = 0
  · rw [if_pos z]
    have := (btF_zero (by have := W.1.1; omega)).mp z
    exact (ho_va W V.t0 ⟨hp, this⟩).symm
  · rw [if_neg z]
/-- the model's notes -/
def MN (h : Hp) (N : Nat) (Q : Nt) : Prop := hI h 77 51 = nI (qM Q) ∧ qM Q ≤ 8 ∧ ∀ i, i < qM Q → hI h 97 (3 * i) = nI (qT Q i) ∧ hI h 97 (3 * i + 1) = nI (qD Q i) ∧ hI h 97 (3 * i + 2) = qW Q i ∧ qT Q i < N ∧ qD Q i ≤ 30
theorem MN.fz {S : Nat → Nat → Prop} {h g : Hp} {N : Nat} {Q : Nt} (H : MN h N Q) (F : Fz S h g) (hs : ¬ S 77 51 ∧ ∀ k, ¬ S 97 k) : MN g N Q := by
  obtain ⟨h1, h2, h3⟩ := H
  refine ⟨by rw [F.I hs.1]; exact h1, h2, fun i hi => ?_⟩
  rw [F.I (hs.2 _), F.I (hs.2 _), F.I (hs.2 _)]; exact h3 i hi
theorem MN.sm {h g : Hp} {N : Nat} {Q : Nt} (H : MN h N Q) (F : Fz SM h g) : MN g N Q := H.fz F (by unfold SM; exact ⟨by omega, fun k => by omega⟩)
theorem MN.sn {h g : Hp} {N : Nat} {Q : Nt} (H : MN h N Q) (F : Fz SN h g) : MN g N Q := H.sm F.sn
def soN (g : Hp) (C : Cy) (T : Tn) : Prop := ∀ t, t < cN C → hI g 98 t = tB T t ∧ hI g 98 (10 + t) = tS T t
/-- a day of the trial row leaves what soon holds -/
theorem q_day' {l : Launch} {d as ar : Nat} {C : Cy} {T T' : Tn} {h : Hp} (W : WC C) (H : ME h as ar C T T') (V : WT C T') (hD : tD T' + 1 < 2 ^ 30) : Ey l (d + 6) mX10_dayGoes [.ref 77, .int (nI 105)] h none (fun g => Fz SN h g ∧ ME g as ar C T (dayT C 0 T') ∧ ∀ a k, 95 ≤ a → hI g a k = hI h a k) := by
  refine (q_dayGoes W H.1.1 H.2 V (Nat.le_refl _) hD).mono (fun g q => ?_)
  obtain ⟨F, m, o⟩ := q
  rw [H.1.2.2] at m
  refine ⟨F.sub (fun _ _ => sdn), ⟨H.1.sn W (F.sub (fun _ _ => sdn)), ?_⟩, fun a k ha => F.I (by unfold SD; omega)⟩
  rw [day_t0]; exact m
theorem q_isNoted {l : Launch} {d as ar : Nat} {C : Cy} {T T' : Tn} {Q : Nt} {h : Hp} (W : WC C) (H : ME h as ar C T T') (V : WT C T') (hD : tD T' + 40 < 2 ^ 30) (hQ : MN h (cN C) Q) : Ey l (d + 7) mX10_isNoted [.ref 77] h (some (.int (if hoT C Q T' = true then 1 else 0))) (fun g => Fz SN h g ∧ (hoT C Q T' = true → soN g C (dnT C T' 10))) := by
  have hN1 := W.1.1
  refine run_lv [some (.ref 77), none, none] (go := ?_)
  refine go_iconst (v := 0) dX10_isNoted_0 rfl ?_
  refine go_ist1 dX10_isNoted_1 rfl ?_
  refine go_loopR (lvf := fun k => [some (.ref 77), some (.int (nI k)), none]) 31 (fun k g => ((Fz SN h g ∧ ME g as ar C T (dnT C T' k)) ∧ ∀ j, j < k → ¬ ¬ nbT Q (dnT C T' j) j = none) ∧ (10 < k → soN g C (dnT C T' 10))) (fun k g hk hh ih => ?_) (fun g hh => ?_) 0 h (Nat.zero_le _) ⟨⟨⟨Fz.rf, H⟩, fun _ q => absurd q (by omega)⟩, fun q => absurd q (by omega)⟩
  · obtain ⟨⟨⟨F, H2⟩, hj⟩, hs⟩ := hh
    have hS := H2.1.1.1
    have hQ2 := hQ.sn F
    refine go_iloadn dX10_isNoted_2 rfl ?_
    refine go_bipush (v := 30) dX10_isNoted_3 rfl ?_
    refine go_icmp_gt (tgt := 125) dX10_isNoted_5 (by decide) (fun c5 => absurd c5 (nI_nlt (a := 30) (by omega) (by decide))) (fun c5 => ?_)
    refine go_iconst (v := 0) dX10_isNoted_8 rfl ?_
    refine go_ist2 dX10_isNoted_9 rfl ?_
    skip
    refine go_loop (lvf := fun i => [some (.ref 77), some (.int (nI k)), some (.int (nI i))]) (hf := fun _ => g) (qM Q) (fun i => ∀ j, j < i → ¬ (qD Q j = k ∧ ¬ (if tB (dnT C T' k) (qT Q j) = -1 then (0 : Int32) else 1) = qW Q j)) (fun i hi hh ih2 => ?_) (fun hh => ?_) 0 (Nat.zero_le _) (fun _ q => absurd q (by omega))
    · have q8 := hQ2.2.1
      obtain ⟨n1, n2, n3, n4, n5⟩ := hQ2.2.2 i hi
      have ek : (nI (qD Q i) = nI k) ↔ qD Q i = k := nI_eq (by omega) (by omega)
      refine go_iloadn dX10_isNoted_10 rfl ?_
      refine go_aloadn dX10_isNoted_11 rfl ?_
      refine sg_getI dX10_isNoted_12 fX10_286 rfl (mo_L rfl) hS ?_
      rw [hQ2.1]
      refine go_icmp_ge (tgt := 78) dX10_isNoted_15 (by decide) (fun c15 => absurd c15 (nI_ge hi (by omega))) (fun c15 => ?_)
      refine go_aloadn dX10_isNoted_18 rfl ?_
      refine sg_getR dX10_isNoted_19 fX10_84 rfl (mo_L rfl) hS (mo_r52 hS rfl) ?_
      refine go_iconst (v := 3) dX10_isNoted_22 rfl ?_
      refine go_iloadn dX10_isNoted_23 rfl ?_
      refine go_imul dX10_isNoted_24 ?_
      refine go_iconst (v := 1) dX10_isNoted_25 rfl ?_
      refine go_iadd dX10_isNoted_26 ?_
      refine sg_ialdN (i := 3 * i + 1) dX10_isNoted_27 (mo_52 rfl) hS (by simp only [lit_nI, nI_add, pk_mul, Nat.add_assoc, Nat.zero_add, Nat.add_zero]) (by omega) (n2) ?_
      refine go_iloadn dX10_isNoted_28 rfl ?_
      refine go_icmp_ne (tgt := 72) dX10_isNoted_29 (by decide) (fun c29 => ?_) (fun c29 => ?_)
      · refine go_iinc2 (c1 := 1) dX10_isNoted_72 rfl rfl ?_
        refine go_goto (tgt := 10) dX10_isNoted_75 (by decide) ?_
        exact go_cong (ih2 (fun j hji => by by_cases e : j = i; (· subst e; rintro ⟨q1, q2⟩; first | exact c29 (ek.mpr q1) | (rw [if_pos c49] at q2; exact q2 c67) | (rw [if_neg c49] at q2; exact q2 c67)); exact hh j (by omega))) (by simp [nI_1]) rfl
      · refine go_aloadn dX10_isNoted_32 rfl ?_
        refine sg_getR dX10_isNoted_33 fX10_66 rfl (mo_L rfl) hS (mo_r42 hS rfl) ?_
        refine go_bipush (v := 116) dX10_isNoted_36 rfl ?_
        refine go_aloadn dX10_isNoted_38 rfl ?_
        refine sg_getR dX10_isNoted_39 fX10_84 rfl (mo_L rfl) hS (mo_r52 hS rfl) ?_
        refine go_iconst (v := 3) dX10_isNoted_42 rfl ?_
        refine go_iloadn dX10_isNoted_43 rfl ?_
        refine go_imul dX10_isNoted_44 ?_
        refine sg_ialdN (i := 3 * i) dX10_isNoted_45 (mo_52 rfl) hS (by simp only [lit_nI, nI_add, pk_mul, Nat.add_assoc, Nat.zero_add, Nat.add_zero]) (by omega) (n1) ?_
        refine go_iadd dX10_isNoted_46 ?_
        refine sg_ialdN (i := 116 + qT Q i) dX10_isNoted_47 (mo_42 rfl) hS (by simp only [lit_nI, nI_add, pk_mul, Nat.add_assoc, Nat.zero_add, Nat.add_zero]) (by omega) ((mB5 H2.2 n4).2.1) ?_
        refine go_iconst (v := -1) dX10_isNoted_48 rfl ?_
        refine go_icmp_eq (tgt := 56) dX10_isNoted_49 (by decide) (fun c49 => ?_) (fun c49 => ?_)
        · refine go_iconst (v := 0) dX10_isNoted_56 rfl ?_
          refine go_aloadn dX10_isNoted_57 rfl ?_
          refine sg_getR dX10_isNoted_58 fX10_84 rfl (mo_L rfl) hS (mo_r52 hS rfl) ?_
          refine go_iconst (v := 3) dX10_isNoted_61 rfl ?_
          refine go_iloadn dX10_isNoted_62 rfl ?_
          refine go_imul dX10_isNoted_63 ?_
          refine go_iconst (v := 2) dX10_isNoted_64 rfl ?_
          refine go_iadd dX10_isNoted_65 ?_
          refine sg_ialdN (i := 3 * i + 2) dX10_isNoted_66 (mo_52 rfl) hS (by simp only [lit_nI, nI_add, pk_mul, Nat.add_assoc, Nat.zero_add, Nat.add_zero]) (by omega) (n3) ?_
          refine go_icmp_eq (tgt := 72) dX10_isNoted_67 (by decide) (fun c67 => ?_) (fun c67 => ?_)
          · refine go_iinc2 (c1 := 1) dX10_isNoted_72 rfl rfl ?_
            refine go_goto (tgt := 10) dX10_isNoted_75 (by decide) ?_
            exact go_cong (ih2 (fun j hji => by by_cases e : j = i; (· subst e; rintro ⟨q1, q2⟩; first | exact c29 (ek.mpr q1) | (rw [if_pos c49] at q2; exact q2 c67) | (rw [if_neg c49] at q2; exact q2 c67)); exact hh j (by omega))) (by simp [nI_1]) rfl
          · refine go_iconst (v := 0) dX10_isNoted_70 rfl ?_
            refine go_ireturn dX10_isNoted_71 rfl rfl (Nat.zero_le _) (Nat.zero_le _) ?_
            exact ⟨by rw [if_neg (fun q => by rw [hoT, decide_eq_true_eq] at q; exact fs_of_none q k hk (fun z => fs_of_none z i hi ⟨ek.mp (by first | exact c29 | exact Decidable.not_not.mp c29), by first | (rw [if_pos c49]; exact c67) | (rw [if_neg c49]; exact c67)⟩))], F, fun q => by rw [hoT, decide_eq_true_eq] at q; exact absurd (fun z => fs_of_none z i hi ⟨ek.mp (by first | exact c29 | exact Decidable.not_not.mp c29), by first | (rw [if_pos c49]; exact c67) | (rw [if_neg c49]; exact c67)⟩) (fs_of_none q k hk)⟩
        · refine go_iconst (v := 1) dX10_isNoted_52 rfl ?_
          refine go_goto (tgt := 57) dX10_isNoted_53 (by decide) ?_
          refine go_aloadn dX10_isNoted_57 rfl ?_
          refine sg_getR dX10_isNoted_58 fX10_84 rfl (mo_L rfl) hS (mo_r52 hS rfl) ?_
          refine go_iconst (v := 3) dX10_isNoted_61 rfl ?_
          refine go_iloadn dX10_isNoted_62 rfl ?_
          refine go_imul dX10_isNoted_63 ?_
          refine go_iconst (v := 2) dX10_isNoted_64 rfl ?_
          refine go_iadd dX10_isNoted_65 ?_
          refine sg_ialdN (i := 3 * i + 2) dX10_isNoted_66 (mo_52 rfl) hS (by simp only [lit_nI, nI_add, pk_mul, Nat.add_assoc, Nat.zero_add, Nat.add_zero]) (by omega) (n3) ?_
          refine go_icmp_eq (tgt := 72) dX10_isNoted_67 (by decide) (fun c67 => ?_) (fun c67 => ?_)
          · refine go_iinc2 (c1 := 1) dX10_isNoted_72 rfl rfl ?_
            refine go_goto (tgt := 10) dX10_isNoted_75 (by decide) ?_
            exact go_cong (ih2 (fun j hji => by by_cases e : j = i; (· subst e; rintro ⟨q1, q2⟩; first | exact c29 (ek.mpr q1) | (rw [if_pos c49] at q2; exact q2 c67) | (rw [if_neg c49] at q2; exact q2 c67)); exact hh j (by omega))) (by simp [nI_1]) rfl
          · refine go_iconst (v := 0) dX10_isNoted_70 rfl ?_
            refine go_ireturn dX10_isNoted_71 rfl rfl (Nat.zero_le _) (Nat.zero_le _) ?_
            exact ⟨by rw [if_neg (fun q => by rw [hoT, decide_eq_true_eq] at q; exact fs_of_none q k hk (fun z => fs_of_none z i hi ⟨ek.mp (by first | exact c29 | exact Decidable.not_not.mp c29), by first | (rw [if_pos c49]; exact c67) | (rw [if_neg c49]; exact c67)⟩))], F, fun q => by rw [hoT, decide_eq_true_eq] at q; exact absurd (fun z => fs_of_none z i hi ⟨ek.mp (by first | exact c29 | exact Decidable.not_not.mp c29), by first | (rw [if_pos c49]; exact c67) | (rw [if_neg c49]; exact c67)⟩) (fs_of_none q k hk)⟩
    · have nb : nbT Q (dnT C T' k) k = none := fs_none hh
      have day : ∀ g2, Fz SN h g2 → ME g2 as ar C T (dnT C T' k) → (10 < k + 1 → soN g2 C (dnT C T' 10)) → ∀ lo, Go l (rmOf (d + 7) (0, 0)) mX10_isNoted (hN h) (Zm (0, 0) (fun v h1 => v = some (.int (if hoT C Q T' = true then 1 else 0)) ∧ Fz SN h h1 ∧ (hoT C Q T' = true → soN h1 C (dnT C T' 10))) noX) 113 [some (.ref 77), some (.int (nI k)), lo] [] g2 0 0 := by
        intro g2 F2 H3 hs2 lo
        have hS := H3.1.1.1
        refine go_aloadn dX10_isNoted_113 rfl ?_
        refine go_bipush (v := 105) dX10_isNoted_114 rfl ?_
        refine sg_rV0 (M' := mX10_dayGoes) ([.int (nI 105)]) dX10_isNoted_116 lX10_343 vX10_dayGoes (mo_L rfl) (by decide) rfl hS (q_day' W H3 (V.dn W) (by rw [tD_dn]; omega)) rfl (Nat.le_of_ble_eq_true rfl) (Nat.zero_le _) (Nat.zero_le _) (fun g3 F3 => ?_)
        refine go_iinc1 (c1 := 1) dX10_isNoted_119 rfl rfl ?_
        refine go_goto (tgt := 2) dX10_isNoted_122 (by decide) ?_
        exact go_back (ih g3 ⟨⟨⟨F2.tr F3.1, F3.2.1⟩, fun j hj2 => by by_cases e : j = k; (· subst e; exact fun q => q nb); exact hj j (by omega)⟩, fun q t ht => by rw [F3.2.2 _ _ (by omega), F3.2.2 _ _ (by omega)]; exact hs2 q t ht⟩) (by simp [lsub, nI_1]) rfl
      by_cases e10 : k = 10
      · subst e10
        refine go_iloadn dX10_isNoted_10 rfl ?_
        refine go_aloadn dX10_isNoted_11 rfl ?_
        refine sg_getI dX10_isNoted_12 fX10_286 rfl (mo_L rfl) hS ?_
        rw [hQ2.1]
        refine go_icmp_ge (tgt := 78) dX10_isNoted_15 (by decide) (fun c15 => ?_) (fun c15 => absurd (nI_le (Nat.le_refl _) (by have := hQ2.2.1; omega)) c15)
        refine go_iloadn dX10_isNoted_78 rfl ?_
        refine go_bipush (v := 10) dX10_isNoted_79 rfl ?_
        refine go_icmp_ne (tgt := 113) dX10_isNoted_81 (by decide) (fun c81 => absurd rfl c81) (fun c81 => ?_)
        refine go_iconst (v := 0) dX10_isNoted_84 rfl ?_
        refine go_ist2 dX10_isNoted_85 rfl ?_
        skip
        refine go_loopR (lvf := fun j => [some (.ref 77), some (.int (nI 10)), some (.int (nI j))]) 20 (fun j g2 => Fz (fun a _ => a = 98) g g2 ∧ ∀ i, i < j → hI g2 98 i = hI g 91 (116 + i)) (fun j g2 hj2 hh ih3 => ?_) (fun g2 hh => ?_) 0 g (Nat.zero_le _) ⟨Fz.rf, fun _ q => absurd q (by omega)⟩
        · obtain ⟨F2, hz⟩ := hh
          have hS := F2.St H2.1.1.1
          refine go_iloadn dX10_isNoted_86 rfl ?_
          refine go_bipush (v := 20) dX10_isNoted_87 rfl ?_
          refine go_icmp_ge (tgt := 113) dX10_isNoted_89 (by decide) (fun c89 => absurd c89 (nI_ge (b := 20) hj2 (by decide))) (fun c89 => ?_)
          refine go_aloadn dX10_isNoted_92 rfl ?_
          refine sg_getR dX10_isNoted_93 fX10_87 rfl (mo_L rfl) hS (mo_r53 hS rfl) ?_
          refine go_iloadn dX10_isNoted_96 rfl ?_
          refine go_aloadn dX10_isNoted_97 rfl ?_
          refine sg_getR dX10_isNoted_98 fX10_66 rfl (mo_L rfl) hS (mo_r42 hS rfl) ?_
          refine go_bipush (v := 116) dX10_isNoted_101 rfl ?_
          refine go_iloadn dX10_isNoted_103 rfl ?_
          refine go_iadd dX10_isNoted_104 ?_
          refine sg_ialdN (i := 116 + j) (x := hI g 91 (116 + j)) dX10_isNoted_105 (mo_42 rfl) hS (by simp only [lit_nI, nI_add, pk_mul, Nat.add_assoc, Nat.zero_add, Nat.add_zero]) (by omega) ((F2.I (by omega))) ?_
          refine sg_iastN (i := j) dX10_isNoted_106 (mo_53 rfl) hS (by simp only [lit_nI, nI_add, pk_mul, Nat.add_assoc, Nat.zero_add, Nat.add_zero]) (by omega) ?_
          refine go_iinc2 (c1 := 1) dX10_isNoted_107 rfl rfl ?_
          refine go_goto (tgt := 86) dX10_isNoted_110 (by decide) ?_
          exact go_cong (ih3 _ ⟨F2.uI rfl, fun i hi => by rw [hI_uI]; by_cases z : i = j; (· subst z; rw [if_pos ⟨rfl, rfl⟩]); (rw [if_neg (by omega)]; exact hz i (by omega))⟩) (by simp [nI_1]) rfl
        · obtain ⟨F2, hz⟩ := hh
          have hS := F2.St H2.1.1.1
          have F4 : Fz SN g g2 := F2.sub (fun a k q => by unfold SN; omega)
          refine go_iloadn dX10_isNoted_86 rfl ?_
          refine go_bipush (v := 20) dX10_isNoted_87 rfl ?_
          refine go_icmp_ge (tgt := 113) dX10_isNoted_89 (by decide) (fun c89 => ?_) (fun c89 => absurd (by decide) c89)
          exact day g2 (F.tr F4) ⟨H2.1.sn W F4, H2.2.fz W F2 (fun _ _ _ => by omega)⟩ (fun _ t ht => And.intro (by rw [hz _ (by omega)]; exact (mB5 H2.2 ht).2.1) (by rw [hz _ (by omega), show 116 + (10 + t) = 126 + t from by omega]; exact (mB5 H2.2 ht).2.2.1)) _
      · refine go_iloadn dX10_isNoted_10 rfl ?_
        refine go_aloadn dX10_isNoted_11 rfl ?_
        refine sg_getI dX10_isNoted_12 fX10_286 rfl (mo_L rfl) hS ?_
        rw [hQ2.1]
        refine go_icmp_ge (tgt := 78) dX10_isNoted_15 (by decide) (fun c15 => ?_) (fun c15 => absurd (nI_le (Nat.le_refl _) (by have := hQ2.2.1; omega)) c15)
        refine go_iloadn dX10_isNoted_78 rfl ?_
        refine go_bipush (v := 10) dX10_isNoted_79 rfl ?_
        refine go_icmp_ne (tgt := 113) dX10_isNoted_81 (by decide) (fun c81 => ?_) (fun c81 => absurd ((nI_eq (b := 10) (by omega) (by decide)).mp c81) e10)
        exact day g F H2 (fun q => hs (by omega)) _
  · obtain ⟨⟨⟨F, H2⟩, hj⟩, hs⟩ := hh
    have ho : hoT C Q T' = true := by rw [hoT, decide_eq_true_eq]; exact fs_none hj
    refine go_iloadn dX10_isNoted_2 rfl ?_
    refine go_bipush (v := 30) dX10_isNoted_3 rfl ?_
    refine go_icmp_gt (tgt := 125) dX10_isNoted_5 (by decide) (fun c5 => ?_) (fun c5 => absurd (by decide) c5)
    refine go_iconst (v := 1) dX10_isNoted_125 rfl ?_
    refine go_ireturn dX10_isNoted_126 rfl rfl (Nat.zero_le _) (Nat.zero_le _) ?_
    exact ⟨by rw [if_pos ho], F, fun _ => hs (by omega)⟩
