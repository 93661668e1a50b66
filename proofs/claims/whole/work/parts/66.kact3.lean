/-! days, undo, what is noted, the image, the tape -/
/-- so many changes more -/
def aX (x : Int32) (T : Tn) : Tn := (tD T, x + tC T, T.2.2)
theorem wd_aX {C : Cy} {T : Tn} {t w : Nat} {lk x : Int32} : wdT C t w lk (aX x T) = aX x (wdT C t w lk T) := by
  unfold wdT
  by_cases a : lk = 0
  · rw [if_pos a, if_pos a]; rfl
  · rw [if_neg a, if_neg a]
    have e : tS (aX x T) t = tS T t := rfl
    by_cases b : tS T t + 1 < nI (cM C)
    · rw [e, if_pos b, if_pos b]; rfl
    · rw [e, if_neg b, if_neg b]
      show (_, x + tC T + 1, _) = (_, x + (tC T + 1), _)
      rw [Int32.add_assoc]; rfl
theorem d1_aX {C : Cy} {T : Tn} {t : Nat} {fog x : Int32} : d1T C fog t (aX x T) = aX x (d1T C fog t T) := by
  unfold d1T
  have e : tB (aX x T) t = tB T t := rfl
  rw [e]
  by_cases a : tB T t = -1
  · rw [if_pos a, if_pos a]
  · rw [if_neg a, if_neg a, wd_aX]; rfl
theorem dA_aX {C : Cy} {T : Tn} {fog x : Int32} {k : Nat} : d1A C fog (aX x T) k = aX x (d1A C fog T k) := by
  induction k with
  | zero => rfl
  | succ k ih =>
    show d1T C fog k (d1A C fog (aX x T) k) = aX x (d1T C fog k (d1A C fog T k))
    rw [ih, d1_aX]
theorem day_aX {C : Cy} {T : Tn} {fog x : Int32} : dayT C fog (aX x T) = aX x (dayT C fog T) := by
  unfold dayT
  rw [dA_aX]; rfl
theorem dn_aX {C : Cy} {T : Tn} {x : Int32} {k : Nat} : dnT C (aX x T) k = aX x (dnT C T k) := by
  induction k with
  | zero => rfl
  | succ k ih =>
    show dayT C 0 (dnT C (aX x T) k) = aX x (dayT C 0 (dnT C T k))
    rw [ih, day_aX]
theorem sX_aX {T : Tn} {x : Int32} : sX x T = aX x (t0 T) := by
  show (_, x, _) = (_, x + 0, _)
  rw [Int32.add_zero]; rfl
theorem aX_sX {T : Tn} {x : Int32} : aX x T = sX (x + tC T) T := rfl
theorem wd_V {C : Cy} {T : Tn} {t w : Nat} {lk : Int32} : tV (wdT C t w lk T) = tV T ∧ tW (wdT C t w lk T) = tW T := by
  unfold wdT
  split
  · exact ⟨rfl, rfl⟩
  · split <;> exact ⟨rfl, rfl⟩
theorem dA_V {C : Cy} {T : Tn} {fog : Int32} {k : Nat} : tV (d1A C fog T k) = tV T ∧ tW (d1A C fog T k) = tW T := by
  induction k with
  | zero => exact ⟨rfl, rfl⟩
  | succ k ih =>
    have e : d1A C fog T (k + 1) = d1T C fog k (d1A C fog T k) := rfl
    rw [e, ← ih.1, ← ih.2]
    generalize d1A C fog T k = T1
    unfold d1T
    split
    · exact ⟨rfl, rfl⟩
    · exact wd_V
theorem day_V {C : Cy} {T : Tn} {fog : Int32} : tV (dayT C fog T) = tV T ∧ tW (dayT C fog T) = tW T := dA_V (C := C) (T := T) (fog := fog) (k := cN C)
theorem dn_V {C : Cy} {T : Tn} {k : Nat} : tV (dnT C T k) = tV T := by
  induction k with
  | zero => rfl
  | succ k ih => exact (day_V (C := C) (T := dnT C T k) (fog := 0)).1.trans ih
theorem r_day30 {l : Launch} {d c fs fr : Nat} {C : Cy} {T : Tn} {h : Hp} {fog : Int32} (W : WC C) (H : TV h 30 c fs fr C T) (hD : tD T + 1 < 2 ^ 30) : Ey l (d + 5) mX6_passDay [.ref 30, .int fog] h none (fun g => FrT 30 h g ∧ TV g 30 c fs fr C (dayT C fog T)) :=
  (r_passDay H.1).y.mono (fun g q => by rw [q]; exact ⟨fr_pdH, H.pd W hD⟩)
def oDays (S : Sx) (n : Int32) : Sa := if (1 ≤ n ∧ n ≤ 20) ∧ tD (sT S) + n.toNatClampNeg ≤ 9999 then (0, nI (tD (sT S) + n.toNatClampNeg), kpS S (dnT (sC S) (t0 (sT S)) n.toNatClampNeg)) else (0, -1, rfS 1 S)
theorem k_days {l : Launch} {d : Nat} {n : Int32} {S : Sx} {h : Hp} (W : WS S) (K : KI h S) : Ka l (d + 7) mX9_days [.ref 0, .int n] h (oDays S n) := by
  have K0 := K
  obtain ⟨c, c', fs, fr, z, h0, ⟨hbc, H, hv⟩, R⟩ := K
  obtain ⟨F, hF⟩ := id R.1
  obtain ⟨hc, -, hS⟩ := H.hc
  have hD := H.1.2.2.2.2.1
  have hD9 := W.2.1.2.2.1
  obtain ⟨K1, R1⟩ := kp_ok W ⟨hbc, H, hv⟩ R hF
  have hD : hI h 30 1 = nI (tD (sT S)) := hD
  refine run_lv [some (.ref 0), some (.int n), none] (go := ?_)
  unfold oDays
  by_cases q : 1 ≤ n ∧ n ≤ 20
  · obtain ⟨j, hj1, hj, rfl⟩ := rg_nI (a := 1) (b := 20) rfl rfl (by decide) (by decide) q
    rw [cl_nI (show j < 2 ^ 31 by omega)]
    by_cases q2 : tD (sT S) + j ≤ 9999
    · rw [if_pos ⟨q, q2⟩]
      refine go_iloadn dX9_days_0 rfl ?_
      refine go_iconst (v := 1) dX9_days_1 rfl ?_
      refine go_icmp_lt (tgt := 26) dX9_days_2 (by decide) (fun c2 => absurd c2 (Int32.not_lt.mpr q.1)) (fun c2 => ?_)
      refine go_iloadn dX9_days_5 rfl ?_
      refine go_bipush (v := 20) dX9_days_6 rfl ?_
      refine go_icmp_gt (tgt := 26) dX9_days_8 (by decide) (fun c8 => absurd c8 (Int32.not_lt.mpr q.2)) (fun c8 => ?_)
      refine go_aloadn dX9_days_11 rfl ?_
      refine sg_getR dX9_days_12 fX9_41 rfl (wo_L rfl) hS (wo_r7 hS rfl) ?_
      refine sg_getI dX9_days_15 fX9_147 rfl (tw_L (at30)) hS ?_
      rw [hD]
      refine go_iloadn dX9_days_18 rfl ?_
      refine go_iadd dX9_days_19 ?_
      rw [nI_add]
      refine go_sipush (v := 9999) dX9_days_20 rfl ?_
      refine go_icmp_le (tgt := 33) dX9_days_23 (by decide) (fun c23 => ?_) (fun c23 => absurd (nI_le (b := 9999) q2 (by decide)) c23)
      refine go_aloadn dX9_days_33 rfl ?_
      refine sg_getR dX9_days_34 fX9_48 rfl (wo_L rfl) hS (wo_r8 hS rfl) ?_
      refine go_aloadn dX9_days_37 rfl ?_
      refine sg_getR dX9_days_38 fX9_41 rfl (wo_L rfl) hS (wo_r7 hS rfl) ?_
      refine sg_cV0 (M' := mX0_keep) ([.ref 30]) dX9_days_41 lX9_217 vX0_keep (ac_L (at42)) (by decide) rfl hS (r_keep hS at42 at30 hF.1) rfl (Nat.le_of_ble_eq_true rfl) (Nat.zero_le _) (Nat.zero_le _) ?_
      refine go_iconst (v := 0) dX9_days_44 rfl ?_
      refine go_ist2 dX9_days_45 rfl ?_
      skip
      refine go_loopR (lvf := fun k => [some (.ref 0), some (.int (nI j)), some (.int (nI k))]) j (fun k g => FrT 30 (kpH h 42 30 F (sA S).length) g ∧ TV g 30 c fs fr (sC S) (dnT (sC S) (sX z (sT S)) k)) (fun k g hk hh ih => ?_) (fun g hh => ?_) 0 _ (Nat.zero_le _) ⟨FrT.rf, K1.2.1⟩
      · obtain ⟨F1, H2⟩ := hh
        have hS := H2.hc.2.2
        refine go_iloadn dX9_days_46 rfl ?_
        refine go_iloadn dX9_days_47 rfl ?_
        refine go_icmp_ge (tgt := 65) dX9_days_48 (by decide) (fun c48 => absurd c48 (nI_ge hk (by omega))) (fun c48 => ?_)
        refine go_aloadn dX9_days_51 rfl ?_
        refine sg_getR dX9_days_52 fX9_41 rfl (wo_L rfl) hS (wo_r7 hS rfl) ?_
        refine go_iconst (v := 0) dX9_days_55 rfl ?_
        refine sg_rV0 (M' := mX6_passDay) ([.int 0]) dX9_days_56 lX9_221 vX6_passDay (tw_L (at30)) (by decide) rfl hS (r_day30 W.1 H2 (by rw [tD_dn]; show tD (sT S) + k + 1 < 2 ^ 30; omega)) rfl (Nat.le_of_ble_eq_true rfl) (Nat.zero_le _) (Nat.zero_le _) (fun g' F' => ?_)
        refine go_iinc2 (c1 := 1) dX9_days_59 rfl rfl ?_
        refine go_goto (tgt := 46) dX9_days_62 (by decide) ?_
        exact go_cong (ih g' ⟨F1.tr F'.1, F'.2⟩) (by simp [nI_1]) rfl
      · obtain ⟨F1, H2⟩ := hh
        have hS := H2.hc.2.2
        have hDn : hI g 30 1 = nI (tD (sT S) + j) := by have := H2.1.2.2.2.2.1; rw [tD_dn] at this; exact this
        rw [sX_aX, dn_aX, aX_sX] at H2
        have hVn : ∀ p, p < cP (sC S) → tV (dnT (sC S) (t0 (sT S)) j) p = tV (sT S) p := fun p _ => congrFun (dn_V (T := t0 (sT S))) p
        refine go_iloadn dX9_days_46 rfl ?_
        refine go_iloadn dX9_days_47 rfl ?_
        refine go_icmp_ge (tgt := 65) dX9_days_48 (by decide) (fun c48 => ?_) (fun c48 => absurd (nI_le (Nat.le_refl _) (by omega)) c48)
        refine go_aloadn dX9_days_65 rfl ?_
        refine sg_getR dX9_days_66 fX9_41 rfl (wo_L rfl) hS (wo_r7 hS rfl) ?_
        refine sg_getI dX9_days_69 fX9_147 rfl (tw_L (at30)) hS ?_
        rw [hDn]
        refine go_ireturn dX9_days_72 rfl rfl (Nat.zero_le _) (Nat.zero_le _) ?_
        exact ⟨⟨rfl, rfl⟩, ⟨c, c', fs, fr, _, ⟨h0.1, h0.2.1, by rw [F1.1, fr_kp.1]; exact h0.2.2⟩, ⟨by rw [F1.1, fr_kp.1]; exact hbc, H2, fun p hp => by rw [F1.2.2.2 _ _ (tt_c at30 hc (by omega)), K1.2.2 p hp]; exact (hVn p hp).symm⟩, R1.town (Or.inl F1)⟩, (Fw.fr (fr_kp (F := F)) (fun a q => by omega)).tr (Fw.fr (S := Tt 30) F1 (fun a q => by unfold Tt at q; omega))⟩
    · rw [if_neg (fun z => q2 z.2)]
      refine go_iloadn dX9_days_0 rfl ?_
      refine go_iconst (v := 1) dX9_days_1 rfl ?_
      refine go_icmp_lt (tgt := 26) dX9_days_2 (by decide) (fun c2 => absurd c2 (Int32.not_lt.mpr q.1)) (fun c2 => ?_)
      refine go_iloadn dX9_days_5 rfl ?_
      refine go_bipush (v := 20) dX9_days_6 rfl ?_
      refine go_icmp_gt (tgt := 26) dX9_days_8 (by decide) (fun c8 => absurd c8 (Int32.not_lt.mpr q.2)) (fun c8 => ?_)
      refine go_aloadn dX9_days_11 rfl ?_
      refine sg_getR dX9_days_12 fX9_41 rfl (wo_L rfl) hS (wo_r7 hS rfl) ?_
      refine sg_getI dX9_days_15 fX9_147 rfl (tw_L (at30)) hS ?_
      rw [hD]
      refine go_iloadn dX9_days_18 rfl ?_
      refine go_iadd dX9_days_19 ?_
      rw [nI_add]
      refine go_sipush (v := 9999) dX9_days_20 rfl ?_
      refine go_icmp_le (tgt := 33) dX9_days_23 (by decide) (fun c23 => absurd ((nI_leI (b := 9999) (by omega) (by decide)).mp c23) q2) (fun c23 => ?_)
      refine go_aloadn dX9_days_26 rfl ?_
      refine go_iconst (v := 1) dX9_days_27 rfl ?_
      refine go_iconst (v := -1) dX9_days_28 rfl ?_
      refine sg_cVi (M' := mX9_refuse) ([.int (nI 1), .int (-1)]) dX9_days_29 lX9_119 vX9_refuse (wo_L rfl) (by decide) rfl hS (r_refuse hS (by decide)) rfl (Nat.le_of_ble_eq_true rfl) (Nat.zero_le _) (Nat.zero_le _) ?_
      refine go_ireturn dX9_days_32 rfl rfl (Nat.zero_le _) (Nat.zero_le _) ?_
      exact ⟨⟨rfl, rfl⟩, K0.rf (by decide), Fw.rf.uI (by decide)⟩
  · rw [if_neg (fun z => q z.1)]
    refine go_iloadn dX9_days_0 rfl ?_
    refine go_iconst (v := 1) dX9_days_1 rfl ?_
    refine go_icmp_lt (tgt := 26) dX9_days_2 (by decide) (fun c2 => ?_) (fun c2 => ?_)
    · refine go_aloadn dX9_days_26 rfl ?_
      refine go_iconst (v := 1) dX9_days_27 rfl ?_
      refine go_iconst (v := -1) dX9_days_28 rfl ?_
      refine sg_cVi (M' := mX9_refuse) ([.int (nI 1), .int (-1)]) dX9_days_29 lX9_119 vX9_refuse (wo_L rfl) (by decide) rfl hS (r_refuse hS (by decide)) rfl (Nat.le_of_ble_eq_true rfl) (Nat.zero_le _) (Nat.zero_le _) ?_
      refine go_ireturn dX9_days_32 rfl rfl (Nat.zero_le _) (Nat.zero_le _) ?_
      exact ⟨⟨rfl, rfl⟩, K0.rf (by decide), Fw.rf.uI (by decide)⟩
    · refine go_iloadn dX9_days_5 rfl ?_
      refine go_bipush (v := 20) dX9_days_6 rfl ?_
      refine go_icmp_gt (tgt := 26) dX9_days_8 (by decide) (fun c8 => ?_) (fun c8 => ?_)
      · refine go_aloadn dX9_days_26 rfl ?_
        refine go_iconst (v := 1) dX9_days_27 rfl ?_
        refine go_iconst (v := -1) dX9_days_28 rfl ?_
        refine sg_cVi (M' := mX9_refuse) ([.int (nI 1), .int (-1)]) dX9_days_29 lX9_119 vX9_refuse (wo_L rfl) (by decide) rfl hS (r_refuse hS (by decide)) rfl (Nat.le_of_ble_eq_true rfl) (Nat.zero_le _) (Nat.zero_le _) ?_
        refine go_ireturn dX9_days_32 rfl rfl (Nat.zero_le _) (Nat.zero_le _) ?_
        exact ⟨⟨rfl, rfl⟩, K0.rf (by decide), Fw.rf.uI (by decide)⟩
      · exact absurd ⟨Int32.not_lt.mp c2, Int32.not_lt.mp c8⟩ q
