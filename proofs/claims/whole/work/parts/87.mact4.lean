/-! the model's acts: walks, notes, the image -/
theorem m_walk {l : Launch} {d : Nat} {x i v : Int32} {S : Sx} {h : Hp} (W : WS S) (K : MV h S) : Mo l (d + 3) mX10_walk [.ref 77, .int x, .int i, .int v] h (oWalk S x i v) := by
  have hS := K.St
  have hN1 := W.1.1.1
  have hP := W.1.1.2.1
  refine run_lv [some (.ref 77), some (.int x), some (.int i), some (.int v), none, none] (go := ?_)
  unfold oWalk
  refine go_aloadn dX10_walk_0 rfl ?_
  refine go_iconst (v := 0) dX10_walk_1 rfl ?_
  refine sg_putI dX10_walk_2 fX10_102 rfl rfl (mo_L rfl) hS ?_
  have hF : Fz SM h (uI h 77 0 0) := Fz.rf.uI sm0
  have KM := K.sm W.1 hF
  have h0 : hI (uI h 77 0 0) 77 0 = 0 := hI_uI_eq
  generalize uI h 77 0 0 = h1 at *
  have hS := KM.St
  obtain ⟨as, ar, H, KR⟩ := id KM
  refine go_aloadn dX10_walk_5 rfl ?_
  refine go_iloadn dX10_walk_6 rfl ?_
  refine sg_mna (M' := mX10_isPerson) ([.int x]) dX10_walk_7 lX10_362 vX10_isPerson (mo_L rfl) (by decide) rfl hS (q_isPerson H.1 h0).1 (q_isPerson H.1 h0).2 rfl (Nat.le_of_ble_eq_true rfl) (fun k7 => ?_) (fun k7 => ?_)
  · refine go_if_eq (tgt := 52) dX10_walk_10 (by decide) (fun _ => ?_) (fun c => absurd rfl c)
    refine go_iconst (v := 0) dX10_walk_52 rfl ?_
    refine go_ireturn dX10_walk_53 rfl rfl (Nat.zero_le _) (Nat.zero_le _) ?_
    exact ⟨⟨0, rfl, fun q => absurd q (show ¬ (1 : Nat) = 0 by decide)⟩, hI_uI_eq, KM.sm W.1 (Fz.rf.uI sm0), (hF.uI sm0).sa⟩
  refine go_if_eq (tgt := 52) dX10_walk_10 (by decide) (fun c10 => absurd c10 (by decide)) (fun c10 => ?_)
  skip
  obtain ⟨p, hp, rfl⟩ := ok_nI (by omega) k7
  rw [cl_nI (show p < 2 ^ 31 by omega)]
  have hwl := (H.1.2.2.2.1 p hp).1
  have wl6 := (W.1.2.1 p hp).2
  have e45 : ∀ u : Int32, u = (if okX (cWl (sC S) p) i ∧ okX (cL (sC S)) v then 1 else 0) → Go l (rmOf (d + 3) (0, 0)) mX10_walk (hN h) (Zm (0, 0) (Qx (ndS (okX (cWl (sC S) p) i ∧ okX (cL (sC S)) v) S (if tW (sT S) (6 * p + i.toNatClampNeg) = v then (0, -1, rfS 1 S) else (0, tW (sT S) (6 * p + i.toNatClampNeg), kpS S (wkT (6 * p + i.toNatClampNeg) v (sT S))))) h) noX) 45 [some (.ref 77), some (.int (nI p)), some (.int i), some (.int v), none, none] [.int u, .ref 77] h1 0 0 := by
    intro u hu
    subst hu
    refine go_iconst (v := 1) dX10_walk_45 rfl ?_
    refine sg_mna (M' := mX10_right) ([.int _, .int (nI 1)]) dX10_walk_46 lX10_266 vX10_right (mo_L rfl) (by decide) rfl hS (q_right hS h0 (by decide) (by decide)).1 (q_right hS h0 (by decide) (by decide)).2 rfl (Nat.le_of_ble_eq_true rfl) (fun k46 => ?_) (fun k46 => ?_)
    · refine go_if_ne (tgt := 54) dX10_walk_49 (by decide) (fun c => absurd rfl c) (fun _ => ?_)
      refine go_iconst (v := 0) dX10_walk_52 rfl ?_
      refine go_ireturn dX10_walk_53 rfl rfl (Nat.zero_le _) (Nat.zero_le _) ?_
      exact ⟨⟨0, rfl, fun q => absurd q (show ¬ (1 : Nat) = 0 by decide)⟩, hI_uI_eq, KM.sm W.1 (Fz.rf.uI sm0), (hF.uI sm0).sa⟩
    refine go_if_ne (tgt := 54) dX10_walk_49 (by decide) (fun c49 => ?_) (fun c49 => absurd c49 (by decide))
    skip
    obtain ⟨k, hk, rfl⟩ := ok_nI (by omega) k46.1
    rw [cl_nI (show k < 2 ^ 31 by omega)]
    have e57 : (57 : Int32) + 6 * nI p + nI k = nI (57 + (6 * p + k)) := by
      rw [show (57 : Int32) = nI 57 from rfl, show (6 : Int32) = nI 6 from rfl, pk_mul, nI_add, nI_add, Nat.add_assoc]
    have hw := H.2.1.2.2.2 (6 * p + k) (by omega)
    rw [Nat.zero_add] at hw
    by_cases z : tW (sT S) (6 * p + k) = v
    · rw [if_pos z]
      refine go_bipush (v := 57) dX10_walk_54 rfl ?_
      refine go_bipush (v := 6) dX10_walk_56 rfl ?_
      refine go_iloadn dX10_walk_58 rfl ?_
      refine go_imul dX10_walk_59 ?_
      refine go_iadd dX10_walk_60 ?_
      refine go_iloadn dX10_walk_61 rfl ?_
      refine go_iadd dX10_walk_62 ?_
      rw [e57]
      refine go_ist4 dX10_walk_63 rfl ?_
      refine go_aloadn dX10_walk_65 rfl ?_
      refine sg_getR dX10_walk_66 fX10_66 rfl (mo_L rfl) hS (mo_r42 hS rfl) ?_
      refine go_iload dX10_walk_69 rfl ?_
      refine sg_ialdN (i := 57 + (6 * p + k)) dX10_walk_71 (mo_42 rfl) hS (by simp only [lit_nI, nI_add, pk_mul, Nat.add_assoc, Nat.zero_add, Nat.add_zero]) (by omega) (hw) ?_
      refine go_ist5 dX10_walk_72 rfl ?_
      refine go_iload dX10_walk_74 rfl ?_
      refine go_iloadn dX10_walk_76 rfl ?_
      refine go_icmp_ne (tgt := 86) dX10_walk_77 (by decide) (fun c77 => absurd z c77) (fun c77 => ?_)
      refine go_aloadn dX10_walk_80 rfl ?_
      refine go_iconst (v := 1) dX10_walk_81 rfl ?_
      refine sg_cVi (M' := mX10_refuses) ([.int (nI 1)]) dX10_walk_82 lX10_380 vX10_refuses (mo_L rfl) (by decide) rfl hS (q_refuses hS (by decide)) rfl (Nat.le_of_ble_eq_true rfl) (Nat.zero_le _) (Nat.zero_le _) ?_
      refine go_ireturn dX10_walk_85 rfl rfl (Nat.zero_le _) (Nat.zero_le _) ?_
      exact qo_ok rfl (by rw [hI_uI_ne (by omega)]; exact h0) (KM.rf W.1 (by decide)) (hF.sa.uI (by unfold SA; omega))
    · rw [if_neg z]
      refine go_bipush (v := 57) dX10_walk_54 rfl ?_
      refine go_bipush (v := 6) dX10_walk_56 rfl ?_
      refine go_iloadn dX10_walk_58 rfl ?_
      refine go_imul dX10_walk_59 ?_
      refine go_iadd dX10_walk_60 ?_
      refine go_iloadn dX10_walk_61 rfl ?_
      refine go_iadd dX10_walk_62 ?_
      rw [e57]
      refine go_ist4 dX10_walk_63 rfl ?_
      refine go_aloadn dX10_walk_65 rfl ?_
      refine sg_getR dX10_walk_66 fX10_66 rfl (mo_L rfl) hS (mo_r42 hS rfl) ?_
      refine go_iload dX10_walk_69 rfl ?_
      refine sg_ialdN (i := 57 + (6 * p + k)) dX10_walk_71 (mo_42 rfl) hS (by simp only [lit_nI, nI_add, pk_mul, Nat.add_assoc, Nat.zero_add, Nat.add_zero]) (by omega) (hw) ?_
      refine go_ist5 dX10_walk_72 rfl ?_
      refine go_iload dX10_walk_74 rfl ?_
      refine go_iloadn dX10_walk_76 rfl ?_
      refine go_icmp_ne (tgt := 86) dX10_walk_77 (by decide) (fun c77 => ?_) (fun c77 => absurd c77 z)
      refine go_aloadn dX10_walk_86 rfl ?_
      refine sg_rV0 (M' := mX10_keeps) ([]) dX10_walk_87 lX10_383 vX10_keeps (mo_L rfl) (by decide) rfl hS (q_keeps W.1 H KR.1) rfl (Nat.le_of_ble_eq_true rfl) (Nat.zero_le _) (Nat.zero_le _) (fun g F => ?_)
      have hS := F.1.St hS
      refine go_aloadn dX10_walk_90 rfl ?_
      refine sg_getR dX10_walk_91 fX10_66 rfl (mo_L rfl) hS (mo_r42 hS rfl) ?_
      refine go_iload dX10_walk_94 rfl ?_
      refine go_iloadn dX10_walk_96 rfl ?_
      refine sg_iastN (i := 57 + (6 * p + k)) dX10_walk_97 (mo_42 rfl) hS (by simp only [lit_nI, nI_add, pk_mul, Nat.add_assoc, Nat.zero_add, Nat.add_zero]) (by omega) ?_
      refine go_iload dX10_walk_98 rfl ?_
      refine go_ireturn dX10_walk_100 rfl rfl (Nat.zero_le _) (Nat.zero_le _) ?_
      exact (have HB := H.sh W.1 F.1; have hx := mt_W (k := 6 * p + k) (v := v) W.1 HB.2.1; have e0 : 0 + (57 + (6 * p + k)) = 57 + (6 * p + k) := Nat.zero_add _; qo_ok rfl (by rw [hI_uI_ne (by omega), F.1.I (by unfold SH; omega)]; exact h0) (mv_kp W.1 KR F.1.hk F.2 (Fz.rf.uI (Or.inr rfl)) (MB.row W.1 HB (by rw [e0] at hx; exact hx))) (hF.sa.tr (F.1.hk.ka.uI sa91)))
  refine go_aloadn dX10_walk_13 rfl ?_
  refine go_iloadn dX10_walk_14 rfl ?_
  refine go_if_lt (tgt := 44) dX10_walk_15 (by decide) (fun c15 => ?_) (fun c15 => ?_)
  · refine go_iconst (v := 0) dX10_walk_44 rfl ?_
    first | exact e45 1 (if_pos (And.intro (And.intro (Int32.not_lt.mp c15) (Int32.not_le.mp c25)) (And.intro (Int32.not_lt.mp c29) (Int32.not_le.mp c37)))).symm | exact e45 0 (if_neg (fun q => c37 q.2.2)).symm | exact e45 0 (if_neg (fun q => absurd q.2.2 (Int32.not_lt.mpr c37))).symm | exact e45 0 (if_neg (fun q => absurd c29 (Int32.not_lt.mpr q.2.1))).symm | exact e45 0 (if_neg (fun q => absurd q.1.2 (Int32.not_lt.mpr c25))).symm | exact e45 0 (if_neg (fun q => absurd c15 (Int32.not_lt.mpr q.1.1))).symm
  · refine go_iloadn dX10_walk_18 rfl ?_
    refine go_aloadn dX10_walk_19 rfl ?_
    refine sg_getR dX10_walk_20 fX10_22 rfl (mo_L rfl) hS (mo_r7 hS rfl) ?_
    refine go_iloadn dX10_walk_23 rfl ?_
    refine sg_ialdN (i := p) dX10_walk_24 (mo_7 rfl) hS (by simp only [lit_nI, nI_add, pk_mul, Nat.add_assoc, Nat.zero_add, Nat.add_zero]) (by omega) (hwl) ?_
    refine go_icmp_ge (tgt := 44) dX10_walk_25 (by decide) (fun c25 => ?_) (fun c25 => ?_)
    · refine go_iconst (v := 0) dX10_walk_44 rfl ?_
      first | exact e45 1 (if_pos (And.intro (And.intro (Int32.not_lt.mp c15) (Int32.not_le.mp c25)) (And.intro (Int32.not_lt.mp c29) (Int32.not_le.mp c37)))).symm | exact e45 0 (if_neg (fun q => c37 q.2.2)).symm | exact e45 0 (if_neg (fun q => absurd q.2.2 (Int32.not_lt.mpr c37))).symm | exact e45 0 (if_neg (fun q => absurd c29 (Int32.not_lt.mpr q.2.1))).symm | exact e45 0 (if_neg (fun q => absurd q.1.2 (Int32.not_lt.mpr c25))).symm | exact e45 0 (if_neg (fun q => absurd c15 (Int32.not_lt.mpr q.1.1))).symm
    · refine go_iloadn dX10_walk_28 rfl ?_
      refine go_if_lt (tgt := 44) dX10_walk_29 (by decide) (fun c29 => ?_) (fun c29 => ?_)
      · refine go_iconst (v := 0) dX10_walk_44 rfl ?_
        first | exact e45 1 (if_pos (And.intro (And.intro (Int32.not_lt.mp c15) (Int32.not_le.mp c25)) (And.intro (Int32.not_lt.mp c29) (Int32.not_le.mp c37)))).symm | exact e45 0 (if_neg (fun q => c37 q.2.2)).symm | exact e45 0 (if_neg (fun q => absurd q.2.2 (Int32.not_lt.mpr c37))).symm | exact e45 0 (if_neg (fun q => absurd c29 (Int32.not_lt.mpr q.2.1))).symm | exact e45 0 (if_neg (fun q => absurd q.1.2 (Int32.not_lt.mpr c25))).symm | exact e45 0 (if_neg (fun q => absurd c15 (Int32.not_lt.mpr q.1.1))).symm
      · refine go_iloadn dX10_walk_32 rfl ?_
        refine go_aloadn dX10_walk_33 rfl ?_
        refine sg_getI dX10_walk_34 fX10_7 rfl (mo_L rfl) hS ?_
        rw [H.1.2.1.1]
        refine go_icmp_ge (tgt := 44) dX10_walk_37 (by decide) (fun c37 => ?_) (fun c37 => ?_)
        · refine go_iconst (v := 0) dX10_walk_44 rfl ?_
          first | exact e45 1 (if_pos (And.intro (And.intro (Int32.not_lt.mp c15) (Int32.not_le.mp c25)) (And.intro (Int32.not_lt.mp c29) (Int32.not_le.mp c37)))).symm | exact e45 0 (if_neg (fun q => c37 q.2.2)).symm | exact e45 0 (if_neg (fun q => absurd q.2.2 (Int32.not_lt.mpr c37))).symm | exact e45 0 (if_neg (fun q => absurd c29 (Int32.not_lt.mpr q.2.1))).symm | exact e45 0 (if_neg (fun q => absurd q.1.2 (Int32.not_lt.mpr c25))).symm | exact e45 0 (if_neg (fun q => absurd c15 (Int32.not_lt.mpr q.1.1))).symm
        · refine go_iconst (v := 1) dX10_walk_40 rfl ?_
          refine go_goto (tgt := 45) dX10_walk_41 (by decide) ?_
          first | exact e45 1 (if_pos (And.intro (And.intro (Int32.not_lt.mp c15) (Int32.not_le.mp c25)) (And.intro (Int32.not_lt.mp c29) (Int32.not_le.mp c37)))).symm | exact e45 0 (if_neg (fun q => c37 q.2.2)).symm | exact e45 0 (if_neg (fun q => absurd q.2.2 (Int32.not_lt.mpr c37))).symm | exact e45 0 (if_neg (fun q => absurd c29 (Int32.not_lt.mpr q.2.1))).symm | exact e45 0 (if_neg (fun q => absurd q.1.2 (Int32.not_lt.mpr c25))).symm | exact e45 0 (if_neg (fun q => absurd c15 (Int32.not_lt.mpr q.1.1))).symm
theorem MVr.notes {h g : Hp} {C : Cy} {A : List Tn} {Q Q' : Nt} {I : Option (Tn × List Tn × Nt)} {P : Nat × (Nat → Nat)} {f : Int32} {R : Nat → Int32} (K : MVr h C A Q I P f R) (F : Fz (fun a k => SM a k ∨ a = 97 ∨ (a = 77 ∧ k = 51)) h g) (hQ : MN g (cN C) Q') : MVr g C A Q' I P f R := by
  obtain ⟨h1, h2, h3, ⟨h4, h5⟩, h6, h7⟩ := K
  have e92 : hI g 92 = hI h 92 := funext fun k => F.I (by unfold SM; omega)
  refine ⟨by rw [e92, F.I (by unfold SM; omega)]; exact h1, hQ, h3.eq (fun k a q => F.I (by unfold SM; omega)), ⟨by rw [F.I (by unfold SM; omega)]; exact h4, fun i hi => by rw [F.I (by unfold SM; omega)]; exact h5 i hi⟩, by rw [F.I (by unfold SM; omega)]; exact h6, fun i hi => by rw [F.I (by unfold SM; omega)]; exact h7 i hi⟩
theorem MB.nt {h g : Hp} {as ar : Nat} {C : Cy} {T : Tn} (W : WC C) (H : MB h as ar C T) (F : Fz (fun a k => SM a k ∨ a = 97 ∨ (a = 77 ∧ k = 51)) h g) : MB g as ar C T := ⟨H.1.fz F (fun a k q => by unfold SM at q; omega), H.2.1.fz W F (fun k _ _ => by unfold SM; omega), by rw [F.I (by unfold SM; omega)]; exact H.2.2⟩
theorem Fz.na {h g : Hp} (F : Fz (fun a k => SM a k ∨ a = 97 ∨ (a = 77 ∧ k = 51)) h g) : Fz SA h g := F.sub (fun a k q => by unfold SM at q; unfold SA; omega)
theorem mn_add {h : Hp} {N t n : Nat} {v : Int32} {Q : Nt} (H : MN h N Q) (h8 : qM Q < 8) (ht : t < N) (hn : n ≤ 30) : MN (uI (uI (uI (uI h 97 (3 * qM Q) (nI t)) 97 (3 * qM Q + 1) (nI n)) 97 (3 * qM Q + 2) v) 77 51 (nI (qM Q + 1))) N (ntQ Q t n v) := by
  obtain ⟨h1, h2, h3⟩ := H
  refine ⟨hI_uI_eq, by show qM Q + 1 ≤ 8; omega, fun i hi => ?_⟩
  have hi : i < qM Q + 1 := hi
  show _ = nI (if i = qM Q then t else qT Q i) ∧ _ = nI (if i = qM Q then n else qD Q i) ∧ _ = (if i = qM Q then v else qW Q i) ∧ (if i = qM Q then t else qT Q i) < N ∧ (if i = qM Q then n else qD Q i) ≤ 30
  by_cases z : i = qM Q
  · rw [if_pos z, if_pos z, if_pos z, z]
    exact ⟨by rw [hI_uI_ne (by omega), hI_uI_ne (by omega), hI_uI_ne (by omega), hI_uI_eq], by rw [hI_uI_ne (by omega), hI_uI_ne (by omega), hI_uI_eq], by rw [hI_uI_ne (by omega), hI_uI_eq], ht, hn⟩
  · rw [if_neg z, if_neg z, if_neg z]
    obtain ⟨a1, a2, a3, a4, a5⟩ := h3 i (by omega)
    exact ⟨by rw [hI_uI_ne (by omega), hI_uI_ne (by omega), hI_uI_ne (by omega), hI_uI_ne (by omega)]; exact a1, by rw [hI_uI_ne (by omega), hI_uI_ne (by omega), hI_uI_ne (by omega), hI_uI_ne (by omega)]; exact a2, by rw [hI_uI_ne (by omega), hI_uI_ne (by omega), hI_uI_ne (by omega), hI_uI_ne (by omega)]; exact a3, a4, a5⟩
theorem m_note {l : Launch} {d : Nat} {y n v : Int32} {S : Sx} {h : Hp} (W : WS S) (K : MV h S) : Mo l (d + 3) mX10_note [.ref 77, .int y, .int n, .int v] h (oNote S y n v) := by
  have hS := K.St
  have hN1 := W.1.1.1
  have hP := W.1.1.2.1
  refine run_lv [some (.ref 77), some (.int y), some (.int n), some (.int v)] (go := ?_)
  unfold oNote
  refine go_aloadn dX10_note_0 rfl ?_
  refine go_iconst (v := 0) dX10_note_1 rfl ?_
  refine sg_putI dX10_note_2 fX10_102 rfl rfl (mo_L rfl) hS ?_
  have hF : Fz SM h (uI h 77 0 0) := Fz.rf.uI sm0
  have KM := K.sm W.1 hF
  have h0 : hI (uI h 77 0 0) 77 0 = 0 := hI_uI_eq
  generalize uI h 77 0 0 = h1 at *
  have hS := KM.St
  obtain ⟨as, ar, H, KR⟩ := id KM
  have hq := KR.2.1
  obtain ⟨q1, q2, q3⟩ := id hq
  refine go_aloadn dX10_note_5 rfl ?_
  refine go_iloadn dX10_note_6 rfl ?_
  refine sg_mna (M' := mX10_isThing) ([.int y]) dX10_note_7 lX10_377 vX10_isThing (mo_L rfl) (by decide) rfl hS (q_isThing H.1 h0).1 (q_isThing H.1 h0).2 rfl (Nat.le_of_ble_eq_true rfl) (fun k7 => ?_) (fun k7 => ?_)
  · refine go_if_ne (tgt := 15) dX10_note_10 (by decide) (fun c => absurd rfl c) (fun _ => ?_)
    refine go_iconst (v := 0) dX10_note_13 rfl ?_
    refine go_ireturn dX10_note_14 rfl rfl (Nat.zero_le _) (Nat.zero_le _) ?_
    exact ⟨⟨0, rfl, fun q => absurd q (show ¬ (1 : Nat) = 0 by decide)⟩, hI_uI_eq, KM.sm W.1 (Fz.rf.uI sm0), (hF.uI sm0).sa⟩
  refine go_if_ne (tgt := 15) dX10_note_10 (by decide) (fun c10 => ?_) (fun c10 => absurd c10 (by decide))
  skip
  obtain ⟨t, ht, rfl⟩ := ok_nI (by omega) k7
  rw [cl_nI (show t < 2 ^ 31 by omega)]
  by_cases z8 : qM (sQ S) = 8
  · rw [if_neg (fun q => by omega)]
    refine go_aloadn dX10_note_15 rfl ?_
    refine sg_getI dX10_note_16 fX10_286 rfl (mo_L rfl) hS ?_
    refine go_bipush (v := 8) dX10_note_19 rfl ?_
    rw [q1, z8]
    refine go_icmp_eq (tgt := 34) dX10_note_21 (by decide) (fun c21 => ?_) (fun c21 => absurd rfl c21)
    refine go_aloadn dX10_note_34 rfl ?_
    refine go_iconst (v := 2) dX10_note_35 rfl ?_
    refine sg_cVi (M' := mX10_refuses) ([.int (nI 2)]) dX10_note_36 lX10_380 vX10_refuses (mo_L rfl) (by decide) rfl hS (q_refuses hS (by decide)) rfl (Nat.le_of_ble_eq_true rfl) (Nat.zero_le _) (Nat.zero_le _) ?_
    refine go_ireturn dX10_note_39 rfl rfl (Nat.zero_le _) (Nat.zero_le _) ?_
    exact qo_ok rfl (by rw [hI_uI_ne (by omega)]; exact h0) (KM.rf W.1 (by decide)) (hF.sa.uI (by unfold SA; omega))
  by_cases a : 0 ≤ n ∧ n ≤ 30
  · rw [if_pos ⟨by omega, a⟩]
    obtain ⟨m, -, hm, rfl⟩ := rg_nI (a := 0) (b := 30) rfl rfl (by decide) (by decide) a
    rw [cl_nI (show m < 2 ^ 31 by omega)]
    generalize hqm : qM (sQ S) = k at *
    have m3 : (3 : Int32) * nI k = nI (3 * k) := by rw [show (3 : Int32) = nI 3 from rfl, pk_mul]
    have fin : ∀ u : Int32, u = (if v = 0 then 0 else 1) → Qx (0, nI (k + 1), qtS S (ntQ (sQ S) t m (if v = 0 then 0 else 1))) h (some (.int (nI (k + 1)))) (uI (uI (uI (uI h1 97 (3 * k) (nI t)) 97 (3 * k + 1) (nI m)) 97 (3 * k + 2) u) 77 51 (nI (k + 1))) := by
      intro u hu
      subst hu
      have F : Fz (fun a k => SM a k ∨ a = 97 ∨ (a = 77 ∧ k = 51)) h1 (uI (uI (uI (uI h1 97 (3 * k) (nI t)) 97 (3 * k + 1) (nI m)) 97 (3 * k + 2) (if v = 0 then 0 else 1)) 77 51 (nI (k + 1))) := (((Fz.rf.uI (Or.inr (Or.inl rfl))).uI (Or.inr (Or.inl rfl))).uI (Or.inr (Or.inl rfl))).uI (Or.inr (Or.inr ⟨rfl, rfl⟩))
      have hm2 := mn_add (v := if v = 0 then 0 else 1) hq (by omega) ht hm
      rw [hqm] at hm2
      exact qo_ok rfl (by rw [hI_uI_ne (by omega), hI_uI_ne (by omega), hI_uI_ne (by omega), hI_uI_ne (by omega)]; exact h0) ⟨as, ar, H.nt W.1 F, KR.notes F hm2⟩ (hF.sa.tr F.na)
    refine go_aloadn dX10_note_15 rfl ?_
    refine sg_getI dX10_note_16 fX10_286 rfl (mo_L rfl) hS ?_
    refine go_bipush (v := 8) dX10_note_19 rfl ?_
    rw [q1]
    refine go_icmp_eq (tgt := 34) dX10_note_21 (by decide) (fun c21 => absurd ((nI_eq (b := 8) (by omega) (by decide)).mp c21) z8) (fun c21 => ?_)
    refine go_iloadn dX10_note_24 rfl ?_
    refine go_iconst (v := 0) dX10_note_25 rfl ?_
    refine go_bipush (v := 30) dX10_note_26 rfl ?_
    refine sg_cSi (M' := mX10_within) ([.int (nI m), .int 0, .int 30]) dX10_note_28 lX10_349 sX10_within hS (q_within) rfl (Nat.le_of_ble_eq_true rfl) (Nat.zero_le _) (Nat.zero_le _) ?_
    rw [if_pos a]
    refine go_if_ne (tgt := 40) dX10_note_31 (by decide) (fun c31 => ?_) (fun c31 => absurd c31 (by decide))
    refine go_aloadn dX10_note_40 rfl ?_
    refine sg_getR dX10_note_41 fX10_84 rfl (mo_L rfl) hS (mo_r52 hS rfl) ?_
    refine go_iconst (v := 3) dX10_note_44 rfl ?_
    refine go_aloadn dX10_note_45 rfl ?_
    refine sg_getI dX10_note_46 fX10_286 rfl (mo_L rfl) hS ?_
    rw [q1]
    refine go_imul dX10_note_49 ?_
    refine go_iloadn dX10_note_50 rfl ?_
    refine sg_iastN (i := 3 * k) dX10_note_51 (mo_52 rfl) hS (by simp only [lit_nI, nI_add, pk_mul, Nat.add_assoc, Nat.zero_add, Nat.add_zero]) (by omega) ?_
    refine go_aloadn dX10_note_52 rfl ?_
    refine sg_getR dX10_note_53 fX10_84 rfl (mo_L rfl) hS (mo_r52 hS rfl) ?_
    refine go_iconst (v := 3) dX10_note_56 rfl ?_
    refine go_aloadn dX10_note_57 rfl ?_
    refine sg_getI dX10_note_58 fX10_286 rfl (mo_L rfl) hS ?_
    rw [hI_uI_ne (by omega), q1]
    refine go_imul dX10_note_61 ?_
    refine go_iconst (v := 1) dX10_note_62 rfl ?_
    refine go_iadd dX10_note_63 ?_
    refine go_iloadn dX10_note_64 rfl ?_
    refine sg_iastN (i := 3 * k + 1) dX10_note_65 (mo_52 rfl) hS (by simp only [lit_nI, nI_add, pk_mul, Nat.add_assoc, Nat.zero_add, Nat.add_zero]) (by omega) ?_
    refine go_aloadn dX10_note_66 rfl ?_
    refine sg_getR dX10_note_67 fX10_84 rfl (mo_L rfl) hS (mo_r52 hS rfl) ?_
    refine go_iconst (v := 3) dX10_note_70 rfl ?_
    refine go_aloadn dX10_note_71 rfl ?_
    refine sg_getI dX10_note_72 fX10_286 rfl (mo_L rfl) hS ?_
    rw [hI_uI_ne (by omega), hI_uI_ne (by omega), q1]
    refine go_imul dX10_note_75 ?_
    refine go_iconst (v := 2) dX10_note_76 rfl ?_
    refine go_iadd dX10_note_77 ?_
    refine go_iloadn dX10_note_78 rfl ?_
    refine go_if_eq (tgt := 86) dX10_note_79 (by decide) (fun c79 => ?_) (fun c79 => ?_)
    · refine go_iconst (v := 0) dX10_note_86 rfl ?_
      refine sg_iastN (i := 3 * k + 2) dX10_note_87 (mo_52 rfl) hS (by simp only [lit_nI, nI_add, pk_mul, Nat.add_assoc, Nat.zero_add, Nat.add_zero]) (by omega) ?_
      refine go_aloadn dX10_note_88 rfl ?_
      refine go_dup dX10_note_89 rfl ?_
      refine sg_getI dX10_note_90 fX10_286 rfl (mo_L rfl) hS ?_
      rw [hI_uI_ne (by omega), hI_uI_ne (by omega), hI_uI_ne (by omega), q1]
      refine go_iconst (v := 1) dX10_note_93 rfl ?_
      refine go_iadd dX10_note_94 ?_
      rw [nI_1]
      refine sg_putI dX10_note_95 fX10_286 rfl rfl (mo_L rfl) hS ?_
      refine go_aloadn dX10_note_98 rfl ?_
      refine sg_getI dX10_note_99 fX10_286 rfl (mo_L rfl) hS ?_
      rw [hI_uI_eq]
      refine go_ireturn dX10_note_102 rfl rfl (Nat.zero_le _) (Nat.zero_le _) ?_
      first | exact fin 0 (if_pos c79).symm | exact fin 1 (if_neg c79).symm
    · refine go_iconst (v := 1) dX10_note_82 rfl ?_
      refine go_goto (tgt := 87) dX10_note_83 (by decide) ?_
      refine sg_iastN (i := 3 * k + 2) dX10_note_87 (mo_52 rfl) hS (by simp only [lit_nI, nI_add, pk_mul, Nat.add_assoc, Nat.zero_add, Nat.add_zero]) (by omega) ?_
      refine go_aloadn dX10_note_88 rfl ?_
      refine go_dup dX10_note_89 rfl ?_
      refine sg_getI dX10_note_90 fX10_286 rfl (mo_L rfl) hS ?_
      rw [hI_uI_ne (by omega), hI_uI_ne (by omega), hI_uI_ne (by omega), q1]
      refine go_iconst (v := 1) dX10_note_93 rfl ?_
      refine go_iadd dX10_note_94 ?_
      rw [nI_1]
      refine sg_putI dX10_note_95 fX10_286 rfl rfl (mo_L rfl) hS ?_
      refine go_aloadn dX10_note_98 rfl ?_
      refine sg_getI dX10_note_99 fX10_286 rfl (mo_L rfl) hS ?_
      rw [hI_uI_eq]
      refine go_ireturn dX10_note_102 rfl rfl (Nat.zero_le _) (Nat.zero_le _) ?_
      first | exact fin 0 (if_pos c79).symm | exact fin 1 (if_neg c79).symm
  · rw [if_neg (fun q => a q.2)]
    refine go_aloadn dX10_note_15 rfl ?_
    refine sg_getI dX10_note_16 fX10_286 rfl (mo_L rfl) hS ?_
    refine go_bipush (v := 8) dX10_note_19 rfl ?_
    rw [q1]
    refine go_icmp_eq (tgt := 34) dX10_note_21 (by decide) (fun c21 => absurd ((nI_eq (b := 8) (by omega) (by decide)).mp c21) z8) (fun c21 => ?_)
    refine go_iloadn dX10_note_24 rfl ?_
    refine go_iconst (v := 0) dX10_note_25 rfl ?_
    refine go_bipush (v := 30) dX10_note_26 rfl ?_
    refine sg_cSi (M' := mX10_within) ([.int n, .int 0, .int 30]) dX10_note_28 lX10_349 sX10_within hS (q_within) rfl (Nat.le_of_ble_eq_true rfl) (Nat.zero_le _) (Nat.zero_le _) ?_
    rw [if_neg a]
    refine go_if_ne (tgt := 40) dX10_note_31 (by decide) (fun c31 => absurd rfl c31) (fun c31 => ?_)
    refine go_aloadn dX10_note_34 rfl ?_
    refine go_iconst (v := 2) dX10_note_35 rfl ?_
    refine sg_cVi (M' := mX10_refuses) ([.int (nI 2)]) dX10_note_36 lX10_380 vX10_refuses (mo_L rfl) (by decide) rfl hS (q_refuses hS (by decide)) rfl (Nat.le_of_ble_eq_true rfl) (Nat.zero_le _) (Nat.zero_le _) ?_
    refine go_ireturn dX10_note_39 rfl rfl (Nat.zero_le _) (Nat.zero_le _) ?_
    exact qo_ok rfl (by rw [hI_uI_ne (by omega)]; exact h0) (KM.rf W.1 (by decide)) (hF.sa.uI (by unfold SA; omega))
theorem m_forget {l : Launch} {d : Nat} {S : Sx} {h : Hp} (W : WS S) (K : MV h S) : Run l (d + 3) (0, 0) mX10_forget [.ref 77] h (fun v g => v = none ∧ hI g 77 0 = 0 ∧ MV g (qtS S (0, fun _ => 0, fun _ => 0, fun _ => 0)) ∧ Fz SA h g) noX := by
  have hS := K.St
  have hN1 := W.1.1.1
  have hP := W.1.1.2.1
  refine run_lv [some (.ref 77)] (go := ?_)
  refine go_aloadn dX10_forget_0 rfl ?_
  refine go_iconst (v := 0) dX10_forget_1 rfl ?_
  refine sg_putI dX10_forget_2 fX10_102 rfl rfl (mo_L rfl) hS ?_
  have hF : Fz SM h (uI h 77 0 0) := Fz.rf.uI sm0
  have KM := K.sm W.1 hF
  have h0 : hI (uI h 77 0 0) 77 0 = 0 := hI_uI_eq
  generalize uI h 77 0 0 = h1 at *
  have hS := KM.St
  obtain ⟨as, ar, H, KR⟩ := id KM
  have F : Fz (fun a k => SM a k ∨ a = 97 ∨ (a = 77 ∧ k = 51)) h1 (uI h1 77 51 0) := Fz.rf.uI (Or.inr (Or.inr ⟨rfl, rfl⟩))
  refine go_aloadn dX10_forget_5 rfl ?_
  refine go_iconst (v := 0) dX10_forget_6 rfl ?_
  refine sg_putI dX10_forget_7 fX10_286 rfl rfl (mo_L rfl) hS ?_
  refine go_return dX10_forget_10 rfl (Nat.zero_le _) (Nat.zero_le _) ?_
  exact ⟨rfl, by rw [hI_uI_ne (by omega)]; exact h0, ⟨as, ar, H.nt W.1 F, KR.notes F ⟨hI_uI_eq, (show (0 : Nat) ≤ 8 by decide), fun i hi => absurd hi (Nat.not_lt_zero _)⟩⟩, hF.sa.tr F.na⟩
theorem m_fault {l : Launch} {d : Nat} {S : Sx} {h : Hp} (W : WS S) (K : MV h S) : Mo l (d + 3) mX10_fault [.ref 77] h (0, sF S, S) := by
  have hS := K.St
  have hN1 := W.1.1.1
  have hP := W.1.1.2.1
  refine run_lv [some (.ref 77)] (go := ?_)
  refine go_aloadn dX10_fault_0 rfl ?_
  refine go_iconst (v := 0) dX10_fault_1 rfl ?_
  refine sg_putI dX10_fault_2 fX10_102 rfl rfl (mo_L rfl) hS ?_
  have hF : Fz SM h (uI h 77 0 0) := Fz.rf.uI sm0
  have KM := K.sm W.1 hF
  have h0 : hI (uI h 77 0 0) 77 0 = 0 := hI_uI_eq
  generalize uI h 77 0 0 = h1 at *
  have hS := KM.St
  obtain ⟨as, ar, H, KR⟩ := id KM
  refine go_aloadn dX10_fault_5 rfl ?_
  refine sg_getI dX10_fault_6 fX10_39 rfl (mo_L rfl) hS ?_
  refine go_ireturn dX10_fault_9 rfl rfl (Nat.zero_le _) (Nat.zero_le _) ?_
  exact qo_ok KR.2.2.2.2.1 h0 KM hF.sa
