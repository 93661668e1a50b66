/-! the model's acts: theft, giving back, walks, days -/
theorem sa91 {k : Nat} : SA 91 k := by unfold SA; omega
theorem MB.row2 {g : Hp} {as ar k k' : Nat} {v v' : Int32} {C : Cy} {T T' : Tn} (W : WC C) (H : MB g as ar C T) (hT : MT (uI (uI g 91 k v) 91 k' v') 0 C T') : MB (uI (uI g 91 k v) 91 k' v') as ar C T' := ⟨H.1.fz (Fz.uI (S := fun a _ => a = 91) (Fz.uI (S := fun a _ => a = 91) Fz.rf rfl) rfl) (fun a k q => by omega), hT, by rw [hI_uI_ne (by omega), hI_uI_ne (by omega)]; exact H.2.2⟩
theorem m_steal {l : Launch} {d : Nat} {x y : Int32} {S : Sx} {h : Hp} (W : WS S) (K : MV h S) : Mo l (d + 3) mX10_steal [.ref 77, .int x, .int y] h (oSteal S x y) := by
  have hS := K.St
  have hN1 := W.1.1.1
  have hP := W.1.1.2.1
  refine run_lv [some (.ref 77), some (.int x), some (.int y), none] (go := ?_)
  unfold oSteal
  refine go_aloadn dX10_steal_0 rfl ?_
  refine go_iconst (v := 0) dX10_steal_1 rfl ?_
  refine sg_putI dX10_steal_2 fX10_102 rfl rfl (mo_L rfl) hS ?_
  have hF : Fz SM h (uI h 77 0 0) := Fz.rf.uI sm0
  have KM := K.sm W.1 hF
  have h0 : hI (uI h 77 0 0) 77 0 = 0 := hI_uI_eq
  generalize uI h 77 0 0 = h1 at *
  have hS := KM.St
  obtain ⟨as, ar, H, KR⟩ := id KM
  refine go_aloadn dX10_steal_5 rfl ?_
  refine go_iloadn dX10_steal_6 rfl ?_
  refine sg_mna (M' := mX10_isPerson) ([.int x]) dX10_steal_7 lX10_362 vX10_isPerson (mo_L rfl) (by decide) rfl hS (q_isPerson H.1 h0).1 (q_isPerson H.1 h0).2 rfl (Nat.le_of_ble_eq_true rfl) (fun k7 => ?_) (fun k7 => ?_)
  · refine go_if_eq (tgt := 21) dX10_steal_10 (by decide) (fun _ => ?_) (fun c => absurd rfl c)
    refine go_iconst (v := 0) dX10_steal_21 rfl ?_
    refine go_ireturn dX10_steal_22 rfl rfl (Nat.zero_le _) (Nat.zero_le _) ?_
    exact ⟨⟨0, rfl, fun q => absurd q (show ¬ (1 : Nat) = 0 by decide)⟩, hI_uI_eq, KM.sm W.1 (Fz.rf.uI sm0), (hF.uI sm0).sa⟩
  refine go_if_eq (tgt := 21) dX10_steal_10 (by decide) (fun c10 => absurd c10 (by decide)) (fun c10 => ?_)
  refine go_aloadn dX10_steal_13 rfl ?_
  refine go_iloadn dX10_steal_14 rfl ?_
  refine sg_mna (M' := mX10_isThing) ([.int y]) dX10_steal_15 lX10_377 vX10_isThing (mo_L rfl) (by decide) rfl hS (q_isThing H.1 h0).1 (q_isThing H.1 h0).2 rfl (Nat.le_of_ble_eq_true rfl) (fun k15 => ?_) (fun k15 => ?_)
  · refine go_if_ne (tgt := 23) dX10_steal_18 (by decide) (fun c => absurd rfl c) (fun _ => ?_)
    refine go_iconst (v := 0) dX10_steal_21 rfl ?_
    refine go_ireturn dX10_steal_22 rfl rfl (Nat.zero_le _) (Nat.zero_le _) ?_
    exact ⟨⟨0, rfl, fun q => absurd q (show ¬ (1 : Nat) = 0 by decide)⟩, hI_uI_eq, KM.sm W.1 (Fz.rf.uI sm0), (hF.uI sm0).sa⟩
  refine go_if_ne (tgt := 23) dX10_steal_18 (by decide) (fun c18 => ?_) (fun c18 => absurd c18 (by decide))
  skip
  obtain ⟨p, hp, rfl⟩ := ok_nI (by omega) k7
  obtain ⟨t, ht, rfl⟩ := ok_nI (by omega) k15
  rw [cl_nI (show t < 2 ^ 31 by omega)]
  by_cases z : tO (sT S) t = nI p ∨ tB (sT S) t = nI p
  · rw [if_pos z]
    refine go_aloadn dX10_steal_23 rfl ?_
    refine sg_getR dX10_steal_24 fX10_66 rfl (mo_L rfl) hS (mo_r42 hS rfl) ?_
    refine go_bipush (v := 11) dX10_steal_27 rfl ?_
    refine go_iloadn dX10_steal_29 rfl ?_
    refine go_iadd dX10_steal_30 ?_
    refine sg_ialdN (i := 11 + t) dX10_steal_31 (mo_42 rfl) hS (by simp only [lit_nI, nI_add, pk_mul, Nat.add_assoc, Nat.zero_add, Nat.add_zero]) (by omega) ((mB0 H.2.1 ht).2.1) ?_
    refine go_ist3 dX10_steal_32 rfl ?_
    refine go_aloadn dX10_steal_33 rfl ?_
    refine go_iconst (v := 0) dX10_steal_34 rfl ?_
    refine go_iloadn dX10_steal_35 rfl ?_
    refine go_iloadn dX10_steal_36 rfl ?_
    refine sg_cVi (M' := mX10_maySteal) ([.int (nI 0), .int (nI p), .int (nI t)]) dX10_steal_37 lX10_386 vX10_maySteal (mo_L rfl) (by decide) rfl hS (q_maySteal W.1 H.1 H.2.1 (by decide) ht) rfl (Nat.le_of_ble_eq_true rfl) (Nat.zero_le _) (Nat.zero_le _) ?_
    rw [if_pos z]
    refine go_if_ne (tgt := 51) dX10_steal_40 (by decide) (fun c40 => absurd rfl c40) (fun c40 => ?_)
    refine go_aloadn dX10_steal_43 rfl ?_
    refine go_iconst (v := 1) dX10_steal_44 rfl ?_
    refine sg_cVi (M' := mX10_refuses) ([.int (nI 1)]) dX10_steal_45 lX10_380 vX10_refuses (mo_L rfl) (by decide) rfl hS (q_refuses hS (by decide)) rfl (Nat.le_of_ble_eq_true rfl) (Nat.zero_le _) (Nat.zero_le _) ?_
    refine go_iconst (v := 1) dX10_steal_48 rfl ?_
    refine go_isub dX10_steal_49 ?_
    refine go_ireturn dX10_steal_50 rfl rfl (Nat.zero_le _) (Nat.zero_le _) ?_
    exact qo_ok rfl (by rw [hI_uI_ne (by omega)]; exact h0) (KM.rf W.1 (by decide)) (hF.sa.uI (by unfold SA; omega))
  · rw [if_neg z]
    refine go_aloadn dX10_steal_23 rfl ?_
    refine sg_getR dX10_steal_24 fX10_66 rfl (mo_L rfl) hS (mo_r42 hS rfl) ?_
    refine go_bipush (v := 11) dX10_steal_27 rfl ?_
    refine go_iloadn dX10_steal_29 rfl ?_
    refine go_iadd dX10_steal_30 ?_
    refine sg_ialdN (i := 11 + t) dX10_steal_31 (mo_42 rfl) hS (by simp only [lit_nI, nI_add, pk_mul, Nat.add_assoc, Nat.zero_add, Nat.add_zero]) (by omega) ((mB0 H.2.1 ht).2.1) ?_
    refine go_ist3 dX10_steal_32 rfl ?_
    refine go_aloadn dX10_steal_33 rfl ?_
    refine go_iconst (v := 0) dX10_steal_34 rfl ?_
    refine go_iloadn dX10_steal_35 rfl ?_
    refine go_iloadn dX10_steal_36 rfl ?_
    refine sg_cVi (M' := mX10_maySteal) ([.int (nI 0), .int (nI p), .int (nI t)]) dX10_steal_37 lX10_386 vX10_maySteal (mo_L rfl) (by decide) rfl hS (q_maySteal W.1 H.1 H.2.1 (by decide) ht) rfl (Nat.le_of_ble_eq_true rfl) (Nat.zero_le _) (Nat.zero_le _) ?_
    rw [if_neg z]
    refine go_if_ne (tgt := 51) dX10_steal_40 (by decide) (fun c40 => ?_) (fun c40 => absurd c40 (by decide))
    refine go_aloadn dX10_steal_51 rfl ?_
    refine sg_rV0 (M' := mX10_keeps) ([]) dX10_steal_52 lX10_383 vX10_keeps (mo_L rfl) (by decide) rfl hS (q_keeps W.1 H KR.1) rfl (Nat.le_of_ble_eq_true rfl) (Nat.zero_le _) (Nat.zero_le _) (fun g F => ?_)
    have hS := F.1.St hS
    refine go_aloadn dX10_steal_55 rfl ?_
    refine go_iconst (v := 0) dX10_steal_56 rfl ?_
    refine go_iloadn dX10_steal_57 rfl ?_
    refine go_iloadn dX10_steal_58 rfl ?_
    refine sg_cV0 (M' := mX10_steals) ([.int (nI 0), .int (nI p), .int (nI t)]) dX10_steal_59 lX10_389 vX10_steals (mo_L rfl) (by decide) rfl hS (q_steals hS (by decide) (by omega)) rfl (Nat.le_of_ble_eq_true rfl) (Nat.zero_le _) (Nat.zero_le _) ?_
    refine go_iloadn dX10_steal_62 rfl ?_
    refine go_ireturn dX10_steal_63 rfl rfl (Nat.zero_le _) (Nat.zero_le _) ?_
    exact (have HB := H.sh W.1 F.1; qo_ok rfl (by rw [hI_uI_ne (by omega), hI_uI_ne (by omega), F.1.I (by unfold SH; omega)]; exact h0) (mv_kp W.1 KR F.1.hk F.2 ((Fz.rf.uI (Or.inr rfl)).uI (Or.inr rfl)) (MB.row2 W.1 HB (mt_po W.1 ht HB.2.1))) (hF.sa.tr ((F.1.hk.ka.uI sa91).uI sa91)))
theorem m_back {l : Launch} {d : Nat} {y : Int32} {S : Sx} {h : Hp} (W : WS S) (K : MV h S) : Mo l (d + 3) mX10_back [.ref 77, .int y] h (oBack S y) := by
  have hS := K.St
  have hN1 := W.1.1.1
  have hP := W.1.1.2.1
  refine run_lv [some (.ref 77), some (.int y), none] (go := ?_)
  unfold oBack
  refine go_aloadn dX10_back_0 rfl ?_
  refine go_iconst (v := 0) dX10_back_1 rfl ?_
  refine sg_putI dX10_back_2 fX10_102 rfl rfl (mo_L rfl) hS ?_
  have hF : Fz SM h (uI h 77 0 0) := Fz.rf.uI sm0
  have KM := K.sm W.1 hF
  have h0 : hI (uI h 77 0 0) 77 0 = 0 := hI_uI_eq
  generalize uI h 77 0 0 = h1 at *
  have hS := KM.St
  obtain ⟨as, ar, H, KR⟩ := id KM
  refine go_aloadn dX10_back_5 rfl ?_
  refine go_iloadn dX10_back_6 rfl ?_
  refine sg_mna (M' := mX10_isThing) ([.int y]) dX10_back_7 lX10_377 vX10_isThing (mo_L rfl) (by decide) rfl hS (q_isThing H.1 h0).1 (q_isThing H.1 h0).2 rfl (Nat.le_of_ble_eq_true rfl) (fun k7 => ?_) (fun k7 => ?_)
  · refine go_if_ne (tgt := 15) dX10_back_10 (by decide) (fun c => absurd rfl c) (fun _ => ?_)
    refine go_iconst (v := 0) dX10_back_13 rfl ?_
    refine go_ireturn dX10_back_14 rfl rfl (Nat.zero_le _) (Nat.zero_le _) ?_
    exact ⟨⟨0, rfl, fun q => absurd q (show ¬ (1 : Nat) = 0 by decide)⟩, hI_uI_eq, KM.sm W.1 (Fz.rf.uI sm0), (hF.uI sm0).sa⟩
  refine go_if_ne (tgt := 15) dX10_back_10 (by decide) (fun c10 => ?_) (fun c10 => absurd c10 (by decide))
  skip
  obtain ⟨t, ht, rfl⟩ := ok_nI (by omega) k7
  rw [cl_nI (show t < 2 ^ 31 by omega)]
  by_cases z : tB (sT S) t = -1
  · rw [if_pos z]
    refine go_aloadn dX10_back_15 rfl ?_
    refine sg_getR dX10_back_16 fX10_66 rfl (mo_L rfl) hS (mo_r42 hS rfl) ?_
    refine go_bipush (v := 21) dX10_back_19 rfl ?_
    refine go_iloadn dX10_back_21 rfl ?_
    refine go_iadd dX10_back_22 ?_
    refine sg_ialdN (i := 21 + t) dX10_back_23 (mo_42 rfl) hS (by simp only [lit_nI, nI_add, pk_mul, Nat.add_assoc, Nat.zero_add, Nat.add_zero]) (by omega) ((mB0 H.2.1 ht).2.2.1) ?_
    refine go_ist2 dX10_back_24 rfl ?_
    refine go_aloadn dX10_back_25 rfl ?_
    refine sg_getR dX10_back_26 fX10_66 rfl (mo_L rfl) hS (mo_r42 hS rfl) ?_
    refine go_bipush (v := 11) dX10_back_29 rfl ?_
    refine go_iloadn dX10_back_31 rfl ?_
    refine go_iadd dX10_back_32 ?_
    refine sg_ialdN (i := 11 + t) dX10_back_33 (mo_42 rfl) hS (by simp only [lit_nI, nI_add, pk_mul, Nat.add_assoc, Nat.zero_add, Nat.add_zero]) (by omega) ((mB0 H.2.1 ht).2.1) ?_
    refine go_iconst (v := -1) dX10_back_34 rfl ?_
    refine go_icmp_ne (tgt := 44) dX10_back_35 (by decide) (fun c35 => absurd z c35) (fun c35 => ?_)
    refine go_aloadn dX10_back_38 rfl ?_
    refine go_iconst (v := 1) dX10_back_39 rfl ?_
    refine sg_cVi (M' := mX10_refuses) ([.int (nI 1)]) dX10_back_40 lX10_380 vX10_refuses (mo_L rfl) (by decide) rfl hS (q_refuses hS (by decide)) rfl (Nat.le_of_ble_eq_true rfl) (Nat.zero_le _) (Nat.zero_le _) ?_
    refine go_ireturn dX10_back_43 rfl rfl (Nat.zero_le _) (Nat.zero_le _) ?_
    exact qo_ok rfl (by rw [hI_uI_ne (by omega)]; exact h0) (KM.rf W.1 (by decide)) (hF.sa.uI (by unfold SA; omega))
  · rw [if_neg z]
    refine go_aloadn dX10_back_15 rfl ?_
    refine sg_getR dX10_back_16 fX10_66 rfl (mo_L rfl) hS (mo_r42 hS rfl) ?_
    refine go_bipush (v := 21) dX10_back_19 rfl ?_
    refine go_iloadn dX10_back_21 rfl ?_
    refine go_iadd dX10_back_22 ?_
    refine sg_ialdN (i := 21 + t) dX10_back_23 (mo_42 rfl) hS (by simp only [lit_nI, nI_add, pk_mul, Nat.add_assoc, Nat.zero_add, Nat.add_zero]) (by omega) ((mB0 H.2.1 ht).2.2.1) ?_
    refine go_ist2 dX10_back_24 rfl ?_
    refine go_aloadn dX10_back_25 rfl ?_
    refine sg_getR dX10_back_26 fX10_66 rfl (mo_L rfl) hS (mo_r42 hS rfl) ?_
    refine go_bipush (v := 11) dX10_back_29 rfl ?_
    refine go_iloadn dX10_back_31 rfl ?_
    refine go_iadd dX10_back_32 ?_
    refine sg_ialdN (i := 11 + t) dX10_back_33 (mo_42 rfl) hS (by simp only [lit_nI, nI_add, pk_mul, Nat.add_assoc, Nat.zero_add, Nat.add_zero]) (by omega) ((mB0 H.2.1 ht).2.1) ?_
    refine go_iconst (v := -1) dX10_back_34 rfl ?_
    refine go_icmp_ne (tgt := 44) dX10_back_35 (by decide) (fun c35 => ?_) (fun c35 => absurd c35 z)
    refine go_aloadn dX10_back_44 rfl ?_
    refine sg_rV0 (M' := mX10_keeps) ([]) dX10_back_45 lX10_383 vX10_keeps (mo_L rfl) (by decide) rfl hS (q_keeps W.1 H KR.1) rfl (Nat.le_of_ble_eq_true rfl) (Nat.zero_le _) (Nat.zero_le _) (fun g F => ?_)
    have hS := F.1.St hS
    refine go_aloadn dX10_back_48 rfl ?_
    refine go_iconst (v := 0) dX10_back_49 rfl ?_
    refine go_iloadn dX10_back_50 rfl ?_
    refine sg_cV0 (M' := mX10_isOff) ([.int (nI 0), .int (nI t)]) dX10_back_51 lX10_327 vX10_isOff (mo_L rfl) (by decide) rfl hS (q_isOff hS (by decide) (by omega)) rfl (Nat.le_of_ble_eq_true rfl) (Nat.zero_le _) (Nat.zero_le _) ?_
    refine go_iloadn dX10_back_54 rfl ?_
    refine go_ireturn dX10_back_55 rfl rfl (Nat.zero_le _) (Nat.zero_le _) ?_
    exact (have HB := H.sh W.1 F.1; qo_ok rfl (by rw [hI_uI_ne (by omega), hI_uI_ne (by omega), F.1.I (by unfold SH; omega)]; exact h0) (mv_kp W.1 KR F.1.hk F.2 ((Fz.rf.uI (Or.inr rfl)).uI (Or.inr rfl)) (MB.row2 W.1 HB (mt_po W.1 ht HB.2.1))) (hF.sa.tr ((F.1.hk.ka.uI sa91).uI sa91)))
theorem m_days {l : Launch} {d : Nat} {n : Int32} {S : Sx} {h : Hp} (W : WS S) (K : MV h S) : Mo l (d + 7) mX10_days [.ref 77, .int n] h (oDays S n) := by
  have hS := K.St
  have hN1 := W.1.1.1
  have hP := W.1.1.2.1
  refine run_lv [some (.ref 77), some (.int n), none] (go := ?_)
  unfold oDays
  refine go_aloadn dX10_days_0 rfl ?_
  refine go_iconst (v := 0) dX10_days_1 rfl ?_
  refine sg_putI dX10_days_2 fX10_102 rfl rfl (mo_L rfl) hS ?_
  have hF : Fz SM h (uI h 77 0 0) := Fz.rf.uI sm0
  have KM := K.sm W.1 hF
  have h0 : hI (uI h 77 0 0) 77 0 = 0 := hI_uI_eq
  generalize uI h 77 0 0 = h1 at *
  have hS := KM.St
  obtain ⟨as, ar, H, KR⟩ := id KM
  have V := W.2.1
  by_cases a : 1 ≤ n ∧ n ≤ 20
  · obtain ⟨m, hm1, hm, rfl⟩ := rg_nI (a := 1) (b := 20) rfl rfl (by decide) (by decide) a
    rw [cl_nI (show m < 2 ^ 31 by omega)]
    have hd9 := V.2.2.1
    by_cases z : tD (sT S) + m ≤ 9999
    · rw [if_pos ⟨a, z⟩]
      refine go_iloadn dX10_days_5 rfl ?_
      refine go_iconst (v := 1) dX10_days_6 rfl ?_
      refine go_bipush (v := 20) dX10_days_7 rfl ?_
      refine sg_cSi (M' := mX10_within) ([.int (nI m), .int 1, .int 20]) dX10_days_9 lX10_349 sX10_within hS (q_within) rfl (Nat.le_of_ble_eq_true rfl) (Nat.zero_le _) (Nat.zero_le _) ?_
      rw [if_pos a]
      refine go_if_eq (tgt := 29) dX10_days_12 (by decide) (fun c12 => absurd c12 (by decide)) (fun c12 => ?_)
      refine go_aloadn dX10_days_15 rfl ?_
      refine sg_getR dX10_days_16 fX10_66 rfl (mo_L rfl) hS (mo_r42 hS rfl) ?_
      refine go_iconst (v := 0) dX10_days_19 rfl ?_
      refine sg_ialdN (i := 0) dX10_days_20 (mo_42 rfl) hS (by simp only [lit_nI, nI_add, pk_mul, Nat.add_assoc, Nat.zero_add, Nat.add_zero]) (by omega) (H.2.1.1) ?_
      refine go_iloadn dX10_days_21 rfl ?_
      refine go_iadd dX10_days_22 ?_
      refine go_sipush (v := 9999) dX10_days_23 rfl ?_
      rw [nI_add]
      refine go_icmp_le (tgt := 35) dX10_days_26 (by decide) (fun c26 => ?_) (fun c26 => absurd (nI_le (b := 9999) z (by decide)) c26)
      refine go_aloadn dX10_days_35 rfl ?_
      refine sg_rV0 (M' := mX10_keeps) ([]) dX10_days_36 lX10_383 vX10_keeps (mo_L rfl) (by decide) rfl hS (q_keeps W.1 H KR.1) rfl (Nat.le_of_ble_eq_true rfl) (Nat.zero_le _) (Nat.zero_le _) (fun g F => ?_)
      refine go_iconst (v := 0) dX10_days_39 rfl ?_
      refine go_ist2 dX10_days_40 rfl ?_
      skip
      have HB := H.sh W.1 F.1
      refine go_cong (go_loopR (lvf := fun k => [some (.ref 77), some (.int (nI m)), some (.int (nI k))]) m (fun k g2 => Fz (fun a k => SM a k ∨ a = 91) g g2 ∧ MB g2 as ar (sC S) (dnT (sC S) (t0 (sT S)) k) ∧ hI g2 77 0 = 0) (fun k g2 hk hh ih => ?_) (fun g2 hh => ?_) 0 g (Nat.zero_le _) ⟨Fz.rf, HB, by rw [F.1.I (by unfold SH; omega)]; exact h0⟩) rfl rfl
      · obtain ⟨F2, H2, h02⟩ := hh
        have hS := H2.1.1
        refine go_iloadn dX10_days_41 rfl ?_
        refine go_iloadn dX10_days_42 rfl ?_
        refine go_icmp_ge (tgt := 57) dX10_days_43 (by decide) (fun c43 => absurd c43 (nI_ge hk (by omega))) (fun c43 => ?_)
        refine go_aloadn dX10_days_46 rfl ?_
        refine go_iconst (v := 0) dX10_days_47 rfl ?_
        refine sg_rV0 (M' := mX10_dayGoes) ([.int (nI 0)]) dX10_days_48 lX10_343 vX10_dayGoes (mo_L rfl) (by decide) rfl hS (q_dayGoes W.1 H2.1 H2.2.1 (V.1.t0.dn W.1) (by decide) (by rw [tD_dn]; show tD (sT S) + k + 1 < _; omega)) rfl (Nat.le_of_ble_eq_true rfl) (Nat.zero_le _) (Nat.zero_le _) (fun g3 F3 => ?_)
        refine go_iinc2 (c1 := 1) dX10_days_51 rfl rfl ?_
        refine go_goto (tgt := 41) dX10_days_54 (by decide) ?_
        exact (have F4 : Fz (fun a k => SM a k ∨ a = 91) g2 g3 := F3.1.sub (fun a k q => by unfold SD at q; unfold SM; omega); go_cong (ih g3 ⟨F2.tr F4, ⟨H2.1.sd F3.1, by have m := F3.2.1; rw [H2.2.2] at m; show MT g3 0 (sC S) (dayT (sC S) 0 (dnT (sC S) (t0 (sT S)) k)); rw [day_t0]; exact m, by rw [F3.1.I (by unfold SD; omega)]; exact H2.2.2⟩, by rw [F3.1.I (by unfold SD; omega)]; exact h02⟩) (by simp [nI_1]) rfl)
      · obtain ⟨F2, H2, h02⟩ := hh
        have hS := H2.1.1
        refine go_iloadn dX10_days_41 rfl ?_
        refine go_iloadn dX10_days_42 rfl ?_
        refine go_icmp_ge (tgt := 57) dX10_days_43 (by decide) (fun c43 => ?_) (fun c43 => absurd (nI_le (Nat.le_refl _) (by omega)) c43)
        refine go_aloadn dX10_days_57 rfl ?_
        refine sg_getR dX10_days_58 fX10_66 rfl (mo_L rfl) hS (mo_r42 hS rfl) ?_
        refine go_iconst (v := 0) dX10_days_61 rfl ?_
        refine sg_ialdN (i := 0) dX10_days_62 (mo_42 rfl) hS (by simp only [lit_nI, nI_add, pk_mul, Nat.add_assoc, Nat.zero_add, Nat.add_zero]) (by omega) (H2.2.1.1) ?_
        refine go_ireturn dX10_days_63 rfl rfl (Nat.zero_le _) (Nat.zero_le _) ?_
        exact qo_ok (by rw [tD_dn]; rfl) h02 (mv_kp W.1 KR F.1.hk F.2 F2 H2) ((hF.sa.tr F.1.hk.ka).tr (F2.sub (fun a k q => by unfold SM at q; unfold SA; omega)))
    · rw [if_neg (fun q => z q.2)]
      refine go_iloadn dX10_days_5 rfl ?_
      refine go_iconst (v := 1) dX10_days_6 rfl ?_
      refine go_bipush (v := 20) dX10_days_7 rfl ?_
      refine sg_cSi (M' := mX10_within) ([.int (nI m), .int 1, .int 20]) dX10_days_9 lX10_349 sX10_within hS (q_within) rfl (Nat.le_of_ble_eq_true rfl) (Nat.zero_le _) (Nat.zero_le _) ?_
      rw [if_pos a]
      refine go_if_eq (tgt := 29) dX10_days_12 (by decide) (fun c12 => absurd c12 (by decide)) (fun c12 => ?_)
      refine go_aloadn dX10_days_15 rfl ?_
      refine sg_getR dX10_days_16 fX10_66 rfl (mo_L rfl) hS (mo_r42 hS rfl) ?_
      refine go_iconst (v := 0) dX10_days_19 rfl ?_
      refine sg_ialdN (i := 0) dX10_days_20 (mo_42 rfl) hS (by simp only [lit_nI, nI_add, pk_mul, Nat.add_assoc, Nat.zero_add, Nat.add_zero]) (by omega) (H.2.1.1) ?_
      refine go_iloadn dX10_days_21 rfl ?_
      refine go_iadd dX10_days_22 ?_
      refine go_sipush (v := 9999) dX10_days_23 rfl ?_
      rw [nI_add]
      refine go_icmp_le (tgt := 35) dX10_days_26 (by decide) (fun c26 => absurd c26 (Int32.not_le.mpr (nI_lt (a := 9999) (by omega) (by omega)))) (fun c26 => ?_)
      refine go_aloadn dX10_days_29 rfl ?_
      refine go_iconst (v := 1) dX10_days_30 rfl ?_
      refine sg_cVi (M' := mX10_refuses) ([.int (nI 1)]) dX10_days_31 lX10_380 vX10_refuses (mo_L rfl) (by decide) rfl hS (q_refuses hS (by decide)) rfl (Nat.le_of_ble_eq_true rfl) (Nat.zero_le _) (Nat.zero_le _) ?_
      refine go_ireturn dX10_days_34 rfl rfl (Nat.zero_le _) (Nat.zero_le _) ?_
      exact qo_ok rfl (by rw [hI_uI_ne (by omega)]; exact h0) (KM.rf W.1 (by decide)) (hF.sa.uI (by unfold SA; omega))
  · rw [if_neg (fun q => a q.1)]
    refine go_iloadn dX10_days_5 rfl ?_
    refine go_iconst (v := 1) dX10_days_6 rfl ?_
    refine go_bipush (v := 20) dX10_days_7 rfl ?_
    refine sg_cSi (M' := mX10_within) ([.int n, .int 1, .int 20]) dX10_days_9 lX10_349 sX10_within hS (q_within) rfl (Nat.le_of_ble_eq_true rfl) (Nat.zero_le _) (Nat.zero_le _) ?_
    rw [if_neg a]
    refine go_if_eq (tgt := 29) dX10_days_12 (by decide) (fun c12 => ?_) (fun c12 => absurd rfl c12)
    refine go_aloadn dX10_days_29 rfl ?_
    refine go_iconst (v := 1) dX10_days_30 rfl ?_
    refine sg_cVi (M' := mX10_refuses) ([.int (nI 1)]) dX10_days_31 lX10_380 vX10_refuses (mo_L rfl) (by decide) rfl hS (q_refuses hS (by decide)) rfl (Nat.le_of_ble_eq_true rfl) (Nat.zero_le _) (Nat.zero_le _) ?_
    refine go_ireturn dX10_days_34 rfl rfl (Nat.zero_le _) (Nat.zero_le _) ?_
    exact qo_ok rfl (by rw [hI_uI_ne (by omega)]; exact h0) (KM.rf W.1 (by decide)) (hF.sa.uI (by unfold SA; omega))
theorem m_undo {l : Launch} {d : Nat} {S : Sx} {h : Hp} (W : WS S) (K : MV h S) : Mo l (d + 7) mX10_undo [.ref 77] h (oUndo S) := by
  have hS := K.St
  have hN1 := W.1.1.1
  have hP := W.1.1.2.1
  refine run_lv [some (.ref 77), none] (go := ?_)
  unfold oUndo
  refine go_aloadn dX10_undo_0 rfl ?_
  refine go_iconst (v := 0) dX10_undo_1 rfl ?_
  refine sg_putI dX10_undo_2 fX10_102 rfl rfl (mo_L rfl) hS ?_
  have hF : Fz SM h (uI h 77 0 0) := Fz.rf.uI sm0
  have KM := K.sm W.1 hF
  have h0 : hI (uI h 77 0 0) 77 0 = 0 := hI_uI_eq
  generalize uI h 77 0 0 = h1 at *
  have hS := KM.St
  obtain ⟨as, ar, H, KR⟩ := id KM
  obtain ⟨a1, a2, a3⟩ := KR.1
  by_cases z : (sA S).length = 0
  · rw [if_pos z]
    refine go_aloadn dX10_undo_5 rfl ?_
    refine sg_getI dX10_undo_6 fX10_283 rfl (mo_L rfl) hS ?_
    rw [a1, z]
    refine go_if_ne (tgt := 14) dX10_undo_9 (by decide) (fun c9 => absurd rfl c9) (fun c9 => ?_)
    refine go_iconst (v := -1) dX10_undo_12 rfl ?_
    refine go_ireturn dX10_undo_13 rfl rfl (Nat.zero_le _) (Nat.zero_le _) ?_
    exact qo_ok rfl h0 KM hF.sa
  · rw [if_neg z]
    generalize hn : (sA S).length - 1 = n at *
    have F1 : Fz (fun a k => a = 77 ∧ k = 44) h1 (uI h1 77 44 (nI n)) := Fz.rf.uI ⟨rfl, rfl⟩
    have b1 : hI (uI h1 77 44 (nI n)) 77 44 = nI n := hI_uI_eq
    refine go_aloadn dX10_undo_5 rfl ?_
    refine sg_getI dX10_undo_6 fX10_283 rfl (mo_L rfl) hS ?_
    rw [a1]
    refine go_if_ne (tgt := 14) dX10_undo_9 (by decide) (fun c9 => ?_) (fun c9 => absurd c9 (nI_ne0 (by omega) (by omega)))
    refine go_aloadn dX10_undo_14 rfl ?_
    refine go_dup dX10_undo_15 rfl ?_
    refine sg_getI dX10_undo_16 fX10_283 rfl (mo_L rfl) hS ?_
    refine go_iconst (v := 1) dX10_undo_19 rfl ?_
    refine go_isub dX10_undo_20 ?_
    rw [a1, nI_sub1 (by omega), hn]
    refine sg_putI dX10_undo_21 fX10_283 rfl rfl (mo_L rfl) hS ?_
    refine go_iconst (v := 0) dX10_undo_24 rfl ?_
    refine go_ist1 dX10_undo_25 rfl ?_
    skip
    refine go_cong (h' := uI h1 77 44 (nI n)) ?_ rfl rfl
    generalize uI h1 77 44 (nI n) = g at *
    refine go_cong (go_loopR (lvf := fun k => [some (.ref 77), some (.int (nI k))]) 105 (fun k g2 => Fz (fun a x => a = 91 ∧ x < 105) g g2 ∧ ∀ j, j < k → hI g2 91 j = hI g 92 (105 * n + j)) (fun k g2 hk hh ih => ?_) (fun g2 hh => ?_) 0 g (Nat.zero_le _) ⟨Fz.rf, fun _ q => absurd q (by omega)⟩) rfl rfl
    · obtain ⟨F2, e⟩ := hh
      have hS := F2.St (F1.St hS)
      have b2 : hI g2 77 44 = nI n := by rw [F2.I (by omega)]; exact b1
      refine go_iloadn dX10_undo_26 rfl ?_
      refine go_bipush (v := 105) dX10_undo_27 rfl ?_
      refine go_icmp_ge (tgt := 58) dX10_undo_29 (by decide) (fun c29 => absurd c29 (nI_ge (b := 105) hk (by decide))) (fun c29 => ?_)
      refine go_aloadn dX10_undo_32 rfl ?_
      refine sg_getR dX10_undo_33 fX10_66 rfl (mo_L rfl) hS (mo_r42 hS rfl) ?_
      refine go_iloadn dX10_undo_36 rfl ?_
      refine go_aloadn dX10_undo_37 rfl ?_
      refine sg_getR dX10_undo_38 fX10_69 rfl (mo_L rfl) hS (mo_r43 hS rfl) ?_
      refine go_bipush (v := 105) dX10_undo_41 rfl ?_
      refine go_aloadn dX10_undo_43 rfl ?_
      refine sg_getI dX10_undo_44 fX10_283 rfl (mo_L rfl) hS ?_
      rw [b2]
      refine go_imul dX10_undo_47 ?_
      refine go_iloadn dX10_undo_48 rfl ?_
      refine go_iadd dX10_undo_49 ?_
      refine sg_ialdN (i := 105 * n + k) (x := hI g 92 (105 * n + k)) dX10_undo_50 (mo_43 rfl) hS (by simp only [lit_nI, nI_add, pk_mul, Nat.add_assoc, Nat.zero_add, Nat.add_zero]) (by omega) ((F2.I (by omega))) ?_
      refine sg_iastN (i := k) dX10_undo_51 (mo_42 rfl) hS (by simp only [lit_nI, nI_add, pk_mul, Nat.add_assoc, Nat.zero_add, Nat.add_zero]) (by omega) ?_
      refine go_iinc1 (c1 := 1) dX10_undo_52 rfl rfl ?_
      refine go_goto (tgt := 26) dX10_undo_55 (by decide) ?_
      exact go_cong (ih _ ⟨F2.uI ⟨rfl, hk⟩, fun j hj => by rw [hI_uI]; by_cases z : j = k; (· subst z; rw [if_pos ⟨rfl, rfl⟩]); (rw [if_neg (by omega)]; exact e j (by omega))⟩) (by simp [nI_1]) rfl
    · obtain ⟨F2, e⟩ := hh
      have hS := F2.St (F1.St hS)
      have b2 : hI g2 77 44 = nI n := by rw [F2.I (by omega)]; exact b1
      have e92 : hI g2 92 = hI h1 92 := funext fun k => by rw [F2.I (by omega), F1.I (by omega)]
      have F3 : Fz SK h1 g2 := (F1.sub (fun a k q => by unfold SK; omega)).tr (F2.sub (fun a k q => by unfold SK; omega))
      have hA : MA (hI g2 92) (hI g2 77 44) (sC S) ((sA S).take n) := by
        rw [e92, b2]
        refine ⟨by rw [List.length_take, Nat.min_eq_left (by omega)], by rw [List.length_take]; omega, fun i hi => ?_⟩
        rw [List.length_take] at hi
        rw [gT_t (by omega)]; exact a3 i (by omega)
      have hT : MT g2 0 (sC S) ((sA S).getD n T00) := mr_mt.mp (MR.cp W.1 (a3 n (by omega)) (fun j hj => by rw [Nat.zero_add, e j hj, F1.I (by omega)]))
      have HB : MB g2 as ar (sC S) ((sA S).getD n T00) := ⟨H.1.fz F3 (fun a k q => by unfold SK SM at q; omega), hT, by rw [F3.I (by unfold SK SM; omega)]; exact H.2.2⟩
      refine go_iloadn dX10_undo_26 rfl ?_
      refine go_bipush (v := 105) dX10_undo_27 rfl ?_
      refine go_icmp_ge (tgt := 58) dX10_undo_29 (by decide) (fun c29 => ?_) (fun c29 => absurd (by decide) c29)
      refine go_aloadn dX10_undo_58 rfl ?_
      refine sg_getI dX10_undo_59 fX10_283 rfl (mo_L rfl) hS ?_
      rw [b2]
      refine go_ireturn dX10_undo_62 rfl rfl (Nat.zero_le _) (Nat.zero_le _) ?_
      exact qo_ok rfl (by rw [F2.I (by omega), F1.I (by omega)]; exact h0) ⟨as, ar, HB, KR.acts F3 hA⟩ (hF.sa.tr F3.ka)
