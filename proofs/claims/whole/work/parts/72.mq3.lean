/-! the model: later, has, takes, quiet, shamed, all -/
theorem mB5 {h : Hp} {C : Cy} {T : Tn} {t : Nat} (H : MT h 105 C T) (ht : t < cN C) : hI h 91 (106 + t) = tO T t ∧ hI h 91 (116 + t) = tB T t ∧ hI h 91 (126 + t) = tS T t ∧ hI h 91 (136 + t) = tX T t := by
  have := H.2.1 t ht
  rw [← Nat.add_assoc, ← Nat.add_assoc, ← Nat.add_assoc, ← Nat.add_assoc] at this; exact this
theorem mH5 {h : Hp} {C : Cy} {T : Tn} {p : Nat} (H : MT h 105 C T) (hp : p < cP C) : hI h 91 (146 + p) = tH T p ∧ hI h 91 (154 + p) = tV T p := by
  have := H.2.2.1 p hp
  rw [← Nat.add_assoc, ← Nat.add_assoc] at this; exact this
theorem m_later {l : Launch} {d as ar : Nat} {x n w : Int32} {C : Cy} {T : Tn} {h : Hp} (W : WC C) (H : MB h as ar C T) (V : WT C T) (hD9 : tD T ≤ 9999) : Qm l (d + 9) mX10_later [.ref 77, .int x, .int n, .int w] h (vLater C T x n w) := by
  have hS := H.1.1
  have hP := W.1.2.1
  refine run_lv [some (.ref 77), some (.int x), some (.int n), some (.int w)] (go := ?_)
  unfold vLater
  refine go_aloadn dX10_later_0 rfl ?_
  refine go_iconst (v := 0) dX10_later_1 rfl ?_
  refine sg_putI dX10_later_2 fX10_102 rfl rfl (mo_L rfl) hS ?_
  have hF : Fz SM h (uI h 77 0 0) := Fz.rf.uI sm0
  have H := H.sm W hF
  have h0 : hI (uI h 77 0 0) 77 0 = 0 := hI_uI_eq
  generalize uI h 77 0 0 = h1 at *
  have hS := H.1.1
  refine go_aloadn dX10_later_5 rfl ?_
  refine go_iloadn dX10_later_6 rfl ?_
  refine sg_mnd (M' := mX10_isPerson) ([.int x]) dX10_later_7 lX10_362 vX10_isPerson (mo_L rfl) (by decide) rfl hS (q_isPerson H.1 h0).1 (q_isPerson H.1 h0).2 rfl (Nat.le_of_ble_eq_true rfl) (fun k7 => ?_) (fun k7 => ?_)
  · refine go_if_eq (tgt := 32) dX10_later_10 (by decide) (fun _ => ?_) (fun c => absurd rfl c)
    refine go_iconst (v := 0) dX10_later_32 rfl ?_
    refine go_ireturn dX10_later_33 rfl rfl (Nat.zero_le _) (Nat.zero_le _) ?_
    exact ⟨⟨0, rfl, fun q => absurd q (by decide)⟩, hI_uI_eq, hF.uI sm0⟩
  refine go_if_eq (tgt := 32) dX10_later_10 (by decide) (fun c10 => absurd c10 (by decide)) (fun c10 => ?_)
  refine go_aloadn dX10_later_13 rfl ?_
  refine go_iloadn dX10_later_14 rfl ?_
  refine go_iconst (v := 1) dX10_later_15 rfl ?_
  refine sg_mnd (M' := mX10_isWhat) ([.int w, .int 1]) dX10_later_16 lX10_365 vX10_isWhat (mo_L rfl) (by decide) rfl hS (q_isWhat hS h0).1 (q_isWhat hS h0).2 rfl (Nat.le_of_ble_eq_true rfl) (fun k16 => ?_) (fun k16 => ?_)
  · refine go_if_eq (tgt := 32) dX10_later_19 (by decide) (fun _ => ?_) (fun c => absurd rfl c)
    refine go_iconst (v := 0) dX10_later_32 rfl ?_
    refine go_ireturn dX10_later_33 rfl rfl (Nat.zero_le _) (Nat.zero_le _) ?_
    exact ⟨⟨0, rfl, fun q => absurd q (by decide)⟩, hI_uI_eq, hF.uI sm0⟩
  refine go_if_eq (tgt := 32) dX10_later_19 (by decide) (fun c19 => absurd c19 (by decide)) (fun c19 => ?_)
  refine go_aloadn dX10_later_22 rfl ?_
  refine go_iloadn dX10_later_23 rfl ?_
  refine go_iconst (v := 0) dX10_later_24 rfl ?_
  refine go_iconst (v := 2) dX10_later_25 rfl ?_
  refine sg_mnd (M' := mX10_isSoon) ([.int n, .int 0, .int (nI 2)]) dX10_later_26 lX10_399 vX10_isSoon (mo_L rfl) (by decide) rfl hS (q_isSoon hS h0 (by decide) (by decide)).1 (q_isSoon hS h0 (by decide) (by decide)).2 rfl (Nat.le_of_ble_eq_true rfl) (fun k26 => ?_) (fun k26 => ?_)
  · refine go_if_ne (tgt := 34) dX10_later_29 (by decide) (fun c => absurd rfl c) (fun _ => ?_)
    refine go_iconst (v := 0) dX10_later_32 rfl ?_
    refine go_ireturn dX10_later_33 rfl rfl (Nat.zero_le _) (Nat.zero_le _) ?_
    exact ⟨⟨0, rfl, fun q => absurd q (by decide)⟩, hI_uI_eq, hF.uI sm0⟩
  refine go_if_ne (tgt := 34) dX10_later_29 (by decide) (fun c29 => ?_) (fun c29 => absurd c29 (by decide))
  obtain ⟨p, hp, rfl⟩ := ok_nI (by omega) k7
  obtain ⟨j, -, hj, rfl⟩ := rg_nI (a := 0) (b := 100) rfl rfl (by decide) (by decide) k26
  rw [cl_nI (show p < 2 ^ 31 by omega), cl_nI (show j < 2 ^ 31 by omega)]
  refine go_aloadn dX10_later_34 rfl ?_
  refine go_iloadn dX10_later_35 rfl ?_
  refine sg_rV0 (M' := mX10_goesTo) ([.int (nI j)]) dX10_later_36 lX10_402 vX10_goesTo (mo_L rfl) (by decide) rfl hS (q_goesTo W H V (by omega)) rfl (Nat.le_of_ble_eq_true rfl) (Nat.zero_le _) (Nat.zero_le _) (fun g F => ?_)
  have hS := F.2.1.1.1
  refine go_iloadn dX10_later_39 rfl ?_
  refine go_if_ne (tgt := 56) dX10_later_40 (by decide) (fun c40 => ?_) (fun c40 => ?_)
  · refine go_aloadn dX10_later_56 rfl ?_
    refine go_aloadn dX10_later_57 rfl ?_
    refine go_bipush (v := 105) dX10_later_58 rfl ?_
    refine go_iloadn dX10_later_60 rfl ?_
    refine sg_cVi (M' := mX10_ownedBy) ([.int (nI 105), .int (nI p)]) dX10_later_61 lX10_371 vX10_ownedBy (mo_L rfl) (by decide) rfl hS (q_ownedBy W F.2.1.1 F.2.2 (by omega)) rfl (Nat.le_of_ble_eq_true rfl) (Nat.zero_le _) (Nat.zero_le _) ?_
    refine sg_cVi (M' := mX10_heavy) ([.int _]) dX10_later_64 lX10_368 vX10_heavy (mo_L rfl) (by decide) rfl hS (q_heavy W F.2.1.1) rfl (Nat.le_of_ble_eq_true rfl) (Nat.zero_le _) (Nat.zero_le _) ?_
    refine go_ireturn dX10_later_67 rfl rfl (Nat.zero_le _) (Nat.zero_le _) ?_
    first | exact qn_ok (by rw [if_pos c40]) (F.1.t0.trans h0) (hF.tr F.1.sn) | exact qn_ok (by rw [if_neg c40]) (F.1.t0.trans h0) (hF.tr F.1.sn)
  · refine go_aloadn dX10_later_43 rfl ?_
    refine sg_getR dX10_later_44 fX10_66 rfl (mo_L rfl) hS (mo_r42 hS rfl) ?_
    refine go_sipush (v := 146) dX10_later_47 rfl ?_
    refine go_iloadn dX10_later_50 rfl ?_
    refine go_iadd dX10_later_51 ?_
    refine sg_ialdN (i := 146 + p) dX10_later_52 (mo_42 rfl) hS (by simp only [lit_nI, nI_add, pk_mul, Nat.add_assoc, Nat.zero_add, Nat.add_zero]) (by omega) ((mH5 F.2.2 hp).1) ?_
    refine go_goto (tgt := 67) dX10_later_53 (by decide) ?_
    refine go_ireturn dX10_later_67 rfl rfl (Nat.zero_le _) (Nat.zero_le _) ?_
    first | exact qn_ok (by rw [if_pos c40]) (F.1.t0.trans h0) (hF.tr F.1.sn) | exact qn_ok (by rw [if_neg c40]) (F.1.t0.trans h0) (hF.tr F.1.sn)
theorem m_has {l : Launch} {d as ar : Nat} {x n : Int32} {C : Cy} {T : Tn} {h : Hp} (W : WC C) (H : MB h as ar C T) (V : WT C T) (hD9 : tD T ≤ 9999) : Qm l (d + 9) mX10_has [.ref 77, .int x, .int n] h (vHas C T x n) := by
  have hS := H.1.1
  have hP := W.1.2.1
  refine run_lv [some (.ref 77), some (.int x), some (.int n)] (go := ?_)
  unfold vHas
  refine go_aloadn dX10_has_0 rfl ?_
  refine go_iconst (v := 0) dX10_has_1 rfl ?_
  refine sg_putI dX10_has_2 fX10_102 rfl rfl (mo_L rfl) hS ?_
  have hF : Fz SM h (uI h 77 0 0) := Fz.rf.uI sm0
  have H := H.sm W hF
  have h0 : hI (uI h 77 0 0) 77 0 = 0 := hI_uI_eq
  generalize uI h 77 0 0 = h1 at *
  have hS := H.1.1
  refine go_aloadn dX10_has_5 rfl ?_
  refine go_iloadn dX10_has_6 rfl ?_
  refine sg_mnd (M' := mX10_isPerson) ([.int x]) dX10_has_7 lX10_362 vX10_isPerson (mo_L rfl) (by decide) rfl hS (q_isPerson H.1 h0).1 (q_isPerson H.1 h0).2 rfl (Nat.le_of_ble_eq_true rfl) (fun k7 => ?_) (fun k7 => ?_)
  · refine go_if_eq (tgt := 23) dX10_has_10 (by decide) (fun _ => ?_) (fun c => absurd rfl c)
    refine go_iconst (v := 0) dX10_has_23 rfl ?_
    refine go_ireturn dX10_has_24 rfl rfl (Nat.zero_le _) (Nat.zero_le _) ?_
    exact ⟨⟨0, rfl, fun q => absurd q (by decide)⟩, hI_uI_eq, hF.uI sm0⟩
  refine go_if_eq (tgt := 23) dX10_has_10 (by decide) (fun c10 => absurd c10 (by decide)) (fun c10 => ?_)
  refine go_aloadn dX10_has_13 rfl ?_
  refine go_iloadn dX10_has_14 rfl ?_
  refine go_iconst (v := 0) dX10_has_15 rfl ?_
  refine go_iconst (v := 2) dX10_has_16 rfl ?_
  refine sg_mnd (M' := mX10_isSoon) ([.int n, .int 0, .int (nI 2)]) dX10_has_17 lX10_399 vX10_isSoon (mo_L rfl) (by decide) rfl hS (q_isSoon hS h0 (by decide) (by decide)).1 (q_isSoon hS h0 (by decide) (by decide)).2 rfl (Nat.le_of_ble_eq_true rfl) (fun k17 => ?_) (fun k17 => ?_)
  · refine go_if_ne (tgt := 25) dX10_has_20 (by decide) (fun c => absurd rfl c) (fun _ => ?_)
    refine go_iconst (v := 0) dX10_has_23 rfl ?_
    refine go_ireturn dX10_has_24 rfl rfl (Nat.zero_le _) (Nat.zero_le _) ?_
    exact ⟨⟨0, rfl, fun q => absurd q (by decide)⟩, hI_uI_eq, hF.uI sm0⟩
  refine go_if_ne (tgt := 25) dX10_has_20 (by decide) (fun c20 => ?_) (fun c20 => absurd c20 (by decide))
  obtain ⟨j, -, hj, rfl⟩ := rg_nI (a := 0) (b := 100) rfl rfl (by decide) (by decide) k17
  rw [cl_nI (show j < 2 ^ 31 by omega)]
  refine go_aloadn dX10_has_25 rfl ?_
  refine go_iloadn dX10_has_26 rfl ?_
  refine sg_rV0 (M' := mX10_goesTo) ([.int (nI j)]) dX10_has_27 lX10_402 vX10_goesTo (mo_L rfl) (by decide) rfl hS (q_goesTo W H V (by omega)) rfl (Nat.le_of_ble_eq_true rfl) (Nat.zero_le _) (Nat.zero_le _) (fun g F => ?_)
  have hS := F.2.1.1.1
  refine go_aloadn dX10_has_30 rfl ?_
  refine go_bipush (v := 105) dX10_has_31 rfl ?_
  refine go_iloadn dX10_has_33 rfl ?_
  refine sg_cVi (M' := mX10_ownedBy) ([.int (nI 105), .int x]) dX10_has_34 lX10_371 vX10_ownedBy (mo_L rfl) (by decide) rfl hS (q_ownedBy W F.2.1.1 F.2.2 (by omega)) rfl (Nat.le_of_ble_eq_true rfl) (Nat.zero_le _) (Nat.zero_le _) ?_
  refine go_ireturn dX10_has_37 rfl rfl (Nat.zero_le _) (Nat.zero_le _) ?_
  exact qn_ok rfl (F.1.t0.trans h0) (hF.tr F.1.sn)
theorem m_takes {l : Launch} {d as ar : Nat} {x y : Int32} {C : Cy} {T : Tn} {h : Hp} (W : WC C) (H : MB h as ar C T) : Qm l (d + 3) mX10_takes [.ref 77, .int x, .int y] h (vTakes C T x y) := by
  have hS := H.1.1
  refine run_lv [some (.ref 77), some (.int x), some (.int y)] (go := ?_)
  unfold vTakes
  refine go_aloadn dX10_takes_0 rfl ?_
  refine go_iconst (v := 0) dX10_takes_1 rfl ?_
  refine sg_putI dX10_takes_2 fX10_102 rfl rfl (mo_L rfl) hS ?_
  have hF : Fz SM h (uI h 77 0 0) := Fz.rf.uI sm0
  have H := H.sm W hF
  have h0 : hI (uI h 77 0 0) 77 0 = 0 := hI_uI_eq
  generalize uI h 77 0 0 = h1 at *
  have hS := H.1.1
  refine go_aloadn dX10_takes_5 rfl ?_
  refine go_iloadn dX10_takes_6 rfl ?_
  refine sg_mnd (M' := mX10_isPerson) ([.int x]) dX10_takes_7 lX10_362 vX10_isPerson (mo_L rfl) (by decide) rfl hS (q_isPerson H.1 h0).1 (q_isPerson H.1 h0).2 rfl (Nat.le_of_ble_eq_true rfl) (fun k7 => ?_) (fun k7 => ?_)
  · refine go_if_eq (tgt := 37) dX10_takes_10 (by decide) (fun _ => ?_) (fun c => absurd rfl c)
    refine go_iconst (v := 0) dX10_takes_37 rfl ?_
    refine go_ireturn dX10_takes_38 rfl rfl (Nat.zero_le _) (Nat.zero_le _) ?_
    exact ⟨⟨0, rfl, fun q => absurd q (by decide)⟩, hI_uI_eq, hF.uI sm0⟩
  refine go_if_eq (tgt := 37) dX10_takes_10 (by decide) (fun c10 => absurd c10 (by decide)) (fun c10 => ?_)
  refine go_aloadn dX10_takes_13 rfl ?_
  refine go_iloadn dX10_takes_14 rfl ?_
  refine sg_mnd (M' := mX10_isPerson) ([.int y]) dX10_takes_15 lX10_362 vX10_isPerson (mo_L rfl) (by decide) rfl hS (q_isPerson H.1 h0).1 (q_isPerson H.1 h0).2 rfl (Nat.le_of_ble_eq_true rfl) (fun k15 => ?_) (fun k15 => ?_)
  · refine go_if_eq (tgt := 37) dX10_takes_18 (by decide) (fun _ => ?_) (fun c => absurd rfl c)
    refine go_iconst (v := 0) dX10_takes_37 rfl ?_
    refine go_ireturn dX10_takes_38 rfl rfl (Nat.zero_le _) (Nat.zero_le _) ?_
    exact ⟨⟨0, rfl, fun q => absurd q (by decide)⟩, hI_uI_eq, hF.uI sm0⟩
  refine go_if_eq (tgt := 37) dX10_takes_18 (by decide) (fun c18 => absurd c18 (by decide)) (fun c18 => ?_)
  refine go_aloadn dX10_takes_21 rfl ?_
  refine go_iconst (v := 0) dX10_takes_22 rfl ?_
  refine go_iloadn dX10_takes_23 rfl ?_
  refine sg_cVi (M' := mX10_wornBy) ([.int (nI 0), .int x]) dX10_takes_24 lX10_300 vX10_wornBy (mo_L rfl) (by decide) rfl hS (q_wornBy W H.1 H.2.1 (by omega)) rfl (Nat.le_of_ble_eq_true rfl) (Nat.zero_le _) (Nat.zero_le _) ?_
  refine go_aloadn dX10_takes_27 rfl ?_
  refine go_iconst (v := 0) dX10_takes_28 rfl ?_
  refine go_iloadn dX10_takes_29 rfl ?_
  refine sg_cVi (M' := mX10_ownedBy) ([.int (nI 0), .int y]) dX10_takes_30 lX10_371 vX10_ownedBy (mo_L rfl) (by decide) rfl hS (q_ownedBy W H.1 H.2.1 (by omega)) rfl (Nat.le_of_ble_eq_true rfl) (Nat.zero_le _) (Nat.zero_le _) ?_
  refine go_iand dX10_takes_33 ?_
  refine go_goto (tgt := 38) dX10_takes_34 (by decide) ?_
  refine go_ireturn dX10_takes_38 rfl rfl (Nat.zero_le _) (Nat.zero_le _) ?_
  exact qn_ok rfl h0 hF
theorem m_quiet {l : Launch} {d as ar : Nat} {n : Int32} {C : Cy} {T : Tn} {h : Hp} (W : WC C) (H : MB h as ar C T) (V : WT C T) (hD9 : tD T ≤ 9999) : Qm l (d + 7) mX10_quiet [.ref 77, .int n] h (vQuiet C T n) := by
  have hS := H.1.1
  refine run_lv [some (.ref 77), some (.int n), none, none] (go := ?_)
  unfold vQuiet
  refine go_aloadn dX10_quiet_0 rfl ?_
  refine go_iconst (v := 0) dX10_quiet_1 rfl ?_
  refine sg_putI dX10_quiet_2 fX10_102 rfl rfl (mo_L rfl) hS ?_
  have hF : Fz SM h (uI h 77 0 0) := Fz.rf.uI sm0
  have H := H.sm W hF
  have h0 : hI (uI h 77 0 0) 77 0 = 0 := hI_uI_eq
  generalize uI h 77 0 0 = h1 at *
  have hS := H.1.1
  refine go_aloadn dX10_quiet_5 rfl ?_
  refine go_iloadn dX10_quiet_6 rfl ?_
  refine go_iconst (v := 0) dX10_quiet_7 rfl ?_
  refine go_iconst (v := 1) dX10_quiet_8 rfl ?_
  refine sg_mnd (M' := mX10_isSoon) ([.int n, .int 0, .int (nI 1)]) dX10_quiet_9 lX10_399 vX10_isSoon (mo_L rfl) (by decide) rfl hS (q_isSoon hS h0 (by decide) (by decide)).1 (q_isSoon hS h0 (by decide) (by decide)).2 rfl (Nat.le_of_ble_eq_true rfl) (fun k9 => ?_) (fun k9 => ?_)
  · refine go_if_ne (tgt := 17) dX10_quiet_12 (by decide) (fun c => absurd rfl c) (fun _ => ?_)
    refine go_iconst (v := 0) dX10_quiet_15 rfl ?_
    refine go_ireturn dX10_quiet_16 rfl rfl (Nat.zero_le _) (Nat.zero_le _) ?_
    exact ⟨⟨0, rfl, fun q => absurd q (by decide)⟩, hI_uI_eq, hF.uI sm0⟩
  refine go_if_ne (tgt := 17) dX10_quiet_12 (by decide) (fun c12 => ?_) (fun c12 => absurd c12 (by decide))
  obtain ⟨j, -, hj, rfl⟩ := rg_nI (a := 0) (b := 100) rfl rfl (by decide) (by decide) k9
  rw [cl_nI (show j < 2 ^ 31 by omega)]
  refine go_aloadn dX10_quiet_17 rfl ?_
  refine go_iconst (v := 0) dX10_quiet_18 rfl ?_
  refine sg_cVi (M' := mX10_wornOnes) ([.int (nI 0)]) dX10_quiet_19 lX10_353 vX10_wornOnes (mo_L rfl) (by decide) rfl hS (q_wornOnes W H.1 H.2.1 (by omega)) rfl (Nat.le_of_ble_eq_true rfl) (Nat.zero_le _) (Nat.zero_le _) ?_
  refine go_ist2 dX10_quiet_22 rfl ?_
  refine go_aloadn dX10_quiet_23 rfl ?_
  refine sg_rV0 (M' := mX10_tries) ([]) dX10_quiet_24 lX10_393 vX10_tries (mo_L rfl) (by decide) rfl hS (q_tries W H) rfl (Nat.le_of_ble_eq_true rfl) (Nat.zero_le _) (Nat.zero_le _) (fun g0 F0 => ?_)
  refine go_iconst (v := 0) dX10_quiet_27 rfl ?_
  refine go_ist3 dX10_quiet_28 rfl ?_
  skip
  refine go_loopR (lvf := fun k => [some (.ref 77), some (.int (nI j)), some (.int (nwT C (t0 T) k)), some (.int (nI k))]) j (fun k g => Fz SN h1 g ∧ ME g as ar C T (dnT C (t0 T) k)) (fun k g hk hh ih => ?_) (fun g hh => ?_) 0 g0 (Nat.zero_le _) F0
  · obtain ⟨F, H2⟩ := hh
    have hS := H2.1.1.1
    refine go_iloadn dX10_quiet_29 rfl ?_
    refine go_iloadn dX10_quiet_30 rfl ?_
    refine go_icmp_ge (tgt := 55) dX10_quiet_31 (by decide) (fun c31 => absurd c31 (nI_ge hk (by omega))) (fun c31 => ?_)
    refine go_aloadn dX10_quiet_34 rfl ?_
    refine go_bipush (v := 105) dX10_quiet_35 rfl ?_
    refine sg_rV0 (M' := mX10_dayGoes) ([.int (nI 105)]) dX10_quiet_37 lX10_343 vX10_dayGoes (mo_L rfl) (by decide) rfl hS (q_day W H2 (V.t0.dn W) (by rw [tD_dn]; show tD T + k + 1 < 2 ^ 30; omega)) rfl (Nat.le_of_ble_eq_true rfl) (Nat.zero_le _) (Nat.zero_le _) (fun g' F' => ?_)
    have hS := F'.2.1.1.1.1
    refine go_iloadn dX10_quiet_40 rfl ?_
    refine go_aloadn dX10_quiet_41 rfl ?_
    refine go_bipush (v := 105) dX10_quiet_42 rfl ?_
    refine sg_cVi (M' := mX10_wornOnes) ([.int (nI 105)]) dX10_quiet_44 lX10_353 vX10_wornOnes (mo_L rfl) (by decide) rfl hS (q_wornOnes W F'.2.1.1.1 F'.2.1.2 (by omega)) rfl (Nat.le_of_ble_eq_true rfl) (Nat.zero_le _) (Nat.zero_le _) ?_
    refine go_ior dX10_quiet_47 ?_
    refine go_ist2 dX10_quiet_48 rfl ?_
    refine go_iinc3 (c1 := 1) dX10_quiet_49 rfl rfl ?_
    refine go_goto (tgt := 29) dX10_quiet_52 (by decide) ?_
    exact go_cong (ih g' ⟨F.tr F'.1, F'.2.1⟩) (by simp [nI_1, nwT, foF, dnT]) rfl
  · obtain ⟨F, H2⟩ := hh
    have hS := H2.1.1.1
    refine go_iloadn dX10_quiet_29 rfl ?_
    refine go_iloadn dX10_quiet_30 rfl ?_
    refine go_icmp_ge (tgt := 55) dX10_quiet_31 (by decide) (fun c31 => ?_) (fun c31 => absurd (nI_le (Nat.le_refl _) (by omega)) c31)
    refine go_iconst (v := 1) dX10_quiet_55 rfl ?_
    refine go_aloadn dX10_quiet_56 rfl ?_
    refine sg_getI dX10_quiet_57 fX10_276 rfl (mo_L rfl) hS ?_
    rw [H2.1.1.2.1.2.2.1]
    refine go_ishl dX10_quiet_60 ?_
    refine go_iconst (v := 1) dX10_quiet_61 rfl ?_
    refine go_isub dX10_quiet_62 ?_
    refine go_iloadn dX10_quiet_63 rfl ?_
    refine go_iconst (v := -1) dX10_quiet_64 rfl ?_
    refine go_ixor dX10_quiet_65 ?_
    refine go_iand dX10_quiet_66 ?_
    refine go_ireturn dX10_quiet_67 rfl rfl (Nat.zero_le _) (Nat.zero_le _) ?_
    exact qn_ok rfl (F.t0.trans h0) (hF.tr F.sn)
theorem m_shamed {l : Launch} {d as ar : Nat} {x m : Int32} {C : Cy} {T : Tn} {h : Hp} (W : WC C) (H : MB h as ar C T) (V : WT C T) (hD9 : tD T ≤ 9999) : Qm l (d + 7) mX10_shamed [.ref 77, .int x, .int m] h (vShamed C T x m) := by
  have hS := H.1.1
  have hP := W.1.2.1
  refine run_lv [some (.ref 77), some (.int x), some (.int m), none] (go := ?_)
  unfold vShamed
  refine go_aloadn dX10_shamed_0 rfl ?_
  refine go_iconst (v := 0) dX10_shamed_1 rfl ?_
  refine sg_putI dX10_shamed_2 fX10_102 rfl rfl (mo_L rfl) hS ?_
  have hF : Fz SM h (uI h 77 0 0) := Fz.rf.uI sm0
  have H := H.sm W hF
  have h0 : hI (uI h 77 0 0) 77 0 = 0 := hI_uI_eq
  generalize uI h 77 0 0 = h1 at *
  have hS := H.1.1
  refine go_aloadn dX10_shamed_5 rfl ?_
  refine go_iloadn dX10_shamed_6 rfl ?_
  refine sg_mnd (M' := mX10_isPerson) ([.int x]) dX10_shamed_7 lX10_362 vX10_isPerson (mo_L rfl) (by decide) rfl hS (q_isPerson H.1 h0).1 (q_isPerson H.1 h0).2 rfl (Nat.le_of_ble_eq_true rfl) (fun k7 => ?_) (fun k7 => ?_)
  · refine go_if_eq (tgt := 28) dX10_shamed_10 (by decide) (fun _ => ?_) (fun c => absurd rfl c)
    refine go_iconst (v := 0) dX10_shamed_28 rfl ?_
    refine go_ireturn dX10_shamed_29 rfl rfl (Nat.zero_le _) (Nat.zero_le _) ?_
    exact ⟨⟨0, rfl, fun q => absurd q (by decide)⟩, hI_uI_eq, hF.uI sm0⟩
  refine go_if_eq (tgt := 28) dX10_shamed_10 (by decide) (fun c10 => absurd c10 (by decide)) (fun c10 => ?_)
  refine go_aloadn dX10_shamed_13 rfl ?_
  refine go_iloadn dX10_shamed_14 rfl ?_
  refine go_iconst (v := 1) dX10_shamed_15 rfl ?_
  refine go_bipush (v := 99) dX10_shamed_16 rfl ?_
  refine sg_cSi (M' := mX10_within) ([.int m, .int 1, .int 99]) dX10_shamed_18 lX10_349 sX10_within hS (q_within) rfl (Nat.le_of_ble_eq_true rfl) (Nat.zero_le _) (Nat.zero_le _) ?_
  refine go_iconst (v := 2) dX10_shamed_21 rfl ?_
  refine sg_mnd (M' := mX10_right) ([.int _, .int (nI 2)]) dX10_shamed_22 lX10_266 vX10_right (mo_L rfl) (by decide) rfl hS (q_right hS h0 (by decide) (by decide)).1 (q_right hS h0 (by decide) (by decide)).2 rfl (Nat.le_of_ble_eq_true rfl) (fun k22 => ?_) (fun k22 => ?_)
  · refine go_if_ne (tgt := 30) dX10_shamed_25 (by decide) (fun c => absurd rfl c) (fun _ => ?_)
    refine go_iconst (v := 0) dX10_shamed_28 rfl ?_
    refine go_ireturn dX10_shamed_29 rfl rfl (Nat.zero_le _) (Nat.zero_le _) ?_
    exact ⟨⟨0, rfl, fun q => absurd q (by decide)⟩, hI_uI_eq, hF.uI sm0⟩
  refine go_if_ne (tgt := 30) dX10_shamed_25 (by decide) (fun c25 => ?_) (fun c25 => absurd c25 (by decide))
  obtain ⟨p, hp, rfl⟩ := ok_nI (by omega) k7
  rw [cl_nI (show p < 2 ^ 31 by omega)]
  refine go_aloadn dX10_shamed_30 rfl ?_
  refine sg_rV0 (M' := mX10_tries) ([]) dX10_shamed_31 lX10_393 vX10_tries (mo_L rfl) (by decide) rfl hS (q_tries W H) rfl (Nat.le_of_ble_eq_true rfl) (Nat.zero_le _) (Nat.zero_le _) (fun g0 F0 => ?_)
  refine go_iconst (v := 0) dX10_shamed_34 rfl ?_
  refine go_ist3 dX10_shamed_35 rfl ?_
  skip
  refine go_loopR (lvf := fun k => [some (.ref 77), some (.int (nI p)), some (.int m), some (.int (nI k))]) 101 (fun k g => (Fz SN h1 g ∧ ME g as ar C T (dnT C (t0 T) k)) ∧ ∀ j, j < k → ¬ m ≤ tH (dnT C (t0 T) j) p) (fun k g hk hh ih => ?_) (fun g hh => ?_) 0 g0 (Nat.zero_le _) ⟨F0, fun _ q => absurd q (by omega)⟩
  · obtain ⟨⟨F, H2⟩, hh⟩ := hh
    have hS := H2.1.1.1
    refine go_iloadn dX10_shamed_36 rfl ?_
    refine go_bipush (v := 100) dX10_shamed_37 rfl ?_
    refine go_icmp_gt (tgt := 70) dX10_shamed_39 (by decide) (fun c39 => absurd c39 (nI_nlt (a := 100) (by omega) (by decide))) (fun c39 => ?_)
    refine go_aloadn dX10_shamed_42 rfl ?_
    refine sg_getR dX10_shamed_43 fX10_66 rfl (mo_L rfl) hS (mo_r42 hS rfl) ?_
    refine go_sipush (v := 146) dX10_shamed_46 rfl ?_
    refine go_iloadn dX10_shamed_49 rfl ?_
    refine go_iadd dX10_shamed_50 ?_
    refine sg_ialdN (i := 146 + p) dX10_shamed_51 (mo_42 rfl) hS (by simp only [lit_nI, nI_add, pk_mul, Nat.add_assoc, Nat.zero_add, Nat.add_zero]) (by omega) ((mH5 H2.2 hp).1) ?_
    refine go_iloadn dX10_shamed_52 rfl ?_
    refine go_icmp_lt (tgt := 58) dX10_shamed_53 (by decide) (fun c53 => ?_) (fun c53 => ?_)
    · refine go_aloadn dX10_shamed_58 rfl ?_
      refine go_bipush (v := 105) dX10_shamed_59 rfl ?_
      refine sg_rV0 (M' := mX10_dayGoes) ([.int (nI 105)]) dX10_shamed_61 lX10_343 vX10_dayGoes (mo_L rfl) (by decide) rfl hS (q_day W H2 (V.t0.dn W) (by rw [tD_dn]; show tD T + k + 1 < 2 ^ 30; omega)) rfl (Nat.le_of_ble_eq_true rfl) (Nat.zero_le _) (Nat.zero_le _) (fun g' F' => ?_)
      refine go_iinc3 (c1 := 1) dX10_shamed_64 rfl rfl ?_
      refine go_goto (tgt := 36) dX10_shamed_67 (by decide) ?_
      exact go_cong (ih g' ⟨⟨F.tr F'.1, F'.2.1⟩, fun j hj => by by_cases e : j = k; (· subst e; exact Int32.not_le.mpr c53); exact hh j (by omega)⟩) (by simp [nI_1]) rfl
    · refine go_iloadn dX10_shamed_56 rfl ?_
      refine go_ireturn dX10_shamed_57 rfl rfl (Nat.zero_le _) (Nat.zero_le _) ?_
      exact qn_ok (by rw [fs_some hk (Int32.not_lt.mp c53) hh]; rfl) (F.t0.trans h0) (hF.tr F.sn)
  · obtain ⟨⟨F, H2⟩, hh⟩ := hh
    have hS := H2.1.1.1
    refine go_iloadn dX10_shamed_36 rfl ?_
    refine go_bipush (v := 100) dX10_shamed_37 rfl ?_
    refine go_icmp_gt (tgt := 70) dX10_shamed_39 (by decide) (fun c39 => ?_) (fun c39 => absurd (by decide) c39)
    refine go_iconst (v := -1) dX10_shamed_70 rfl ?_
    refine go_ireturn dX10_shamed_71 rfl rfl (Nat.zero_le _) (Nat.zero_le _) ?_
    exact qn_ok (by rw [fs_none hh]; rfl) (F.t0.trans h0) (hF.tr F.sn)
theorem ix_be {a : Int32} {k : Nat} (e : nI a.toNatClampNeg = a) : nI k + a = nI (k + a.toNatClampNeg) := by rw [← nI_add, e]
theorem be_1 {a u v x : Int32} (h : a = -1) : x = (if True ∧ (a = -1 ∨ u < v) then x else a) := (if_pos ⟨trivial, Or.inl h⟩).symm
theorem be_2 {a u v x : Int32} (h : ¬ a = -1) (h2 : v ≤ u) : a = (if True ∧ (a = -1 ∨ u < v) then x else a) := (if_neg (fun z => z.2.elim h (Int32.not_lt.mpr h2))).symm
theorem be_3 {a u v x : Int32} (h2 : ¬ v ≤ u) : x = (if True ∧ (a = -1 ∨ u < v) then x else a) := (if_pos ⟨trivial, Or.inr (Int32.not_le.mp h2)⟩).symm
theorem all9 {v0 v1 v2 v3 : Option Value} {a b a' b' : Int32} {p : Nat} (ha : a = a') (hb : b = b') : [v0, v1, v2, v3, some (.int a), some (.int b), some (.int (nI p + 1))] = [v0, v1, v2, v3, some (.int a'), some (.int b'), some (.int (nI (p + 1)))] := by rw [ha, hb, nI_1]
theorem m_all {l : Launch} {d as ar : Nat} {n w : Int32} {C : Cy} {T : Tn} {h : Hp} (W : WC C) (H : MB h as ar C T) (V : WT C T) (hD9 : tD T ≤ 9999) : Qm l (d + 7) mX10_all [.ref 77, .int n, .int w] h (vAll C T n w) := by
  have hS := H.1.1
  have hP := W.1.2.1
  refine run_lv [some (.ref 77), some (.int n), some (.int w), none, none, none, none] (go := ?_)
  unfold vAll
  refine go_aloadn dX10_all_0 rfl ?_
  refine go_iconst (v := 0) dX10_all_1 rfl ?_
  refine sg_putI dX10_all_2 fX10_102 rfl rfl (mo_L rfl) hS ?_
  have hF : Fz SM h (uI h 77 0 0) := Fz.rf.uI sm0
  have H := H.sm W hF
  have h0 : hI (uI h 77 0 0) 77 0 = 0 := hI_uI_eq
  generalize uI h 77 0 0 = h1 at *
  have hS := H.1.1
  refine go_aloadn dX10_all_5 rfl ?_
  refine go_iloadn dX10_all_6 rfl ?_
  refine go_iconst (v := 3) dX10_all_7 rfl ?_
  refine sg_mnd (M' := mX10_isWhat) ([.int w, .int 3]) dX10_all_8 lX10_365 vX10_isWhat (mo_L rfl) (by decide) rfl hS (q_isWhat hS h0).1 (q_isWhat hS h0).2 rfl (Nat.le_of_ble_eq_true rfl) (fun k8 => ?_) (fun k8 => ?_)
  · refine go_if_eq (tgt := 24) dX10_all_11 (by decide) (fun _ => ?_) (fun c => absurd rfl c)
    refine go_iconst (v := 0) dX10_all_24 rfl ?_
    refine go_ireturn dX10_all_25 rfl rfl (Nat.zero_le _) (Nat.zero_le _) ?_
    exact ⟨⟨0, rfl, fun q => absurd q (by decide)⟩, hI_uI_eq, hF.uI sm0⟩
  refine go_if_eq (tgt := 24) dX10_all_11 (by decide) (fun c11 => absurd c11 (by decide)) (fun c11 => ?_)
  refine go_aloadn dX10_all_14 rfl ?_
  refine go_iloadn dX10_all_15 rfl ?_
  refine go_iconst (v := 0) dX10_all_16 rfl ?_
  refine go_iconst (v := 2) dX10_all_17 rfl ?_
  refine sg_mnd (M' := mX10_isSoon) ([.int n, .int 0, .int (nI 2)]) dX10_all_18 lX10_399 vX10_isSoon (mo_L rfl) (by decide) rfl hS (q_isSoon hS h0 (by decide) (by decide)).1 (q_isSoon hS h0 (by decide) (by decide)).2 rfl (Nat.le_of_ble_eq_true rfl) (fun k18 => ?_) (fun k18 => ?_)
  · refine go_if_ne (tgt := 26) dX10_all_21 (by decide) (fun c => absurd rfl c) (fun _ => ?_)
    refine go_iconst (v := 0) dX10_all_24 rfl ?_
    refine go_ireturn dX10_all_25 rfl rfl (Nat.zero_le _) (Nat.zero_le _) ?_
    exact ⟨⟨0, rfl, fun q => absurd q (by decide)⟩, hI_uI_eq, hF.uI sm0⟩
  refine go_if_ne (tgt := 26) dX10_all_21 (by decide) (fun c21 => ?_) (fun c21 => absurd c21 (by decide))
  obtain ⟨i, -, hi, rfl⟩ := rg_nI (a := 0) (b := 3) rfl rfl (by decide) (by decide) k8
  obtain ⟨j, -, hj, rfl⟩ := rg_nI (a := 0) (b := 100) rfl rfl (by decide) (by decide) k18
  rw [cl_nI (show j < 2 ^ 31 by omega)]
  refine go_iconst (v := 0) dX10_all_26 rfl ?_
  refine go_ist3 dX10_all_27 rfl ?_
  refine go_aloadn dX10_all_28 rfl ?_
  refine sg_rV0 (M' := mX10_tries) ([]) dX10_all_29 lX10_393 vX10_tries (mo_L rfl) (by decide) rfl hS (q_tries W H) rfl (Nat.le_of_ble_eq_true rfl) (Nat.zero_le _) (Nat.zero_le _) (fun g0 F0 => ?_)
  refine go_iconst (v := 0) dX10_all_32 rfl ?_
  refine go_ist4 dX10_all_33 rfl ?_
  skip
  refine go_loopR (lvf := fun k => [some (.ref 77), some (.int (nI j)), some (.int (nI i)), some (.int (tC (dnT C (t0 T) k))), some (.int (nI k)), none, none]) j (fun k g => Fz SN h1 g ∧ ME g as ar C T (dnT C (t0 T) k)) (fun k g hk hh ih => ?_) (fun g hh => ?_) 0 g0 (Nat.zero_le _) F0
  · obtain ⟨F, H2⟩ := hh
    have hS := H2.1.1.1
    have es : dnT C (t0 T) (k + 1) = dayT C 0 (dnT C (t0 T) k) := rfl
    rw [es] at ih
    refine go_iload dX10_all_35 rfl ?_
    refine go_iloadn dX10_all_37 rfl ?_
    refine go_icmp_ge (tgt := 60) dX10_all_38 (by decide) (fun c38 => absurd c38 (nI_ge hk (by omega))) (fun c38 => ?_)
    refine go_aloadn dX10_all_41 rfl ?_
    refine go_bipush (v := 105) dX10_all_42 rfl ?_
    refine sg_rV0 (M' := mX10_dayGoes) ([.int (nI 105)]) dX10_all_44 lX10_343 vX10_dayGoes (mo_L rfl) (by decide) rfl hS (q_day W H2 (V.t0.dn W) (by rw [tD_dn]; show tD T + k + 1 < 2 ^ 30; omega)) rfl (Nat.le_of_ble_eq_true rfl) (Nat.zero_le _) (Nat.zero_le _) (fun g' F' => ?_)
    have hS := F'.2.1.1.1.1
    refine go_iloadn dX10_all_47 rfl ?_
    refine go_aloadn dX10_all_48 rfl ?_
    refine sg_getI dX10_all_49 fX10_330 rfl (mo_L rfl) hS ?_
    refine go_iadd dX10_all_52 ?_
    rw [F'.2.2]
    refine go_ist3 dX10_all_53 rfl ?_
    refine go_iinc4 (c1 := 1) dX10_all_54 rfl rfl ?_
    refine go_goto (tgt := 35) dX10_all_57 (by decide) ?_
    exact go_cong (ih g' ⟨F.tr F'.1, F'.2.1⟩) (by simp [nI_1]) rfl
  · obtain ⟨F, H2⟩ := hh
    have hS := H2.1.1.1
    generalize dnT C (t0 T) j = T1 at *
    refine go_iload dX10_all_35 rfl ?_
    refine go_iloadn dX10_all_37 rfl ?_
    refine go_icmp_ge (tgt := 60) dX10_all_38 (by decide) (fun c38 => ?_) (fun c38 => absurd (nI_le (Nat.le_refl _) (by omega)) c38)
    refine go_iconst (v := -1) dX10_all_60 rfl ?_
    refine go_ist4 dX10_all_61 rfl ?_
    refine go_iconst (v := -1) dX10_all_63 rfl ?_
    refine go_ist5 dX10_all_64 rfl ?_
    refine go_iconst (v := 0) dX10_all_66 rfl ?_
    refine go_ist6 dX10_all_67 rfl ?_
    skip
    refine go_back (lv' := [some (.ref 77), some (.int (nI j)), some (.int (nI i)), some (.int (tC T1)), some (.int (-1)), some (.int (-1)), some (.int (nI 0))]) ?_ (by simp [lsub]; rfl) rfl
    refine go_loop (lvf := fun p => [some (.ref 77), some (.int (nI j)), some (.int (nI i)), some (.int (tC T1)), some (.int (beF (fun _ => True) (weT C T1) p)), some (.int (beF (fun _ => True) (tH T1) p)), some (.int (nI p))]) (hf := fun _ => g) (cP C) (fun _ => True) (fun p hp _ ih => ?_) (fun _ => ?_) 0 (Nat.zero_le _) trivial
    · have hpe := H2.1.1.2.1.2.1
      have r1 := fun z => beF_nI (Q := fun _ => True) (f := weT C T1) (n := p) (by omega) z
      have r2 := fun z => beF_nI (Q := fun _ => True) (f := tH T1) (n := p) (by omega) z
      have r3 := fun z => (vp_nI (beF_ok (Q := fun _ => True) (f := tH T1) (n := p) (m := p) (Nat.le_refl _) (by omega) z) (by omega)).2
      rw [beF_s, beF_s] at ih
      generalize beF (fun _ => True) (weT C T1) p = a at *
      generalize beF (fun _ => True) (tH T1) p = b at *
      refine go_iload dX10_all_69 rfl ?_
      refine go_aloadn dX10_all_71 rfl ?_
      refine sg_getI dX10_all_72 fX10_273 rfl (mo_L rfl) hS ?_
      rw [hpe]
      refine go_icmp_ge (tgt := 156) dX10_all_75 (by decide) (fun c75 => absurd c75 (nI_ge hp (by omega))) (fun c75 => ?_)
      refine go_iload dX10_all_78 rfl ?_
      refine go_iconst (v := -1) dX10_all_80 rfl ?_
      refine go_icmp_eq (tgt := 111) dX10_all_81 (by decide) (fun c81 => ?_) (fun c81 => ?_)
      · refine go_iload dX10_all_111 rfl ?_
        refine go_ist4 dX10_all_113 rfl ?_
        refine go_iload dX10_all_115 rfl ?_
        refine go_iconst (v := -1) dX10_all_117 rfl ?_
        refine go_icmp_eq (tgt := 146) dX10_all_118 (by decide) (fun c118 => ?_) (fun c118 => ?_)
        · refine go_iload dX10_all_146 rfl ?_
          refine go_ist5 dX10_all_148 rfl ?_
          refine go_iinc6 (c1 := 1) dX10_all_150 rfl rfl ?_
          refine go_goto (tgt := 69) dX10_all_153 (by decide) ?_
          first | exact go_cong (ih trivial) (all9 (be_1 c81) (be_1 c118)) rfl | exact go_cong (ih trivial) (all9 (be_1 c81) (be_2 c118 c143)) rfl | exact go_cong (ih trivial) (all9 (be_1 c81) (be_3 c143)) rfl | exact go_cong (ih trivial) (all9 (be_2 c81 c108) (be_1 c118)) rfl | exact go_cong (ih trivial) (all9 (be_2 c81 c108) (be_2 c118 c143)) rfl | exact go_cong (ih trivial) (all9 (be_2 c81 c108) (be_3 c143)) rfl | exact go_cong (ih trivial) (all9 (be_3 c108) (be_1 c118)) rfl | exact go_cong (ih trivial) (all9 (be_3 c108) (be_2 c118 c143)) rfl | exact go_cong (ih trivial) (all9 (be_3 c108) (be_3 c143)) rfl
        · refine go_aloadn dX10_all_121 rfl ?_
          refine sg_getR dX10_all_122 fX10_66 rfl (mo_L rfl) hS (mo_r42 hS rfl) ?_
          refine go_sipush (v := 146) dX10_all_125 rfl ?_
          refine go_iload dX10_all_128 rfl ?_
          refine go_iadd dX10_all_130 ?_
          refine sg_ialdN (i := 146 + p) dX10_all_131 (mo_42 rfl) hS (by simp only [lit_nI, nI_add, pk_mul, Nat.add_assoc, Nat.zero_add, Nat.add_zero]) (by omega) ((mH5 H2.2 hp).1) ?_
          refine go_aloadn dX10_all_132 rfl ?_
          refine sg_getR dX10_all_133 fX10_66 rfl (mo_L rfl) hS (mo_r42 hS rfl) ?_
          refine go_sipush (v := 146) dX10_all_136 rfl ?_
          refine go_iload dX10_all_139 rfl ?_
          refine go_iadd dX10_all_141 ?_
          have hb3 := r3 c118
          rw [show (146 : Int32) + b = nI (146 + b.toNatClampNeg) from ix_be (r2 c118)]
          refine sg_ialdN (i := 146 + b.toNatClampNeg) dX10_all_142 (mo_42 rfl) hS (by simp only [lit_nI, nI_add, pk_mul, Nat.add_assoc, Nat.zero_add, Nat.add_zero]) (by omega) ((mH5 H2.2 (Nat.lt_trans (r3 c118) hp)).1) ?_
          refine go_icmp_le (tgt := 150) dX10_all_143 (by decide) (fun c143 => ?_) (fun c143 => ?_)
          · refine go_iinc6 (c1 := 1) dX10_all_150 rfl rfl ?_
            refine go_goto (tgt := 69) dX10_all_153 (by decide) ?_
            first | exact go_cong (ih trivial) (all9 (be_1 c81) (be_1 c118)) rfl | exact go_cong (ih trivial) (all9 (be_1 c81) (be_2 c118 c143)) rfl | exact go_cong (ih trivial) (all9 (be_1 c81) (be_3 c143)) rfl | exact go_cong (ih trivial) (all9 (be_2 c81 c108) (be_1 c118)) rfl | exact go_cong (ih trivial) (all9 (be_2 c81 c108) (be_2 c118 c143)) rfl | exact go_cong (ih trivial) (all9 (be_2 c81 c108) (be_3 c143)) rfl | exact go_cong (ih trivial) (all9 (be_3 c108) (be_1 c118)) rfl | exact go_cong (ih trivial) (all9 (be_3 c108) (be_2 c118 c143)) rfl | exact go_cong (ih trivial) (all9 (be_3 c108) (be_3 c143)) rfl
          · refine go_iload dX10_all_146 rfl ?_
            refine go_ist5 dX10_all_148 rfl ?_
            refine go_iinc6 (c1 := 1) dX10_all_150 rfl rfl ?_
            refine go_goto (tgt := 69) dX10_all_153 (by decide) ?_
            first | exact go_cong (ih trivial) (all9 (be_1 c81) (be_1 c118)) rfl | exact go_cong (ih trivial) (all9 (be_1 c81) (be_2 c118 c143)) rfl | exact go_cong (ih trivial) (all9 (be_1 c81) (be_3 c143)) rfl | exact go_cong (ih trivial) (all9 (be_2 c81 c108) (be_1 c118)) rfl | exact go_cong (ih trivial) (all9 (be_2 c81 c108) (be_2 c118 c143)) rfl | exact go_cong (ih trivial) (all9 (be_2 c81 c108) (be_3 c143)) rfl | exact go_cong (ih trivial) (all9 (be_3 c108) (be_1 c118)) rfl | exact go_cong (ih trivial) (all9 (be_3 c108) (be_2 c118 c143)) rfl | exact go_cong (ih trivial) (all9 (be_3 c108) (be_3 c143)) rfl
      · refine go_aloadn dX10_all_84 rfl ?_
        refine go_aloadn dX10_all_85 rfl ?_
        refine go_bipush (v := 105) dX10_all_86 rfl ?_
        refine go_iload dX10_all_88 rfl ?_
        refine sg_cVi (M' := mX10_ownedBy) ([.int (nI 105), .int (nI p)]) dX10_all_90 lX10_371 vX10_ownedBy (mo_L rfl) (by decide) rfl hS (q_ownedBy W H2.1.1 H2.2 (by omega)) rfl (Nat.le_of_ble_eq_true rfl) (Nat.zero_le _) (Nat.zero_le _) ?_
        refine sg_cVi (M' := mX10_heavy) ([.int _]) dX10_all_93 lX10_368 vX10_heavy (mo_L rfl) (by decide) rfl hS (q_heavy W H2.1.1) rfl (Nat.le_of_ble_eq_true rfl) (Nat.zero_le _) (Nat.zero_le _) ?_
        refine go_aloadn dX10_all_96 rfl ?_
        refine go_aloadn dX10_all_97 rfl ?_
        refine go_bipush (v := 105) dX10_all_98 rfl ?_
        refine go_iload dX10_all_100 rfl ?_
        refine sg_cVi (M' := mX10_ownedBy) ([.int (nI 105), .int a]) dX10_all_102 lX10_371 vX10_ownedBy (mo_L rfl) (by decide) rfl hS (q_ownedBy W H2.1.1 H2.2 (by omega)) rfl (Nat.le_of_ble_eq_true rfl) (Nat.zero_le _) (Nat.zero_le _) ?_
        refine sg_cVi (M' := mX10_heavy) ([.int _]) dX10_all_105 lX10_368 vX10_heavy (mo_L rfl) (by decide) rfl hS (q_heavy W H2.1.1) rfl (Nat.le_of_ble_eq_true rfl) (Nat.zero_le _) (Nat.zero_le _) ?_
        rw [show wtF (cWt C) (btF (fun t => tO T1 t = a) (cN C)) (cN C) = weT C T1 a.toNatClampNeg from by unfold weT; rw [r1 c81]]
        refine go_icmp_le (tgt := 115) dX10_all_108 (by decide) (fun c108 => ?_) (fun c108 => ?_)
        · refine go_iload dX10_all_115 rfl ?_
          refine go_iconst (v := -1) dX10_all_117 rfl ?_
          refine go_icmp_eq (tgt := 146) dX10_all_118 (by decide) (fun c118 => ?_) (fun c118 => ?_)
          · refine go_iload dX10_all_146 rfl ?_
            refine go_ist5 dX10_all_148 rfl ?_
            refine go_iinc6 (c1 := 1) dX10_all_150 rfl rfl ?_
            refine go_goto (tgt := 69) dX10_all_153 (by decide) ?_
            first | exact go_cong (ih trivial) (all9 (be_1 c81) (be_1 c118)) rfl | exact go_cong (ih trivial) (all9 (be_1 c81) (be_2 c118 c143)) rfl | exact go_cong (ih trivial) (all9 (be_1 c81) (be_3 c143)) rfl | exact go_cong (ih trivial) (all9 (be_2 c81 c108) (be_1 c118)) rfl | exact go_cong (ih trivial) (all9 (be_2 c81 c108) (be_2 c118 c143)) rfl | exact go_cong (ih trivial) (all9 (be_2 c81 c108) (be_3 c143)) rfl | exact go_cong (ih trivial) (all9 (be_3 c108) (be_1 c118)) rfl | exact go_cong (ih trivial) (all9 (be_3 c108) (be_2 c118 c143)) rfl | exact go_cong (ih trivial) (all9 (be_3 c108) (be_3 c143)) rfl
          · refine go_aloadn dX10_all_121 rfl ?_
            refine sg_getR dX10_all_122 fX10_66 rfl (mo_L rfl) hS (mo_r42 hS rfl) ?_
            refine go_sipush (v := 146) dX10_all_125 rfl ?_
            refine go_iload dX10_all_128 rfl ?_
            refine go_iadd dX10_all_130 ?_
            refine sg_ialdN (i := 146 + p) dX10_all_131 (mo_42 rfl) hS (by simp only [lit_nI, nI_add, pk_mul, Nat.add_assoc, Nat.zero_add, Nat.add_zero]) (by omega) ((mH5 H2.2 hp).1) ?_
            refine go_aloadn dX10_all_132 rfl ?_
            refine sg_getR dX10_all_133 fX10_66 rfl (mo_L rfl) hS (mo_r42 hS rfl) ?_
            refine go_sipush (v := 146) dX10_all_136 rfl ?_
            refine go_iload dX10_all_139 rfl ?_
            refine go_iadd dX10_all_141 ?_
            have hb3 := r3 c118
            rw [show (146 : Int32) + b = nI (146 + b.toNatClampNeg) from ix_be (r2 c118)]
            refine sg_ialdN (i := 146 + b.toNatClampNeg) dX10_all_142 (mo_42 rfl) hS (by simp only [lit_nI, nI_add, pk_mul, Nat.add_assoc, Nat.zero_add, Nat.add_zero]) (by omega) ((mH5 H2.2 (Nat.lt_trans (r3 c118) hp)).1) ?_
            refine go_icmp_le (tgt := 150) dX10_all_143 (by decide) (fun c143 => ?_) (fun c143 => ?_)
            · refine go_iinc6 (c1 := 1) dX10_all_150 rfl rfl ?_
              refine go_goto (tgt := 69) dX10_all_153 (by decide) ?_
              first | exact go_cong (ih trivial) (all9 (be_1 c81) (be_1 c118)) rfl | exact go_cong (ih trivial) (all9 (be_1 c81) (be_2 c118 c143)) rfl | exact go_cong (ih trivial) (all9 (be_1 c81) (be_3 c143)) rfl | exact go_cong (ih trivial) (all9 (be_2 c81 c108) (be_1 c118)) rfl | exact go_cong (ih trivial) (all9 (be_2 c81 c108) (be_2 c118 c143)) rfl | exact go_cong (ih trivial) (all9 (be_2 c81 c108) (be_3 c143)) rfl | exact go_cong (ih trivial) (all9 (be_3 c108) (be_1 c118)) rfl | exact go_cong (ih trivial) (all9 (be_3 c108) (be_2 c118 c143)) rfl | exact go_cong (ih trivial) (all9 (be_3 c108) (be_3 c143)) rfl
            · refine go_iload dX10_all_146 rfl ?_
              refine go_ist5 dX10_all_148 rfl ?_
              refine go_iinc6 (c1 := 1) dX10_all_150 rfl rfl ?_
              refine go_goto (tgt := 69) dX10_all_153 (by decide) ?_
              first | exact go_cong (ih trivial) (all9 (be_1 c81) (be_1 c118)) rfl | exact go_cong (ih trivial) (all9 (be_1 c81) (be_2 c118 c143)) rfl | exact go_cong (ih trivial) (all9 (be_1 c81) (be_3 c143)) rfl | exact go_cong (ih trivial) (all9 (be_2 c81 c108) (be_1 c118)) rfl | exact go_cong (ih trivial) (all9 (be_2 c81 c108) (be_2 c118 c143)) rfl | exact go_cong (ih trivial) (all9 (be_2 c81 c108) (be_3 c143)) rfl | exact go_cong (ih trivial) (all9 (be_3 c108) (be_1 c118)) rfl | exact go_cong (ih trivial) (all9 (be_3 c108) (be_2 c118 c143)) rfl | exact go_cong (ih trivial) (all9 (be_3 c108) (be_3 c143)) rfl
        · refine go_iload dX10_all_111 rfl ?_
          refine go_ist4 dX10_all_113 rfl ?_
          refine go_iload dX10_all_115 rfl ?_
          refine go_iconst (v := -1) dX10_all_117 rfl ?_
          refine go_icmp_eq (tgt := 146) dX10_all_118 (by decide) (fun c118 => ?_) (fun c118 => ?_)
          · refine go_iload dX10_all_146 rfl ?_
            refine go_ist5 dX10_all_148 rfl ?_
            refine go_iinc6 (c1 := 1) dX10_all_150 rfl rfl ?_
            refine go_goto (tgt := 69) dX10_all_153 (by decide) ?_
            first | exact go_cong (ih trivial) (all9 (be_1 c81) (be_1 c118)) rfl | exact go_cong (ih trivial) (all9 (be_1 c81) (be_2 c118 c143)) rfl | exact go_cong (ih trivial) (all9 (be_1 c81) (be_3 c143)) rfl | exact go_cong (ih trivial) (all9 (be_2 c81 c108) (be_1 c118)) rfl | exact go_cong (ih trivial) (all9 (be_2 c81 c108) (be_2 c118 c143)) rfl | exact go_cong (ih trivial) (all9 (be_2 c81 c108) (be_3 c143)) rfl | exact go_cong (ih trivial) (all9 (be_3 c108) (be_1 c118)) rfl | exact go_cong (ih trivial) (all9 (be_3 c108) (be_2 c118 c143)) rfl | exact go_cong (ih trivial) (all9 (be_3 c108) (be_3 c143)) rfl
          · refine go_aloadn dX10_all_121 rfl ?_
            refine sg_getR dX10_all_122 fX10_66 rfl (mo_L rfl) hS (mo_r42 hS rfl) ?_
            refine go_sipush (v := 146) dX10_all_125 rfl ?_
            refine go_iload dX10_all_128 rfl ?_
            refine go_iadd dX10_all_130 ?_
            refine sg_ialdN (i := 146 + p) dX10_all_131 (mo_42 rfl) hS (by simp only [lit_nI, nI_add, pk_mul, Nat.add_assoc, Nat.zero_add, Nat.add_zero]) (by omega) ((mH5 H2.2 hp).1) ?_
            refine go_aloadn dX10_all_132 rfl ?_
            refine sg_getR dX10_all_133 fX10_66 rfl (mo_L rfl) hS (mo_r42 hS rfl) ?_
            refine go_sipush (v := 146) dX10_all_136 rfl ?_
            refine go_iload dX10_all_139 rfl ?_
            refine go_iadd dX10_all_141 ?_
            have hb3 := r3 c118
            rw [show (146 : Int32) + b = nI (146 + b.toNatClampNeg) from ix_be (r2 c118)]
            refine sg_ialdN (i := 146 + b.toNatClampNeg) dX10_all_142 (mo_42 rfl) hS (by simp only [lit_nI, nI_add, pk_mul, Nat.add_assoc, Nat.zero_add, Nat.add_zero]) (by omega) ((mH5 H2.2 (Nat.lt_trans (r3 c118) hp)).1) ?_
            refine go_icmp_le (tgt := 150) dX10_all_143 (by decide) (fun c143 => ?_) (fun c143 => ?_)
            · refine go_iinc6 (c1 := 1) dX10_all_150 rfl rfl ?_
              refine go_goto (tgt := 69) dX10_all_153 (by decide) ?_
              first | exact go_cong (ih trivial) (all9 (be_1 c81) (be_1 c118)) rfl | exact go_cong (ih trivial) (all9 (be_1 c81) (be_2 c118 c143)) rfl | exact go_cong (ih trivial) (all9 (be_1 c81) (be_3 c143)) rfl | exact go_cong (ih trivial) (all9 (be_2 c81 c108) (be_1 c118)) rfl | exact go_cong (ih trivial) (all9 (be_2 c81 c108) (be_2 c118 c143)) rfl | exact go_cong (ih trivial) (all9 (be_2 c81 c108) (be_3 c143)) rfl | exact go_cong (ih trivial) (all9 (be_3 c108) (be_1 c118)) rfl | exact go_cong (ih trivial) (all9 (be_3 c108) (be_2 c118 c143)) rfl | exact go_cong (ih trivial) (all9 (be_3 c108) (be_3 c143)) rfl
            · refine go_iload dX10_all_146 rfl ?_
              refine go_ist5 dX10_all_148 rfl ?_
              refine go_iinc6 (c1 := 1) dX10_all_150 rfl rfl ?_
              refine go_goto (tgt := 69) dX10_all_153 (by decide) ?_
              first | exact go_cong (ih trivial) (all9 (be_1 c81) (be_1 c118)) rfl | exact go_cong (ih trivial) (all9 (be_1 c81) (be_2 c118 c143)) rfl | exact go_cong (ih trivial) (all9 (be_1 c81) (be_3 c143)) rfl | exact go_cong (ih trivial) (all9 (be_2 c81 c108) (be_1 c118)) rfl | exact go_cong (ih trivial) (all9 (be_2 c81 c108) (be_2 c118 c143)) rfl | exact go_cong (ih trivial) (all9 (be_2 c81 c108) (be_3 c143)) rfl | exact go_cong (ih trivial) (all9 (be_3 c108) (be_1 c118)) rfl | exact go_cong (ih trivial) (all9 (be_3 c108) (be_2 c118 c143)) rfl | exact go_cong (ih trivial) (all9 (be_3 c108) (be_3 c143)) rfl
    · have hpe := H2.1.1.2.1.2.1
      refine go_iload dX10_all_69 rfl ?_
      refine go_aloadn dX10_all_71 rfl ?_
      refine sg_getI dX10_all_72 fX10_273 rfl (mo_L rfl) hS ?_
      rw [hpe]
      refine go_icmp_ge (tgt := 156) dX10_all_75 (by decide) (fun c75 => ?_) (fun c75 => absurd (nI_le (Nat.le_refl _) (by omega)) c75)
      refine go_iloadn dX10_all_156 rfl ?_
      refine go_if_ne (tgt := 165) dX10_all_157 (by decide) (fun c157 => ?_) (fun c157 => ?_)
      · refine go_iloadn dX10_all_165 rfl ?_
        refine go_iconst (v := 1) dX10_all_166 rfl ?_
        refine go_icmp_ne (tgt := 175) dX10_all_167 (by decide) (fun c167 => ?_) (fun c167 => ?_)
        · refine go_iloadn dX10_all_175 rfl ?_
          refine go_iconst (v := 2) dX10_all_176 rfl ?_
          refine go_icmp_ne (tgt := 189) dX10_all_177 (by decide) (fun c177 => ?_) (fun c177 => ?_)
          · refine go_iloadn dX10_all_189 rfl ?_
            refine go_ireturn dX10_all_190 rfl rfl (Nat.zero_le _) (Nat.zero_le _) ?_
            first | exact qn_ok (by rw [if_pos c157]) (F.t0.trans h0) (hF.tr F.sn) | exact qn_ok (by rw [if_neg c157, if_pos c167]) (F.t0.trans h0) (hF.tr F.sn) | exact qn_ok (by rw [if_neg c157, if_pos (Decidable.not_not.mp c167)]) (F.t0.trans h0) (hF.tr F.sn) | exact qn_ok (by rw [if_neg c157, if_neg c167, if_pos c177]) (F.t0.trans h0) (hF.tr F.sn) | exact qn_ok (by rw [if_neg c157, if_neg c167, if_pos (Decidable.not_not.mp c177)]) (F.t0.trans h0) (hF.tr F.sn) | exact qn_ok (by rw [if_neg c157, if_neg c167, if_neg c177]) (F.t0.trans h0) (hF.tr F.sn)
          · refine go_aloadn dX10_all_180 rfl ?_
            refine go_bipush (v := 105) dX10_all_181 rfl ?_
            refine sg_cVi (M' := mX10_wornOnes) ([.int (nI 105)]) dX10_all_183 lX10_353 vX10_wornOnes (mo_L rfl) (by decide) rfl hS (q_wornOnes W H2.1.1 H2.2 (by omega)) rfl (Nat.le_of_ble_eq_true rfl) (Nat.zero_le _) (Nat.zero_le _) ?_
            refine go_goto (tgt := 190) dX10_all_186 (by decide) ?_
            refine go_ireturn dX10_all_190 rfl rfl (Nat.zero_le _) (Nat.zero_le _) ?_
            first | exact qn_ok (by rw [if_pos c157]) (F.t0.trans h0) (hF.tr F.sn) | exact qn_ok (by rw [if_neg c157, if_pos c167]) (F.t0.trans h0) (hF.tr F.sn) | exact qn_ok (by rw [if_neg c157, if_pos (Decidable.not_not.mp c167)]) (F.t0.trans h0) (hF.tr F.sn) | exact qn_ok (by rw [if_neg c157, if_neg c167, if_pos c177]) (F.t0.trans h0) (hF.tr F.sn) | exact qn_ok (by rw [if_neg c157, if_neg c167, if_pos (Decidable.not_not.mp c177)]) (F.t0.trans h0) (hF.tr F.sn) | exact qn_ok (by rw [if_neg c157, if_neg c167, if_neg c177]) (F.t0.trans h0) (hF.tr F.sn)
        · refine go_iload dX10_all_170 rfl ?_
          refine go_goto (tgt := 190) dX10_all_172 (by decide) ?_
          refine go_ireturn dX10_all_190 rfl rfl (Nat.zero_le _) (Nat.zero_le _) ?_
          first | exact qn_ok (by rw [if_pos c157]) (F.t0.trans h0) (hF.tr F.sn) | exact qn_ok (by rw [if_neg c157, if_pos c167]) (F.t0.trans h0) (hF.tr F.sn) | exact qn_ok (by rw [if_neg c157, if_pos (Decidable.not_not.mp c167)]) (F.t0.trans h0) (hF.tr F.sn) | exact qn_ok (by rw [if_neg c157, if_neg c167, if_pos c177]) (F.t0.trans h0) (hF.tr F.sn) | exact qn_ok (by rw [if_neg c157, if_neg c167, if_pos (Decidable.not_not.mp c177)]) (F.t0.trans h0) (hF.tr F.sn) | exact qn_ok (by rw [if_neg c157, if_neg c167, if_neg c177]) (F.t0.trans h0) (hF.tr F.sn)
      · refine go_iload dX10_all_160 rfl ?_
        refine go_goto (tgt := 190) dX10_all_162 (by decide) ?_
        refine go_ireturn dX10_all_190 rfl rfl (Nat.zero_le _) (Nat.zero_le _) ?_
        first | exact qn_ok (by rw [if_pos c157]) (F.t0.trans h0) (hF.tr F.sn) | exact qn_ok (by rw [if_neg c157, if_pos c167]) (F.t0.trans h0) (hF.tr F.sn) | exact qn_ok (by rw [if_neg c157, if_pos (Decidable.not_not.mp c167)]) (F.t0.trans h0) (hF.tr F.sn) | exact qn_ok (by rw [if_neg c157, if_neg c167, if_pos c177]) (F.t0.trans h0) (hF.tr F.sn) | exact qn_ok (by rw [if_neg c157, if_neg c167, if_pos (Decidable.not_not.mp c177)]) (F.t0.trans h0) (hF.tr F.sn) | exact qn_ok (by rw [if_neg c157, if_neg c167, if_neg c177]) (F.t0.trans h0) (hF.tr F.sn)
