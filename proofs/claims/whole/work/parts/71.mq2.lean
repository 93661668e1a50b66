/-! the model: days that are tried -/
/-- .. but thrown -/
def SN (a k : Nat) : Prop := (a = 77 ∧ (k = 48 ∨ k = 55)) ∨ (a = 91 ∧ 105 ≤ k) ∨ a = 93 ∨ a = 94 ∨ a = 95 ∨ a = 96 ∨ a = 98 ∨ a = 99
theorem snm {a k : Nat} (h : SN a k) : SM a k := by unfold SN at h; unfold SM; omega
theorem sdn {a k : Nat} (h : SD 105 a k) : SN a k := by unfold SD at h; unfold SN; omega
theorem s93n {a k : Nat} (h : S93 a k) : SN a k := by unfold S93 at h; unfold SN; omega
theorem Fz.sn {g g' : Hp} (F : Fz SN g g') : Fz SM g g' := F.sub (fun _ _ => snm)
theorem Fz.t0 {g g' : Hp} (F : Fz SN g g') : hI g' 77 0 = hI g 77 0 := F.I (by unfold SN; omega)
theorem MB.sn {h g : Hp} {as ar : Nat} {C : Cy} {T : Tn} (W : WC C) (H : MB h as ar C T) (F : Fz SN h g) : MB g as ar C T := H.sm W F.sn
/-- the row at 105 is tried -/
def ME (h : Hp) (as ar : Nat) (C : Cy) (T T' : Tn) : Prop := MB h as ar C T ∧ MT h 105 C T'
theorem q_tries {l : Launch} {d as ar : Nat} {C : Cy} {T : Tn} {h : Hp} (W : WC C) (H : MB h as ar C T) : Ey l (d + 1) mX10_tries [.ref 77] h none (fun g => Fz SN h g ∧ ME g as ar C T (t0 T)) := by
  have hN := W.1.1
  have hP := W.1.2.1
  refine run_lv [some (.ref 77), none] (go := ?_)
  refine go_iconst (v := 0) dX10_tries_0 rfl ?_
  refine go_ist1 dX10_tries_1 rfl ?_
  refine go_loopR (lvf := fun k => [some (.ref 77), some (.int (nI k))]) 105 (fun k g => Fz SN h g ∧ ∀ j, j < k → hI g 91 (105 + j) = hI h 91 j) (fun k g hk hh ih => ?_) (fun g hh => ?_) 0 h (Nat.zero_le _) ⟨Fz.rf, fun _ q => absurd q (by omega)⟩
  · obtain ⟨F, e⟩ := hh
    have hS := F.St H.1.1
    refine go_iloadn dX10_tries_2 rfl ?_
    refine go_bipush (v := 105) dX10_tries_3 rfl ?_
    refine go_icmp_ge (tgt := 29) dX10_tries_5 (by decide) (fun c5 => absurd c5 (nI_ge (b := 105) hk (by decide))) (fun c5 => ?_)
    refine go_aloadn dX10_tries_8 rfl ?_
    refine sg_getR dX10_tries_9 fX10_66 rfl (mo_L rfl) hS (mo_r42 hS rfl) ?_
    refine go_bipush (v := 105) dX10_tries_12 rfl ?_
    refine go_iloadn dX10_tries_14 rfl ?_
    refine go_iadd dX10_tries_15 ?_
    refine go_aloadn dX10_tries_16 rfl ?_
    refine sg_getR dX10_tries_17 fX10_66 rfl (mo_L rfl) hS (mo_r42 hS rfl) ?_
    refine go_iloadn dX10_tries_20 rfl ?_
    refine sg_ialdN (i := k) (x := hI h 91 k) dX10_tries_21 (mo_42 rfl) hS (by simp only [lit_nI, nI_add, pk_mul, Nat.add_assoc, Nat.zero_add, Nat.add_zero]) (by omega) ((F.I (by unfold SN; omega))) ?_
    refine sg_iastN (i := 105 + k) dX10_tries_22 (mo_42 rfl) hS (by simp only [lit_nI, nI_add, pk_mul, Nat.add_assoc, Nat.zero_add, Nat.add_zero]) (by omega) ?_
    refine go_iinc1 (c1 := 1) dX10_tries_23 rfl rfl ?_
    refine go_goto (tgt := 2) dX10_tries_26 (by decide) ?_
    exact go_cong (ih _ ⟨F.uI (by unfold SN; omega), fun j hj => by rw [hI_uI]; by_cases z : j = k; (· subst z; rw [if_pos ⟨rfl, rfl⟩]); (rw [if_neg (by omega)]; exact e j (by omega))⟩) (by simp [nI_1]) rfl
  · obtain ⟨F, e⟩ := hh
    have hS := F.St H.1.1
    obtain ⟨m1, m2, m3, m4⟩ := H.2.1
    refine go_iloadn dX10_tries_2 rfl ?_
    refine go_bipush (v := 105) dX10_tries_3 rfl ?_
    refine go_icmp_ge (tgt := 29) dX10_tries_5 (by decide) (fun c5 => ?_) (fun c5 => absurd (by decide) c5)
    refine go_return dX10_tries_29 rfl (Nat.zero_le _) (Nat.zero_le _) ?_
    exact ⟨rfl, F, H.sn W F, (e 0 (by omega)).trans m1, fun t ht => by rw [e _ (by omega), e _ (by omega), e _ (by omega), e _ (by omega)]; have := m2 t ht; rw [Nat.zero_add, Nat.zero_add, Nat.zero_add, Nat.zero_add] at this; exact this, fun p hp => by rw [e _ (by omega), e _ (by omega)]; have := m3 p hp; rw [Nat.zero_add, Nat.zero_add] at this; exact this, fun i hi => by rw [e _ (by omega)]; have := m4 i hi; rw [Nat.zero_add] at this; exact this⟩
theorem t0_aX {T : Tn} : aX (tC T) (t0 T) = T := by
  show (tD T, tC T + 0, T.2.2) = T
  rw [Int32.add_zero]
theorem day_t0 {C : Cy} {T : Tn} {fog : Int32} : dayT C fog T = aX (tC T) (dayT C fog (t0 T)) := by
  conv => lhs; rw [← t0_aX (T := T)]
  exact day_aX
theorem q_day {l : Launch} {d as ar : Nat} {C : Cy} {T T' : Tn} {h : Hp} (W : WC C) (H : ME h as ar C T T') (V : WT C T') (hD : tD T' + 1 < 2 ^ 30) : Ey l (d + 6) mX10_dayGoes [.ref 77, .int (nI 105)] h none (fun g => Fz SN h g ∧ ME g as ar C T (dayT C 0 T') ∧ tC T' + hI g 77 48 = tC (dayT C 0 T')) := by
  refine (q_dayGoes W H.1.1 H.2 V (Nat.le_refl _) hD).mono (fun g q => ?_)
  obtain ⟨F, m, o⟩ := q
  rw [H.1.2.2] at m o
  refine ⟨F.sub (fun _ _ => sdn), ⟨H.1.sn W (F.sub (fun _ _ => sdn)), ?_⟩, ?_⟩
  · rw [day_t0]; exact m
  · rw [day_t0 (T := T'), o]; rfl
theorem q_daysGo {l : Launch} {d as ar n : Nat} {C : Cy} {T T' : Tn} {h : Hp} (W : WC C) (H : ME h as ar C T T') (V : WT C T') (hD : tD T' + n < 2 ^ 30) : Ey l (d + 7) mX10_daysGo [.ref 77, .int (nI n)] h none (fun g => Fz SN h g ∧ ME g as ar C T (dnT C T' n)) := by
  refine run_lv [some (.ref 77), some (.int (nI n)), none] (go := ?_)
  refine go_iconst (v := 0) dX10_daysGo_0 rfl ?_
  refine go_ist2 dX10_daysGo_1 rfl ?_
  refine go_loopR (lvf := fun k => [some (.ref 77), some (.int (nI n)), some (.int (nI k))]) n (fun k g => Fz SN h g ∧ ME g as ar C T (dnT C T' k)) (fun k g hk hh ih => ?_) (fun g hh => ?_) 0 h (Nat.zero_le _) ⟨Fz.rf, H⟩
  · obtain ⟨F, H2⟩ := hh
    have hS := H2.1.1.1
    refine go_iloadn dX10_daysGo_2 rfl ?_
    refine go_iloadn dX10_daysGo_3 rfl ?_
    refine go_icmp_ge (tgt := 19) dX10_daysGo_4 (by decide) (fun c4 => absurd c4 (nI_ge hk (by omega))) (fun c4 => ?_)
    refine go_aloadn dX10_daysGo_7 rfl ?_
    refine go_bipush (v := 105) dX10_daysGo_8 rfl ?_
    refine sg_rV0 (M' := mX10_dayGoes) ([.int (nI 105)]) dX10_daysGo_10 lX10_343 vX10_dayGoes (mo_L rfl) (by decide) rfl hS (q_day W H2 (V.dn W) (by rw [tD_dn]; omega)) rfl (Nat.le_of_ble_eq_true rfl) (Nat.zero_le _) (Nat.zero_le _) (fun g' F' => ?_)
    refine go_iinc2 (c1 := 1) dX10_daysGo_13 rfl rfl ?_
    refine go_goto (tgt := 2) dX10_daysGo_16 (by decide) ?_
    exact go_cong (ih g' ⟨F.tr F'.1, F'.2.1⟩) (by simp [nI_1]) rfl
  · refine go_iloadn dX10_daysGo_2 rfl ?_
    refine go_iloadn dX10_daysGo_3 rfl ?_
    refine go_icmp_ge (tgt := 19) dX10_daysGo_4 (by decide) (fun c4 => ?_) (fun c4 => absurd (nI_le (Nat.le_refl _) (by omega)) c4)
    refine go_return dX10_daysGo_19 rfl (Nat.zero_le _) (Nat.zero_le _) ?_
    exact ⟨rfl, hh⟩
theorem q_goesTo {l : Launch} {d as ar n : Nat} {C : Cy} {T : Tn} {h : Hp} (W : WC C) (H : MB h as ar C T) (V : WT C T) (hD : tD T + n < 2 ^ 30) : Ey l (d + 8) mX10_goesTo [.ref 77, .int (nI n)] h none (fun g => Fz SN h g ∧ ME g as ar C T (dnT C (t0 T) n)) := by
  have hS := H.1.1
  refine run_lv [some (.ref 77), some (.int (nI n))] (go := ?_)
  refine go_aloadn dX10_goesTo_0 rfl ?_
  refine sg_rV0 (M' := mX10_tries) ([]) dX10_goesTo_1 lX10_393 vX10_tries (mo_L rfl) (by decide) rfl hS (q_tries W H) rfl (Nat.le_of_ble_eq_true rfl) (Nat.zero_le _) (Nat.zero_le _) (fun g F => ?_)
  have hS := F.2.1.1.1
  refine go_aloadn dX10_goesTo_4 rfl ?_
  refine go_iloadn dX10_goesTo_5 rfl ?_
  refine sg_rV0 (M' := mX10_daysGo) ([.int (nI n)]) dX10_goesTo_6 lX10_396 vX10_daysGo (mo_L rfl) (by decide) rfl hS (q_daysGo W F.2 V.t0 hD) rfl (Nat.le_of_ble_eq_true rfl) (Nat.zero_le _) (Nat.zero_le _) (fun g2 F2 => ?_)
  refine go_return dX10_goesTo_9 rfl (Nat.zero_le _) (Nat.zero_le _) ?_
  exact ⟨rfl, F.1.tr F2.1, F2.2⟩
theorem m_person {l : Launch} {d as ar : Nat} {x w : Int32} {C : Cy} {T : Tn} {h : Hp} (W : WC C) (H : MB h as ar C T) (hD9 : tD T ≤ 9999) : Qm l (d + 3) mX10_person [.ref 77, .int x, .int w] h (vPerson C T x w) := by
  have hS := H.1.1
  have hP := W.1.2.1
  have hN := W.1.1
  refine run_lv [some (.ref 77), some (.int x), some (.int w)] (go := ?_)
  unfold vPerson
  refine go_aloadn dX10_person_0 rfl ?_
  refine go_iconst (v := 0) dX10_person_1 rfl ?_
  refine sg_putI dX10_person_2 fX10_102 rfl rfl (mo_L rfl) hS ?_
  have hF : Fz SM h (uI h 77 0 0) := Fz.rf.uI sm0
  have H := H.sm W hF
  have h0 : hI (uI h 77 0 0) 77 0 = 0 := hI_uI_eq
  generalize uI h 77 0 0 = h1 at *
  have hS := H.1.1
  have hT := H.2.1
  refine go_aloadn dX10_person_5 rfl ?_
  refine go_iloadn dX10_person_6 rfl ?_
  refine sg_mnd (M' := mX10_isPerson) ([.int x]) dX10_person_7 lX10_362 vX10_isPerson (mo_L rfl) (by decide) rfl hS (q_isPerson H.1 h0).1 (q_isPerson H.1 h0).2 rfl (Nat.le_of_ble_eq_true rfl) (fun k7 => ?_) (fun k7 => ?_)
  · refine go_if_eq (tgt := 23) dX10_person_10 (by decide) (fun _ => ?_) (fun c => absurd rfl c)
    refine go_iconst (v := 0) dX10_person_23 rfl ?_
    refine go_ireturn dX10_person_24 rfl rfl (Nat.zero_le _) (Nat.zero_le _) ?_
    exact ⟨⟨0, rfl, fun q => absurd q (by decide)⟩, hI_uI_eq, hF.uI sm0⟩
  refine go_if_eq (tgt := 23) dX10_person_10 (by decide) (fun c10 => absurd c10 (by decide)) (fun c10 => ?_)
  refine go_aloadn dX10_person_13 rfl ?_
  refine go_iloadn dX10_person_14 rfl ?_
  refine go_bipush (v := 8) dX10_person_15 rfl ?_
  refine sg_mnd (M' := mX10_isWhat) ([.int w, .int 8]) dX10_person_17 lX10_365 vX10_isWhat (mo_L rfl) (by decide) rfl hS (q_isWhat hS h0).1 (q_isWhat hS h0).2 rfl (Nat.le_of_ble_eq_true rfl) (fun k17 => ?_) (fun k17 => ?_)
  · refine go_if_ne (tgt := 25) dX10_person_20 (by decide) (fun c => absurd rfl c) (fun _ => ?_)
    refine go_iconst (v := 0) dX10_person_23 rfl ?_
    refine go_ireturn dX10_person_24 rfl rfl (Nat.zero_le _) (Nat.zero_le _) ?_
    exact ⟨⟨0, rfl, fun q => absurd q (by decide)⟩, hI_uI_eq, hF.uI sm0⟩
  refine go_if_ne (tgt := 25) dX10_person_20 (by decide) (fun c20 => ?_) (fun c20 => absurd c20 (by decide))
  skip
  obtain ⟨p, hp, rfl⟩ := ok_nI (by omega) k7
  obtain ⟨j, -, hj, rfl⟩ := rg_nI (a := 0) (b := 8) rfl rfl (by decide) (by decide) k17
  have e0 : (nI p).toNatClampNeg = p := cl_nI (by omega)
  rw [e0, cl_nI (show j < 2 ^ 31 by omega)]
  refine go_iloadn dX10_person_25 rfl ?_
  refine go_tab 8 0 162 [72, 82, 95, 105, 120, 127, 138, 151] dX10_person_26 rfl rfl rfl rfl rfl (by decide) (fun c26 => ?_) (fun i hi c26 => ?_)
  · have e := kd_eq (by decide) hj c26
    subst e
    refine go_aloadn dX10_person_162 rfl ?_
    refine go_iloadn dX10_person_163 rfl ?_
    refine sg_cVi (M' := mX10_oddest) ([.int (nI p)]) dX10_person_164 lX10_374 vX10_oddest (mo_L rfl) (by decide) rfl hS (q_oddest W H.1 hT) rfl (Nat.le_of_ble_eq_true rfl) (Nat.zero_le _) (Nat.zero_le _) ?_
    refine go_ireturn dX10_person_167 rfl rfl (Nat.zero_le _) (Nat.zero_le _) ?_
    exact qn_ok rfl h0 hF
  · match i, hi, c26 with
    | 0, _, c26 =>
      have e := (nI_eq (by omega) (by omega)).mp c26
      subst e
      refine go_aloadn dX10_person_72 rfl ?_
      refine sg_getR dX10_person_73 fX10_66 rfl (mo_L rfl) hS (mo_r42 hS rfl) ?_
      refine go_bipush (v := 49) dX10_person_76 rfl ?_
      refine go_iloadn dX10_person_78 rfl ?_
      refine go_iadd dX10_person_79 ?_
      refine sg_ialdN (i := 49 + p) (x := tV T p) dX10_person_80 (mo_42 rfl) hS (by simp only [lit_nI, nI_add, pk_mul, Nat.add_assoc, Nat.zero_add, Nat.add_zero]) (by omega) ((by have := (hT.2.2.1 p hp).2; rw [Nat.zero_add] at this; exact this)) ?_
      refine go_ireturn dX10_person_81 rfl rfl (Nat.zero_le _) (Nat.zero_le _) ?_
      exact qn_ok rfl h0 hF
    | 1, _, c26 =>
      have e := (nI_eq (by omega) (by omega)).mp c26
      subst e
      refine go_aloadn dX10_person_82 rfl ?_
      refine go_iconst (v := 0) dX10_person_83 rfl ?_
      refine go_iloadn dX10_person_84 rfl ?_
      refine go_aloadn dX10_person_85 rfl ?_
      refine sg_getR dX10_person_86 fX10_66 rfl (mo_L rfl) hS (mo_r42 hS rfl) ?_
      refine go_iconst (v := 0) dX10_person_89 rfl ?_
      refine sg_ialdN (i := 0) (x := nI (tD T)) dX10_person_90 (mo_42 rfl) hS (by simp only [lit_nI, nI_add, pk_mul, Nat.add_assoc, Nat.zero_add, Nat.add_zero]) (by omega) (hT.1) ?_
      refine sg_cVi (M' := mX10_placeOn) ([.int (nI 0), .int (nI p), .int (nI (tD T))]) dX10_person_91 lX10_297 vX10_placeOn (mo_L rfl) (by decide) rfl hS (q_placeOn W H.1 hT (by omega) hp (by omega)) rfl (Nat.le_of_ble_eq_true rfl) (Nat.zero_le _) (Nat.zero_le _) ?_
      refine go_ireturn dX10_person_94 rfl rfl (Nat.zero_le _) (Nat.zero_le _) ?_
      exact qn_ok rfl h0 hF
    | 2, _, c26 =>
      have e := (nI_eq (by omega) (by omega)).mp c26
      subst e
      refine go_aloadn dX10_person_95 rfl ?_
      refine sg_getR dX10_person_96 fX10_66 rfl (mo_L rfl) hS (mo_r42 hS rfl) ?_
      refine go_bipush (v := 41) dX10_person_99 rfl ?_
      refine go_iloadn dX10_person_101 rfl ?_
      refine go_iadd dX10_person_102 ?_
      refine sg_ialdN (i := 41 + p) (x := tH T p) dX10_person_103 (mo_42 rfl) hS (by simp only [lit_nI, nI_add, pk_mul, Nat.add_assoc, Nat.zero_add, Nat.add_zero]) (by omega) ((by have := (hT.2.2.1 p hp).1; rw [Nat.zero_add] at this; exact this)) ?_
      refine go_ireturn dX10_person_104 rfl rfl (Nat.zero_le _) (Nat.zero_le _) ?_
      exact qn_ok rfl h0 hF
    | 3, _, c26 =>
      have e := (nI_eq (by omega) (by omega)).mp c26
      subst e
      refine go_aloadn dX10_person_105 rfl ?_
      refine sg_getR dX10_person_106 fX10_32 rfl (mo_L rfl) hS (mo_r10 hS rfl) ?_
      refine go_iloadn dX10_person_109 rfl ?_
      refine sg_zaldN (i := p) dX10_person_110 (mo_10 rfl) hS (by simp only [lit_nI, nI_add, pk_mul, Nat.add_assoc, Nat.zero_add, Nat.add_zero]) (by omega) ((H.1.2.2.2.1 p hp).2) ?_
      refine go_if_eq (tgt := 118) dX10_person_111 (by decide) (fun c111 => ?_) (fun c111 => ?_)
      · refine go_iconst (v := 0) dX10_person_118 rfl ?_
        refine go_ireturn dX10_person_119 rfl rfl (Nat.zero_le _) (Nat.zero_le _) ?_
        exact qn_ok (by show _ = cBl C p; rcases W.2.2.2.1 p hp with q | q <;> rw [q] at c111 ⊢ <;> first | rfl | exact absurd rfl c111 | exact absurd c111 (by decide)) h0 hF
      · refine go_iconst (v := 1) dX10_person_114 rfl ?_
        refine go_goto (tgt := 119) dX10_person_115 (by decide) ?_
        refine go_ireturn dX10_person_119 rfl rfl (Nat.zero_le _) (Nat.zero_le _) ?_
        exact qn_ok (by show _ = cBl C p; rcases W.2.2.2.1 p hp with q | q <;> rw [q] at c111 ⊢ <;> first | rfl | exact absurd rfl c111 | exact absurd c111 (by decide)) h0 hF
    | 4, _, c26 =>
      have e := (nI_eq (by omega) (by omega)).mp c26
      subst e
      refine go_aloadn dX10_person_120 rfl ?_
      refine go_iconst (v := 0) dX10_person_121 rfl ?_
      refine go_iloadn dX10_person_122 rfl ?_
      refine sg_cVi (M' := mX10_wornBy) ([.int (nI 0), .int (nI p)]) dX10_person_123 lX10_300 vX10_wornBy (mo_L rfl) (by decide) rfl hS (q_wornBy W H.1 hT (by omega)) rfl (Nat.le_of_ble_eq_true rfl) (Nat.zero_le _) (Nat.zero_le _) ?_
      refine go_ireturn dX10_person_126 rfl rfl (Nat.zero_le _) (Nat.zero_le _) ?_
      exact qn_ok rfl h0 hF
    | 5, _, c26 =>
      have e := (nI_eq (by omega) (by omega)).mp c26
      subst e
      refine go_aloadn dX10_person_127 rfl ?_
      refine go_aloadn dX10_person_128 rfl ?_
      refine go_iconst (v := 0) dX10_person_129 rfl ?_
      refine go_iloadn dX10_person_130 rfl ?_
      refine sg_cVi (M' := mX10_wornBy) ([.int (nI 0), .int (nI p)]) dX10_person_131 lX10_300 vX10_wornBy (mo_L rfl) (by decide) rfl hS (q_wornBy W H.1 hT (by omega)) rfl (Nat.le_of_ble_eq_true rfl) (Nat.zero_le _) (Nat.zero_le _) ?_
      refine sg_cVi (M' := mX10_heavy) ([.int _]) dX10_person_134 lX10_368 vX10_heavy (mo_L rfl) (by decide) rfl hS (q_heavy W H.1) rfl (Nat.le_of_ble_eq_true rfl) (Nat.zero_le _) (Nat.zero_le _) ?_
      refine go_ireturn dX10_person_137 rfl rfl (Nat.zero_le _) (Nat.zero_le _) ?_
      exact qn_ok rfl h0 hF
    | 6, _, c26 =>
      have e := (nI_eq (by omega) (by omega)).mp c26
      subst e
      refine go_aloadn dX10_person_138 rfl ?_
      refine go_iconst (v := 0) dX10_person_139 rfl ?_
      refine go_iloadn dX10_person_140 rfl ?_
      refine sg_cVi (M' := mX10_ownedBy) ([.int (nI 0), .int (nI p)]) dX10_person_141 lX10_371 vX10_ownedBy (mo_L rfl) (by decide) rfl hS (q_ownedBy W H.1 hT (by omega)) rfl (Nat.le_of_ble_eq_true rfl) (Nat.zero_le _) (Nat.zero_le _) ?_
      refine go_aloadn dX10_person_144 rfl ?_
      refine go_iconst (v := 0) dX10_person_145 rfl ?_
      refine sg_cVi (M' := mX10_wornOnes) ([.int (nI 0)]) dX10_person_146 lX10_353 vX10_wornOnes (mo_L rfl) (by decide) rfl hS (q_wornOnes W H.1 hT (by omega)) rfl (Nat.le_of_ble_eq_true rfl) (Nat.zero_le _) (Nat.zero_le _) ?_
      refine go_iand dX10_person_149 ?_
      refine go_ireturn dX10_person_150 rfl rfl (Nat.zero_le _) (Nat.zero_le _) ?_
      exact qn_ok rfl h0 hF
    | 7, _, c26 =>
      have e := (nI_eq (by omega) (by omega)).mp c26
      subst e
      refine go_aloadn dX10_person_151 rfl ?_
      refine go_aloadn dX10_person_152 rfl ?_
      refine go_iconst (v := 0) dX10_person_153 rfl ?_
      refine go_iloadn dX10_person_154 rfl ?_
      refine sg_cVi (M' := mX10_ownedBy) ([.int (nI 0), .int (nI p)]) dX10_person_155 lX10_371 vX10_ownedBy (mo_L rfl) (by decide) rfl hS (q_ownedBy W H.1 hT (by omega)) rfl (Nat.le_of_ble_eq_true rfl) (Nat.zero_le _) (Nat.zero_le _) ?_
      refine sg_cVi (M' := mX10_heavy) ([.int _]) dX10_person_158 lX10_368 vX10_heavy (mo_L rfl) (by decide) rfl hS (q_heavy W H.1) rfl (Nat.le_of_ble_eq_true rfl) (Nat.zero_le _) (Nat.zero_le _) ?_
      refine go_ireturn dX10_person_161 rfl rfl (Nat.zero_le _) (Nat.zero_le _) ?_
      exact qn_ok rfl h0 hF
    | (i + 8), hi, _ => exact absurd hi (by omega)
theorem mB0 {h : Hp} {C : Cy} {T : Tn} {t : Nat} (H : MT h 0 C T) (ht : t < cN C) : hI h 91 (1 + t) = tO T t ∧ hI h 91 (11 + t) = tB T t ∧ hI h 91 (21 + t) = tS T t ∧ hI h 91 (31 + t) = tX T t := by
  have := H.2.1 t ht
  rw [Nat.zero_add, Nat.zero_add, Nat.zero_add, Nat.zero_add] at this; exact this
theorem m_thing {l : Launch} {d as ar : Nat} {x w : Int32} {C : Cy} {T : Tn} {h : Hp} (W : WC C) (H : MB h as ar C T) (V : WT C T) (hD9 : tD T ≤ 9999) : Qm l (d + 5) mX10_thing [.ref 77, .int x, .int w] h (vThing C T x w) := by
  have hS := H.1.1
  have hP := W.1.2.1
  have hN := W.1.1
  refine run_lv [some (.ref 77), some (.int x), some (.int w)] (go := ?_)
  unfold vThing
  refine go_aloadn dX10_thing_0 rfl ?_
  refine go_iconst (v := 0) dX10_thing_1 rfl ?_
  refine sg_putI dX10_thing_2 fX10_102 rfl rfl (mo_L rfl) hS ?_
  have hF : Fz SM h (uI h 77 0 0) := Fz.rf.uI sm0
  have H := H.sm W hF
  have h0 : hI (uI h 77 0 0) 77 0 = 0 := hI_uI_eq
  generalize uI h 77 0 0 = h1 at *
  have hS := H.1.1
  have hT := H.2.1
  refine go_aloadn dX10_thing_5 rfl ?_
  refine go_iloadn dX10_thing_6 rfl ?_
  refine sg_mnd (M' := mX10_isThing) ([.int x]) dX10_thing_7 lX10_377 vX10_isThing (mo_L rfl) (by decide) rfl hS (q_isThing H.1 h0).1 (q_isThing H.1 h0).2 rfl (Nat.le_of_ble_eq_true rfl) (fun k7 => ?_) (fun k7 => ?_)
  · refine go_if_eq (tgt := 22) dX10_thing_10 (by decide) (fun _ => ?_) (fun c => absurd rfl c)
    refine go_iconst (v := 0) dX10_thing_22 rfl ?_
    refine go_ireturn dX10_thing_23 rfl rfl (Nat.zero_le _) (Nat.zero_le _) ?_
    exact ⟨⟨0, rfl, fun q => absurd q (by decide)⟩, hI_uI_eq, hF.uI sm0⟩
  refine go_if_eq (tgt := 22) dX10_thing_10 (by decide) (fun c10 => absurd c10 (by decide)) (fun c10 => ?_)
  refine go_aloadn dX10_thing_13 rfl ?_
  refine go_iloadn dX10_thing_14 rfl ?_
  refine go_iconst (v := 5) dX10_thing_15 rfl ?_
  refine sg_mnd (M' := mX10_isWhat) ([.int w, .int 5]) dX10_thing_16 lX10_365 vX10_isWhat (mo_L rfl) (by decide) rfl hS (q_isWhat hS h0).1 (q_isWhat hS h0).2 rfl (Nat.le_of_ble_eq_true rfl) (fun k16 => ?_) (fun k16 => ?_)
  · refine go_if_ne (tgt := 24) dX10_thing_19 (by decide) (fun c => absurd rfl c) (fun _ => ?_)
    refine go_iconst (v := 0) dX10_thing_22 rfl ?_
    refine go_ireturn dX10_thing_23 rfl rfl (Nat.zero_le _) (Nat.zero_le _) ?_
    exact ⟨⟨0, rfl, fun q => absurd q (by decide)⟩, hI_uI_eq, hF.uI sm0⟩
  refine go_if_ne (tgt := 24) dX10_thing_19 (by decide) (fun c19 => ?_) (fun c19 => absurd c19 (by decide))
  skip
  obtain ⟨p, hp, rfl⟩ := ok_nI (by omega) k7
  obtain ⟨j, -, hj, rfl⟩ := rg_nI (a := 0) (b := 5) rfl rfl (by decide) (by decide) k16
  have e0 : (nI p).toNatClampNeg = p := cl_nI (by omega)
  rw [e0, cl_nI (show j < 2 ^ 31 by omega)]
  obtain ⟨m1, m2, m3, m4⟩ := mB0 hT hp
  have hsh : ¬ tB T p = -1 → Ey l (d + 4) mX10_shameOf [.ref 77, .int (nI 0), .int (nI p)] h1 (some (.int (shT C T p (tB T p).toNatClampNeg (lkT C T (tB T p).toNatClampNeg (tD T))))) (Fz S93 h1) := fun z => by
    obtain ⟨y, hy, ey⟩ := (V.1 p hp).2.1.resolve_left z
    have hsh := q_shameOf (l := l) (d := d) W H.1 hT (by omega) (by omega) hp hy ey
    rw [if_pos H.2.2] at hsh
    rw [ey, cl_nI (by omega)]; exact hsh
  refine go_iloadn dX10_thing_24 rfl ?_
  refine go_tab 5 0 106 [60, 67, 77, 86, 96] dX10_thing_25 rfl rfl rfl rfl rfl (by decide) (fun c25 => ?_) (fun i hi c25 => ?_)
  · have e := kd_eq (by decide) hj c25
    subst e
    refine go_aloadn dX10_thing_106 rfl ?_
    refine sg_getR dX10_thing_107 fX10_66 rfl (mo_L rfl) hS (mo_r42 hS rfl) ?_
    refine go_bipush (v := 11) dX10_thing_110 rfl ?_
    refine go_iloadn dX10_thing_112 rfl ?_
    refine go_iadd dX10_thing_113 ?_
    refine sg_ialdN (i := 11 + p) dX10_thing_114 (mo_42 rfl) hS (by simp only [lit_nI, nI_add, pk_mul, Nat.add_assoc, Nat.zero_add, Nat.add_zero]) (by omega) (m2) ?_
    refine go_iconst (v := -1) dX10_thing_115 rfl ?_
    refine go_icmp_ne (tgt := 123) dX10_thing_116 (by decide) (fun c116 => ?_) (fun c116 => ?_)
    · refine go_aloadn dX10_thing_123 rfl ?_
      refine go_iconst (v := 0) dX10_thing_124 rfl ?_
      refine go_iloadn dX10_thing_125 rfl ?_
      refine sg_rVi (M' := mX10_shameOf) ([.int (nI 0), .int (nI p)]) dX10_thing_126 lX10_321 vX10_shameOf (mo_L rfl) (by decide) rfl hS (hsh c116) rfl (Nat.le_of_ble_eq_true rfl) (Nat.zero_le _) (Nat.zero_le _) (fun g F => ?_)
      refine go_ireturn dX10_thing_129 rfl rfl (Nat.zero_le _) (Nat.zero_le _) ?_
      first | exact qn_ok (by show _ = if tB T p = -1 then _ else _; rw [if_pos c116]) h0 hF | exact qn_ok (by show _ = if tB T p = -1 then _ else _; rw [if_pos (Decidable.not_not.mp c116)]) h0 hF | exact qn_ok (by show _ = if tB T p = -1 then _ else _; rw [if_neg c116]) (by rw [F.I (by unfold S93; omega)]; exact h0) (hF.tr (F.sub (fun _ _ => s93m)))
    · refine go_iconst (v := 0) dX10_thing_119 rfl ?_
      refine go_goto (tgt := 129) dX10_thing_120 (by decide) ?_
      refine go_ireturn dX10_thing_129 rfl rfl (Nat.zero_le _) (Nat.zero_le _) ?_
      first | exact qn_ok (by show _ = if tB T p = -1 then _ else _; rw [if_pos c116]) h0 hF | exact qn_ok (by show _ = if tB T p = -1 then _ else _; rw [if_pos (Decidable.not_not.mp c116)]) h0 hF | exact qn_ok (by show _ = if tB T p = -1 then _ else _; rw [if_neg c116]) (by rw [F.I (by unfold S93; omega)]; exact h0) (hF.tr (F.sub (fun _ _ => s93m)))
  · match i, hi, c25 with
    | 0, _, c25 =>
      have e := (nI_eq (by omega) (by omega)).mp c25
      subst e
      refine go_aloadn dX10_thing_60 rfl ?_
      refine sg_getR dX10_thing_61 fX10_26 rfl (mo_L rfl) hS (mo_r8 hS rfl) ?_
      refine go_iloadn dX10_thing_64 rfl ?_
      refine sg_ialdN (i := p) dX10_thing_65 (mo_8 rfl) hS (by simp only [lit_nI, nI_add, pk_mul, Nat.add_assoc, Nat.zero_add, Nat.add_zero]) (by omega) (H.1.2.2.2.2.1 p hp) ?_
      refine go_ireturn dX10_thing_66 rfl rfl (Nat.zero_le _) (Nat.zero_le _) ?_
      exact qn_ok rfl h0 hF
    | 1, _, c25 =>
      have e := (nI_eq (by omega) (by omega)).mp c25
      subst e
      refine go_aloadn dX10_thing_67 rfl ?_
      refine sg_getR dX10_thing_68 fX10_66 rfl (mo_L rfl) hS (mo_r42 hS rfl) ?_
      refine go_bipush (v := 31) dX10_thing_71 rfl ?_
      refine go_iloadn dX10_thing_73 rfl ?_
      refine go_iadd dX10_thing_74 ?_
      refine sg_ialdN (i := 31 + p) dX10_thing_75 (mo_42 rfl) hS (by simp only [lit_nI, nI_add, pk_mul, Nat.add_assoc, Nat.zero_add, Nat.add_zero]) (by omega) (m4) ?_
      refine go_ireturn dX10_thing_76 rfl rfl (Nat.zero_le _) (Nat.zero_le _) ?_
      exact qn_ok rfl h0 hF
    | 2, _, c25 =>
      have e := (nI_eq (by omega) (by omega)).mp c25
      subst e
      refine go_aloadn dX10_thing_77 rfl ?_
      refine sg_getR dX10_thing_78 fX10_66 rfl (mo_L rfl) hS (mo_r42 hS rfl) ?_
      refine go_iconst (v := 1) dX10_thing_81 rfl ?_
      refine go_iloadn dX10_thing_82 rfl ?_
      refine go_iadd dX10_thing_83 ?_
      refine sg_ialdN (i := 1 + p) dX10_thing_84 (mo_42 rfl) hS (by simp only [lit_nI, nI_add, pk_mul, Nat.add_assoc, Nat.zero_add, Nat.add_zero]) (by omega) (m1) ?_
      refine go_ireturn dX10_thing_85 rfl rfl (Nat.zero_le _) (Nat.zero_le _) ?_
      exact qn_ok rfl h0 hF
    | 3, _, c25 =>
      have e := (nI_eq (by omega) (by omega)).mp c25
      subst e
      refine go_aloadn dX10_thing_86 rfl ?_
      refine sg_getR dX10_thing_87 fX10_66 rfl (mo_L rfl) hS (mo_r42 hS rfl) ?_
      refine go_bipush (v := 11) dX10_thing_90 rfl ?_
      refine go_iloadn dX10_thing_92 rfl ?_
      refine go_iadd dX10_thing_93 ?_
      refine sg_ialdN (i := 11 + p) dX10_thing_94 (mo_42 rfl) hS (by simp only [lit_nI, nI_add, pk_mul, Nat.add_assoc, Nat.zero_add, Nat.add_zero]) (by omega) (m2) ?_
      refine go_ireturn dX10_thing_95 rfl rfl (Nat.zero_le _) (Nat.zero_le _) ?_
      exact qn_ok rfl h0 hF
    | 4, _, c25 =>
      have e := (nI_eq (by omega) (by omega)).mp c25
      subst e
      refine go_aloadn dX10_thing_96 rfl ?_
      refine sg_getR dX10_thing_97 fX10_66 rfl (mo_L rfl) hS (mo_r42 hS rfl) ?_
      refine go_bipush (v := 21) dX10_thing_100 rfl ?_
      refine go_iloadn dX10_thing_102 rfl ?_
      refine go_iadd dX10_thing_103 ?_
      refine sg_ialdN (i := 21 + p) dX10_thing_104 (mo_42 rfl) hS (by simp only [lit_nI, nI_add, pk_mul, Nat.add_assoc, Nat.zero_add, Nat.add_zero]) (by omega) (m3) ?_
      refine go_ireturn dX10_thing_105 rfl rfl (Nat.zero_le _) (Nat.zero_le _) ?_
      exact qn_ok rfl h0 hF
    | (i + 5), hi, _ => exact absurd hi (by omega)
theorem m_where {l : Launch} {d as ar : Nat} {x k w : Int32} {C : Cy} {T : Tn} {h : Hp} (W : WC C) (H : MB h as ar C T) (hD9 : tD T ≤ 9999) : Qm l (d + 3) mX10_where [.ref 77, .int x, .int k, .int w] h (vWhere C T x k w) := by
  have hS := H.1.1
  have hP := W.1.2.1
  refine run_lv [some (.ref 77), some (.int x), some (.int k), some (.int w), none] (go := ?_)
  unfold vWhere
  refine go_aloadn dX10_where_0 rfl ?_
  refine go_iconst (v := 0) dX10_where_1 rfl ?_
  refine sg_putI dX10_where_2 fX10_102 rfl rfl (mo_L rfl) hS ?_
  have hF : Fz SM h (uI h 77 0 0) := Fz.rf.uI sm0
  have H := H.sm W hF
  have h0 : hI (uI h 77 0 0) 77 0 = 0 := hI_uI_eq
  generalize uI h 77 0 0 = h1 at *
  have hS := H.1.1
  have hT := H.2.1
  refine go_aloadn dX10_where_5 rfl ?_
  refine go_iloadn dX10_where_6 rfl ?_
  refine sg_mnd (M' := mX10_isPerson) ([.int x]) dX10_where_7 lX10_362 vX10_isPerson (mo_L rfl) (by decide) rfl hS (q_isPerson H.1 h0).1 (q_isPerson H.1 h0).2 rfl (Nat.le_of_ble_eq_true rfl) (fun k7 => ?_) (fun k7 => ?_)
  · refine go_if_eq (tgt := 32) dX10_where_10 (by decide) (fun _ => ?_) (fun c => absurd rfl c)
    refine go_iconst (v := 0) dX10_where_32 rfl ?_
    refine go_ireturn dX10_where_33 rfl rfl (Nat.zero_le _) (Nat.zero_le _) ?_
    exact ⟨⟨0, rfl, fun q => absurd q (by decide)⟩, hI_uI_eq, hF.uI sm0⟩
  refine go_if_eq (tgt := 32) dX10_where_10 (by decide) (fun c10 => absurd c10 (by decide)) (fun c10 => ?_)
  refine go_aloadn dX10_where_13 rfl ?_
  refine go_iloadn dX10_where_14 rfl ?_
  refine go_iconst (v := 1) dX10_where_15 rfl ?_
  refine sg_mnd (M' := mX10_isWhat) ([.int w, .int 1]) dX10_where_16 lX10_365 vX10_isWhat (mo_L rfl) (by decide) rfl hS (q_isWhat hS h0).1 (q_isWhat hS h0).2 rfl (Nat.le_of_ble_eq_true rfl) (fun k16 => ?_) (fun k16 => ?_)
  · refine go_if_eq (tgt := 32) dX10_where_19 (by decide) (fun _ => ?_) (fun c => absurd rfl c)
    refine go_iconst (v := 0) dX10_where_32 rfl ?_
    refine go_ireturn dX10_where_33 rfl rfl (Nat.zero_le _) (Nat.zero_le _) ?_
    exact ⟨⟨0, rfl, fun q => absurd q (by decide)⟩, hI_uI_eq, hF.uI sm0⟩
  refine go_if_eq (tgt := 32) dX10_where_19 (by decide) (fun c19 => absurd c19 (by decide)) (fun c19 => ?_)
  refine go_aloadn dX10_where_22 rfl ?_
  refine go_iloadn dX10_where_23 rfl ?_
  refine go_iconst (v := 1) dX10_where_24 rfl ?_
  refine go_iconst (v := 2) dX10_where_25 rfl ?_
  refine sg_mnd (M' := mX10_isSoon) ([.int k, .int 1, .int (nI 2)]) dX10_where_26 lX10_399 vX10_isSoon (mo_L rfl) (by decide) rfl hS (q_isSoon hS h0 (by decide) (by decide)).1 (q_isSoon hS h0 (by decide) (by decide)).2 rfl (Nat.le_of_ble_eq_true rfl) (fun k26 => ?_) (fun k26 => ?_)
  · refine go_if_ne (tgt := 34) dX10_where_29 (by decide) (fun c => absurd rfl c) (fun _ => ?_)
    refine go_iconst (v := 0) dX10_where_32 rfl ?_
    refine go_ireturn dX10_where_33 rfl rfl (Nat.zero_le _) (Nat.zero_le _) ?_
    exact ⟨⟨0, rfl, fun q => absurd q (by decide)⟩, hI_uI_eq, hF.uI sm0⟩
  refine go_if_ne (tgt := 34) dX10_where_29 (by decide) (fun c29 => ?_) (fun c29 => absurd c29 (by decide))
  obtain ⟨p, hp, rfl⟩ := ok_nI (by omega) k7
  obtain ⟨j, hj1, hj, rfl⟩ := rg_nI (a := 1) (b := 100) rfl rfl (by decide) (by decide) k26
  obtain ⟨i, rfl⟩ : ∃ i, j = i + 1 := ⟨j - 1, by omega⟩
  rw [cl_nI (show p < 2 ^ 31 by omega), cl_nI (show i + 1 < 2 ^ 31 by omega), Nat.add_sub_cancel]
  refine go_aloadn dX10_where_34 rfl ?_
  refine sg_getR dX10_where_35 fX10_66 rfl (mo_L rfl) hS (mo_r42 hS rfl) ?_
  refine go_iconst (v := 0) dX10_where_38 rfl ?_
  refine sg_ialdN (i := 0) (x := nI (tD T)) dX10_where_39 (mo_42 rfl) hS (by simp only [lit_nI, nI_add, pk_mul, Nat.add_assoc, Nat.zero_add, Nat.add_zero]) (by omega) (hT.1) ?_
  refine go_iloadn dX10_where_40 rfl ?_
  refine go_iadd dX10_where_41 ?_
  refine go_iconst (v := 1) dX10_where_42 rfl ?_
  refine go_isub dX10_where_43 ?_
  rw [nI_cs]
  refine go_ist4 dX10_where_44 rfl ?_
  refine go_iloadn dX10_where_46 rfl ?_
  refine go_if_ne (tgt := 61) dX10_where_47 (by decide) (fun c47 => ?_) (fun c47 => ?_)
  · refine go_aloadn dX10_where_61 rfl ?_
    refine go_iconst (v := 0) dX10_where_62 rfl ?_
    refine go_iloadn dX10_where_63 rfl ?_
    refine go_iload dX10_where_64 rfl ?_
    refine sg_cVi (M' := mX10_looksAt) ([.int (nI 0), .int (nI p), .int (nI (tD T + i))]) dX10_where_66 lX10_306 vX10_looksAt (mo_L rfl) (by decide) rfl hS (q_looksAt W H.1 hT (by omega) hp (by omega)) rfl (Nat.le_of_ble_eq_true rfl) (Nat.zero_le _) (Nat.zero_le _) ?_
    refine go_ireturn dX10_where_69 rfl rfl (Nat.zero_le _) (Nat.zero_le _) ?_
    first | exact qn_ok (by rw [if_pos c47]) h0 hF | exact qn_ok (by rw [if_neg c47]) h0 hF
  · refine go_aloadn dX10_where_50 rfl ?_
    refine go_iconst (v := 0) dX10_where_51 rfl ?_
    refine go_iloadn dX10_where_52 rfl ?_
    refine go_iload dX10_where_53 rfl ?_
    refine sg_cVi (M' := mX10_placeOn) ([.int (nI 0), .int (nI p), .int (nI (tD T + i))]) dX10_where_55 lX10_297 vX10_placeOn (mo_L rfl) (by decide) rfl hS (q_placeOn W H.1 hT (by omega) hp (by omega)) rfl (Nat.le_of_ble_eq_true rfl) (Nat.zero_le _) (Nat.zero_le _) ?_
    refine go_goto (tgt := 69) dX10_where_58 (by decide) ?_
    refine go_ireturn dX10_where_69 rfl rfl (Nat.zero_le _) (Nat.zero_le _) ?_
    first | exact qn_ok (by rw [if_pos c47]) h0 hF | exact qn_ok (by rw [if_neg c47]) h0 hF
theorem m_then {l : Launch} {d as ar : Nat} {x n w : Int32} {C : Cy} {T : Tn} {h : Hp} (W : WC C) (H : MB h as ar C T) (V : WT C T) (hD9 : tD T ≤ 9999) : Qm l (d + 9) mX10_then [.ref 77, .int x, .int n, .int w] h (vThen C T x n w) := by
  have hS := H.1.1
  have hN := W.1.1
  refine run_lv [some (.ref 77), some (.int x), some (.int n), some (.int w)] (go := ?_)
  unfold vThen
  refine go_aloadn dX10_then_0 rfl ?_
  refine go_iconst (v := 0) dX10_then_1 rfl ?_
  refine sg_putI dX10_then_2 fX10_102 rfl rfl (mo_L rfl) hS ?_
  have hF : Fz SM h (uI h 77 0 0) := Fz.rf.uI sm0
  have H := H.sm W hF
  have h0 : hI (uI h 77 0 0) 77 0 = 0 := hI_uI_eq
  generalize uI h 77 0 0 = h1 at *
  have hS := H.1.1
  refine go_aloadn dX10_then_5 rfl ?_
  refine go_iloadn dX10_then_6 rfl ?_
  refine sg_mnd (M' := mX10_isThing) ([.int x]) dX10_then_7 lX10_377 vX10_isThing (mo_L rfl) (by decide) rfl hS (q_isThing H.1 h0).1 (q_isThing H.1 h0).2 rfl (Nat.le_of_ble_eq_true rfl) (fun k7 => ?_) (fun k7 => ?_)
  · refine go_if_eq (tgt := 32) dX10_then_10 (by decide) (fun _ => ?_) (fun c => absurd rfl c)
    refine go_iconst (v := 0) dX10_then_32 rfl ?_
    refine go_ireturn dX10_then_33 rfl rfl (Nat.zero_le _) (Nat.zero_le _) ?_
    exact ⟨⟨0, rfl, fun q => absurd q (by decide)⟩, hI_uI_eq, hF.uI sm0⟩
  refine go_if_eq (tgt := 32) dX10_then_10 (by decide) (fun c10 => absurd c10 (by decide)) (fun c10 => ?_)
  refine go_aloadn dX10_then_13 rfl ?_
  refine go_iloadn dX10_then_14 rfl ?_
  refine go_iconst (v := 2) dX10_then_15 rfl ?_
  refine sg_mnd (M' := mX10_isWhat) ([.int w, .int 2]) dX10_then_16 lX10_365 vX10_isWhat (mo_L rfl) (by decide) rfl hS (q_isWhat hS h0).1 (q_isWhat hS h0).2 rfl (Nat.le_of_ble_eq_true rfl) (fun k16 => ?_) (fun k16 => ?_)
  · refine go_if_eq (tgt := 32) dX10_then_19 (by decide) (fun _ => ?_) (fun c => absurd rfl c)
    refine go_iconst (v := 0) dX10_then_32 rfl ?_
    refine go_ireturn dX10_then_33 rfl rfl (Nat.zero_le _) (Nat.zero_le _) ?_
    exact ⟨⟨0, rfl, fun q => absurd q (by decide)⟩, hI_uI_eq, hF.uI sm0⟩
  refine go_if_eq (tgt := 32) dX10_then_19 (by decide) (fun c19 => absurd c19 (by decide)) (fun c19 => ?_)
  refine go_aloadn dX10_then_22 rfl ?_
  refine go_iloadn dX10_then_23 rfl ?_
  refine go_iconst (v := 0) dX10_then_24 rfl ?_
  refine go_iconst (v := 2) dX10_then_25 rfl ?_
  refine sg_mnd (M' := mX10_isSoon) ([.int n, .int 0, .int (nI 2)]) dX10_then_26 lX10_399 vX10_isSoon (mo_L rfl) (by decide) rfl hS (q_isSoon hS h0 (by decide) (by decide)).1 (q_isSoon hS h0 (by decide) (by decide)).2 rfl (Nat.le_of_ble_eq_true rfl) (fun k26 => ?_) (fun k26 => ?_)
  · refine go_if_ne (tgt := 34) dX10_then_29 (by decide) (fun c => absurd rfl c) (fun _ => ?_)
    refine go_iconst (v := 0) dX10_then_32 rfl ?_
    refine go_ireturn dX10_then_33 rfl rfl (Nat.zero_le _) (Nat.zero_le _) ?_
    exact ⟨⟨0, rfl, fun q => absurd q (by decide)⟩, hI_uI_eq, hF.uI sm0⟩
  refine go_if_ne (tgt := 34) dX10_then_29 (by decide) (fun c29 => ?_) (fun c29 => absurd c29 (by decide))
  obtain ⟨p, hp, rfl⟩ := ok_nI (by omega) k7
  obtain ⟨j, -, hj, rfl⟩ := rg_nI (a := 0) (b := 100) rfl rfl (by decide) (by decide) k26
  rw [cl_nI (show p < 2 ^ 31 by omega), cl_nI (show j < 2 ^ 31 by omega)]
  refine go_aloadn dX10_then_34 rfl ?_
  refine go_iloadn dX10_then_35 rfl ?_
  refine sg_rV0 (M' := mX10_goesTo) ([.int (nI j)]) dX10_then_36 lX10_402 vX10_goesTo (mo_L rfl) (by decide) rfl hS (q_goesTo W H V (by omega)) rfl (Nat.le_of_ble_eq_true rfl) (Nat.zero_le _) (Nat.zero_le _) (fun g F => ?_)
  have hS := F.2.1.1.1
  have m := F.2.2.2.1 p hp
  refine go_aloadn dX10_then_39 rfl ?_
  refine sg_getR dX10_then_40 fX10_66 rfl (mo_L rfl) hS (mo_r42 hS rfl) ?_
  refine go_bipush (v := 105) dX10_then_43 rfl ?_
  refine go_iloadn dX10_then_45 rfl ?_
  refine go_if_ne (tgt := 54) dX10_then_46 (by decide) (fun c46 => ?_) (fun c46 => ?_)
  · refine go_iloadn dX10_then_54 rfl ?_
    refine go_iconst (v := 1) dX10_then_55 rfl ?_
    refine go_icmp_ne (tgt := 63) dX10_then_56 (by decide) (fun c56 => ?_) (fun c56 => ?_)
    · refine go_bipush (v := 21) dX10_then_63 rfl ?_
      refine go_iadd dX10_then_65 ?_
      refine go_iloadn dX10_then_66 rfl ?_
      refine go_iadd dX10_then_67 ?_
      first | (rw [show (105 : Int32) + 11 + nI p = nI (105 + (11 + p)) from by simp only [lit_nI, nI_add, Nat.add_assoc]]) | (rw [show (105 : Int32) + 1 + nI p = nI (105 + (1 + p)) from by simp only [lit_nI, nI_add, Nat.add_assoc]]) | rw [show (105 : Int32) + 21 + nI p = nI (105 + (21 + p)) from by simp only [lit_nI, nI_add, Nat.add_assoc]]
      refine sg_iald dX10_then_68 (mo_42 rfl) hS (vp_in_nI (by omega) (by decide)) ?_
      refine go_ireturn dX10_then_69 rfl rfl (Nat.zero_le _) (Nat.zero_le _) ?_
      first | exact qn_ok (by rw [if_pos c46, cl_nI (by omega)]; exact m.2.1) (F.1.t0.trans h0) (hF.tr F.1.sn) | exact qn_ok (by rw [if_neg c46, if_pos c56, cl_nI (by omega)]; exact m.1) (F.1.t0.trans h0) (hF.tr F.1.sn) | exact qn_ok (by rw [if_neg c46, if_pos (Decidable.not_not.mp c56), cl_nI (by omega)]; exact m.1) (F.1.t0.trans h0) (hF.tr F.1.sn) | exact qn_ok (by rw [if_neg c46, if_neg c56, cl_nI (by omega)]; exact m.2.2.1) (F.1.t0.trans h0) (hF.tr F.1.sn)
    · refine go_iconst (v := 1) dX10_then_59 rfl ?_
      refine go_goto (tgt := 65) dX10_then_60 (by decide) ?_
      refine go_iadd dX10_then_65 ?_
      refine go_iloadn dX10_then_66 rfl ?_
      refine go_iadd dX10_then_67 ?_
      first | (rw [show (105 : Int32) + 11 + nI p = nI (105 + (11 + p)) from by simp only [lit_nI, nI_add, Nat.add_assoc]]) | (rw [show (105 : Int32) + 1 + nI p = nI (105 + (1 + p)) from by simp only [lit_nI, nI_add, Nat.add_assoc]]) | rw [show (105 : Int32) + 21 + nI p = nI (105 + (21 + p)) from by simp only [lit_nI, nI_add, Nat.add_assoc]]
      refine sg_iald dX10_then_68 (mo_42 rfl) hS (vp_in_nI (by omega) (by decide)) ?_
      refine go_ireturn dX10_then_69 rfl rfl (Nat.zero_le _) (Nat.zero_le _) ?_
      first | exact qn_ok (by rw [if_pos c46, cl_nI (by omega)]; exact m.2.1) (F.1.t0.trans h0) (hF.tr F.1.sn) | exact qn_ok (by rw [if_neg c46, if_pos c56, cl_nI (by omega)]; exact m.1) (F.1.t0.trans h0) (hF.tr F.1.sn) | exact qn_ok (by rw [if_neg c46, if_pos (Decidable.not_not.mp c56), cl_nI (by omega)]; exact m.1) (F.1.t0.trans h0) (hF.tr F.1.sn) | exact qn_ok (by rw [if_neg c46, if_neg c56, cl_nI (by omega)]; exact m.2.2.1) (F.1.t0.trans h0) (hF.tr F.1.sn)
  · refine go_bipush (v := 11) dX10_then_49 rfl ?_
    refine go_goto (tgt := 65) dX10_then_51 (by decide) ?_
    refine go_iadd dX10_then_65 ?_
    refine go_iloadn dX10_then_66 rfl ?_
    refine go_iadd dX10_then_67 ?_
    first | (rw [show (105 : Int32) + 11 + nI p = nI (105 + (11 + p)) from by simp only [lit_nI, nI_add, Nat.add_assoc]]) | (rw [show (105 : Int32) + 1 + nI p = nI (105 + (1 + p)) from by simp only [lit_nI, nI_add, Nat.add_assoc]]) | rw [show (105 : Int32) + 21 + nI p = nI (105 + (21 + p)) from by simp only [lit_nI, nI_add, Nat.add_assoc]]
    refine sg_iald dX10_then_68 (mo_42 rfl) hS (vp_in_nI (by omega) (by decide)) ?_
    refine go_ireturn dX10_then_69 rfl rfl (Nat.zero_le _) (Nat.zero_le _) ?_
    first | exact qn_ok (by rw [if_pos c46, cl_nI (by omega)]; exact m.2.1) (F.1.t0.trans h0) (hF.tr F.1.sn) | exact qn_ok (by rw [if_neg c46, if_pos c56, cl_nI (by omega)]; exact m.1) (F.1.t0.trans h0) (hF.tr F.1.sn) | exact qn_ok (by rw [if_neg c46, if_pos (Decidable.not_not.mp c56), cl_nI (by omega)]; exact m.1) (F.1.t0.trans h0) (hF.tr F.1.sn) | exact qn_ok (by rw [if_neg c46, if_neg c56, cl_nI (by omega)]; exact m.2.2.1) (F.1.t0.trans h0) (hF.tr F.1.sn)
