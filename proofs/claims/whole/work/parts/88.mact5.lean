/-! the model's image -/
theorem q_copies {l : Launch} {d a b n : Nat} {h : Hp} (hS : St h) (ha : lay a = .inr (0, n)) (hb : lay b = .inr (0, n)) (ne : a ≠ b) (hn : n < 10000) : Ey l (d + 1) mX10_copies [.ref 77, .ref a, .ref b] h none (fun g => Fz (fun x _ => x = b) h g ∧ ∀ k, k < n → hI g b k = hI h a k) := by
  refine run_lv [some (.ref 77), some (.ref a), some (.ref b), none] (go := ?_)
  refine go_iconst (v := 0) dX10_copies_0 rfl ?_
  refine go_ist3 dX10_copies_1 rfl ?_
  refine go_loopR (lvf := fun k => [some (.ref 77), some (.ref a), some (.ref b), some (.int (nI k))]) n (fun k g => Fz (fun x _ => x = b) h g ∧ ∀ j, j < k → hI g b j = hI h a j) (fun k g hk hh ih => ?_) (fun g hh => ?_) 0 h (Nat.zero_le _) ⟨Fz.rf, fun _ q => absurd q (by omega)⟩
  · obtain ⟨F, e⟩ := hh
    have hS := F.St hS
    refine go_iloadn dX10_copies_2 rfl ?_
    refine go_aloadn dX10_copies_3 rfl ?_
    refine sg_alen (v := nI n) dX10_copies_4 ha hS rfl ?_
    refine go_icmp_ge (tgt := 20) dX10_copies_5 (by decide) (fun c5 => absurd c5 (nI_ge hk (by omega))) (fun c5 => ?_)
    refine go_aloadn dX10_copies_8 rfl ?_
    refine go_iloadn dX10_copies_9 rfl ?_
    refine go_aloadn dX10_copies_10 rfl ?_
    refine go_iloadn dX10_copies_11 rfl ?_
    refine sg_ialdN (i := k) (x := hI h a k) dX10_copies_12 ha hS (by simp only [lit_nI, nI_add, pk_mul, Nat.add_assoc, Nat.zero_add, Nat.add_zero]) (by omega) ((F.I ne)) ?_
    refine sg_iastN (i := k) dX10_copies_13 hb hS (by simp only [lit_nI, nI_add, pk_mul, Nat.add_assoc, Nat.zero_add, Nat.add_zero]) (by omega) ?_
    refine go_iinc3 (c1 := 1) dX10_copies_14 rfl rfl ?_
    refine go_goto (tgt := 2) dX10_copies_17 (by decide) ?_
    exact go_cong (ih _ ⟨F.uI rfl, fun j hj => by rw [hI_uI]; by_cases z : j = k; (· subst z; rw [if_pos ⟨rfl, rfl⟩]); (rw [if_neg (by omega)]; exact e j (by omega))⟩) (by simp [nI_1]) rfl
  · obtain ⟨F, e⟩ := hh
    have hS := F.St hS
    refine go_iloadn dX10_copies_2 rfl ?_
    refine go_aloadn dX10_copies_3 rfl ?_
    refine sg_alen (v := nI n) dX10_copies_4 ha hS rfl ?_
    refine go_icmp_ge (tgt := 20) dX10_copies_5 (by decide) (fun c5 => ?_) (fun c5 => absurd (nI_le (Nat.le_refl _) (by omega)) c5)
    refine go_return dX10_copies_20 rfl (Nat.zero_le _) (Nat.zero_le _) ?_
    exact ⟨rfl, F, e⟩
theorem MA.cp {f g : Nat → Int32} {n : Int32} {C : Cy} {A : List Tn} (W : WC C) (H : MA f n C A) (e : ∀ k, k < 4200 → g k = f k) : MA g n C A := ⟨H.1, H.2.1, fun i hi => MR.cp W (H.2.2 i hi) (fun j hj => e _ (by have := H.2.1; omega))⟩
theorem MQn.cp {f g : Nat → Int32} {n : Int32} {N : Nat} {Q : Nt} (H : MQn f n N Q) (e : ∀ k, k < 24 → g k = f k) : MQn g n N Q := ⟨H.1, H.2.1, fun i hi => by have := H.2.1; rw [e _ (by omega), e _ (by omega), e _ (by omega)]; exact H.2.2 i hi⟩
/-- what an image changes -/
def SI (a k : Nat) : Prop := a = 100 ∨ a = 101 ∨ a = 102 ∨ (a = 77 ∧ (k = 56 ∨ k = 57 ∨ k = 58))
theorem m_image {l : Launch} {d : Nat} {S : Sx} {h : Hp} (W : WS S) (K : MV h S) : Run l (d + 3) (0, 0) mX10_image [.ref 77] h (fun v g => v = none ∧ hI g 77 0 = 0 ∧ MV g (imS S) ∧ Fz SA h g) noX := by
  have hS := K.St
  have hN1 := W.1.1.1
  have hP := W.1.1.2.1
  refine run_lv [some (.ref 77), none] (go := ?_)
  refine go_aloadn dX10_image_0 rfl ?_
  refine go_iconst (v := 0) dX10_image_1 rfl ?_
  refine sg_putI dX10_image_2 fX10_102 rfl rfl (mo_L rfl) hS ?_
  have hF : Fz SM h (uI h 77 0 0) := Fz.rf.uI sm0
  have KM := K.sm W.1 hF
  have h0 : hI (uI h 77 0 0) 77 0 = 0 := hI_uI_eq
  generalize uI h 77 0 0 = h1 at *
  have hS := KM.St
  obtain ⟨as, ar, H, KR⟩ := id KM
  obtain ⟨k1, k2, k3, ⟨k4, k5⟩, k6, k7⟩ := id KR
  refine go_aloadn dX10_image_5 rfl ?_
  refine go_iconst (v := 1) dX10_image_6 rfl ?_
  refine sg_putZ dX10_image_7 fX10_289 rfl rfl (mo_L rfl) hS (by decide) ?_
  refine go_aloadn dX10_image_10 rfl ?_
  refine go_aloadn dX10_image_11 rfl ?_
  refine sg_getI dX10_image_12 fX10_283 rfl (mo_L rfl) hS ?_
  refine sg_putI dX10_image_15 fX10_445 rfl rfl (mo_L rfl) hS ?_
  refine go_aloadn dX10_image_18 rfl ?_
  refine go_aloadn dX10_image_19 rfl ?_
  refine sg_getI dX10_image_20 fX10_286 rfl (mo_L rfl) hS ?_
  refine sg_putI dX10_image_23 fX10_448 rfl rfl (mo_L rfl) hS ?_
  refine go_iconst (v := 0) dX10_image_26 rfl ?_
  refine go_ist1 dX10_image_27 rfl ?_
  skip
  have F0 : Fz SI h1 (uI (uI (uI h1 77 56 1) 77 57 (hI h1 77 44)) 77 58 (hI h1 77 51)) := ((Fz.rf.uI (by unfold SI; omega)).uI (by unfold SI; omega)).uI (by unfold SI; omega)
  have x56 : hI (uI (uI (uI h1 77 56 1) 77 57 (hI h1 77 44)) 77 58 (hI h1 77 51)) 77 56 = 1 := by rw [hI_uI_ne (by omega), hI_uI_ne (by omega), hI_uI_eq]
  have x57 : hI (uI (uI (uI h1 77 56 1) 77 57 (hI h1 77 44)) 77 58 (hI h1 77 51)) 77 57 = hI h1 77 44 := by rw [hI_uI_ne (by omega), hI_uI_eq]
  have x58 : hI (uI (uI (uI h1 77 56 1) 77 57 (hI h1 77 44)) 77 58 (hI h1 77 51)) 77 58 = hI h1 77 51 := hI_uI_eq
  refine go_cong (h' := uI (uI (uI h1 77 56 1) 77 57 (hI h1 77 44)) 77 58 (hI h1 77 51)) ?_ rfl (by rw [hI_uI_ne (by omega), hI_uI_ne (by omega), hI_uI_ne (by omega)])
  generalize uI (uI (uI h1 77 56 1) 77 57 (hI h1 77 44)) 77 58 (hI h1 77 51) = g0 at *
  refine go_back (go_loopR (lvf := fun k => [some (.ref 77), some (.int (nI k))]) 105 (fun k g => Fz (fun a _ => a = 100) g0 g ∧ ∀ j, j < k → hI g 100 j = hI h1 91 j) (fun k g hk hh ih => ?_) (fun g hh => ?_) 0 g0 (Nat.zero_le _) ⟨Fz.rf, fun _ q => absurd q (by omega)⟩) (by simp [lsub, nI]) rfl
  · obtain ⟨F, e⟩ := hh
    have hS := F.St (F0.St hS)
    refine go_iloadn dX10_image_28 rfl ?_
    refine go_bipush (v := 105) dX10_image_29 rfl ?_
    refine go_icmp_ge (tgt := 52) dX10_image_31 (by decide) (fun c31 => absurd c31 (nI_ge (b := 105) hk (by decide))) (fun c31 => ?_)
    refine go_aloadn dX10_image_34 rfl ?_
    refine sg_getR dX10_image_35 fX10_93 rfl (mo_L rfl) hS (mo_r59 hS rfl) ?_
    refine go_iloadn dX10_image_38 rfl ?_
    refine go_aloadn dX10_image_39 rfl ?_
    refine sg_getR dX10_image_40 fX10_66 rfl (mo_L rfl) hS (mo_r42 hS rfl) ?_
    refine go_iloadn dX10_image_43 rfl ?_
    refine sg_ialdN (i := k) (x := hI h1 91 k) dX10_image_44 (mo_42 rfl) hS (by simp only [lit_nI, nI_add, pk_mul, Nat.add_assoc, Nat.zero_add, Nat.add_zero]) (by omega) (((F.I (by omega)).trans (F0.I (by unfold SI; omega)))) ?_
    refine sg_iastN (i := k) dX10_image_45 (mo_59 rfl) hS (by simp only [lit_nI, nI_add, pk_mul, Nat.add_assoc, Nat.zero_add, Nat.add_zero]) (by omega) ?_
    refine go_iinc1 (c1 := 1) dX10_image_46 rfl rfl ?_
    refine go_goto (tgt := 28) dX10_image_49 (by decide) ?_
    exact go_cong (ih _ ⟨F.uI rfl, fun j hj => by rw [hI_uI]; by_cases z : j = k; (· subst z; rw [if_pos ⟨rfl, rfl⟩]); (rw [if_neg (by omega)]; exact e j (by omega))⟩) (by simp [nI_1]) rfl
  · obtain ⟨F, e⟩ := hh
    have hS := F.St (F0.St hS)
    refine go_iloadn dX10_image_28 rfl ?_
    refine go_bipush (v := 105) dX10_image_29 rfl ?_
    refine go_icmp_ge (tgt := 52) dX10_image_31 (by decide) (fun c31 => ?_) (fun c31 => absurd (by decide) c31)
    refine go_aloadn dX10_image_52 rfl ?_
    refine go_aloadn dX10_image_53 rfl ?_
    refine sg_getR dX10_image_54 fX10_69 rfl (mo_L rfl) hS (mo_r43 hS rfl) ?_
    refine go_aloadn dX10_image_57 rfl ?_
    refine sg_getR dX10_image_58 fX10_96 rfl (mo_L rfl) hS (mo_r60 hS rfl) ?_
    refine sg_rV0 (M' := mX10_copies) ([.ref 92, .ref 101]) dX10_image_61 lX10_279 vX10_copies (mo_L rfl) (by decide) rfl hS (q_copies (n := 4200) hS rfl rfl (by decide) (by decide)) rfl (Nat.le_of_ble_eq_true rfl) (Nat.zero_le _) (Nat.zero_le _) (fun g2 F2 => ?_)
    have hS := F2.1.St hS
    refine go_aloadn dX10_image_64 rfl ?_
    refine go_aloadn dX10_image_65 rfl ?_
    refine sg_getR dX10_image_66 fX10_84 rfl (mo_L rfl) hS (mo_r52 hS rfl) ?_
    refine go_aloadn dX10_image_69 rfl ?_
    refine sg_getR dX10_image_70 fX10_99 rfl (mo_L rfl) hS (mo_r61 hS rfl) ?_
    refine sg_rV0 (M' := mX10_copies) ([.ref 97, .ref 102]) dX10_image_73 lX10_279 vX10_copies (mo_L rfl) (by decide) rfl hS (q_copies (n := 24) hS rfl rfl (by decide) (by decide)) rfl (Nat.le_of_ble_eq_true rfl) (Nat.zero_le _) (Nat.zero_le _) (fun g3 F3 => ?_)
    skip
    have hS := F3.1.St hS
    have FF : Fz SI h1 g3 := F0.tr ((F.sub (fun a k q => by unfold SI; omega)).tr ((F2.1.sub (fun a k q => by unfold SI; omega)).tr (F3.1.sub (fun a k q => by unfold SI; omega))))
    have i0 : ∀ x k, x = 77 → hI g3 x k = hI g0 x k := fun x k q => by rw [F3.1.I (by omega), F2.1.I (by omega), F.I (by omega)]
    have e92 : hI g3 92 = hI h1 92 := funext fun k => FF.I (by unfold SI; omega)
    have hB : MB g3 as ar (sC S) (sT S) := ⟨H.1.fz FF (fun a k q => by unfold SI at q; omega), H.2.1.fz W.1 FF (fun k _ _ => by unfold SI; omega), by rw [FF.I (by unfold SI; omega)]; exact H.2.2⟩
    have hV : MVr g3 (sC S) (sA S) (sQ S) (some (sT S, sA S, sQ S)) (sP S) (sF S) (sR S) := by
      refine ⟨by rw [e92, FF.I (by unfold SI; omega)]; exact k1, k2.fz FF (by unfold SI; exact ⟨by omega, fun k => by omega⟩), ⟨(i0 77 56 rfl).trans x56, MR.cp W.1 (mr_mt.mpr H.2.1) (fun j hj => by rw [Nat.zero_add, F3.1.I (by omega), F2.1.I (by omega)]; exact e j hj), ?_, ?_⟩, ⟨by rw [FF.I (by unfold SI; omega)]; exact k4, fun i hi => by rw [FF.I (by unfold SI; omega)]; exact k5 i hi⟩, by rw [FF.I (by unfold SI; omega)]; exact k6, fun i hi => by rw [FF.I (by unfold SI; omega)]; exact k7 i hi⟩
      · rw [i0 77 57 rfl, x57]
        exact k1.cp W.1 (fun k hk => by rw [F3.1.I (by omega), F2.2 k hk, F.I (by omega), F0.I (by unfold SI; omega)])
      · rw [i0 77 58 rfl, x58]
        exact (mq_mn.mpr k2).cp (fun k hk => by rw [F3.2 k hk, F2.1.I (by omega), F.I (by omega), F0.I (by unfold SI; omega)])
    refine go_return dX10_image_76 rfl (Nat.zero_le _) (Nat.zero_le _) ?_
    exact ⟨rfl, by rw [FF.I (by unfold SI; omega)]; exact h0, ⟨as, ar, hB, hV⟩, hF.sa.tr (FF.sub (fun a k q => by unfold SI at q; unfold SA; omega))⟩
/-- what restoring changes -/
def SR (a k : Nat) : Prop := (a = 91 ∧ k < 105) ∨ a = 92 ∨ a = 97 ∨ (a = 77 ∧ (k = 44 ∨ k = 51))
theorem m_restore {l : Launch} {d : Nat} {S : Sx} {h : Hp} (W : WS S) (K : MV h S) : Mo l (d + 3) mX10_restore [.ref 77] h (oRestore S) := by
  have hS := K.St
  have hN1 := W.1.1.1
  have hP := W.1.1.2.1
  refine run_lv [some (.ref 77), none] (go := ?_)
  refine go_aloadn dX10_restore_0 rfl ?_
  refine go_iconst (v := 0) dX10_restore_1 rfl ?_
  refine sg_putI dX10_restore_2 fX10_102 rfl rfl (mo_L rfl) hS ?_
  have hF : Fz SM h (uI h 77 0 0) := Fz.rf.uI sm0
  have KM := K.sm W.1 hF
  have h0 : hI (uI h 77 0 0) 77 0 = 0 := hI_uI_eq
  generalize uI h 77 0 0 = h1 at *
  have hS := KM.St
  obtain ⟨as, ar, H, KR⟩ := id KM
  obtain ⟨k1, k2, k3, ⟨k4, k5⟩, k6, k7⟩ := id KR
  have hsm : sM S = none ∨ ∃ I, sM S = some I := by cases sM S with | none => exact Or.inl rfl | some I => exact Or.inr ⟨I, rfl⟩
  rcases hsm with z | ⟨I, z⟩
  · have eo : oRestore S = (0, 0, S) := by unfold oRestore; rw [z]
    rw [eo]
    rw [z] at k3
    refine go_aloadn dX10_restore_5 rfl ?_
    refine sg_getI dX10_restore_6 fX10_289 rfl (mo_L rfl) hS ?_
    rw [show hI h1 77 56 = 0 from k3]
    refine go_if_ne (tgt := 14) dX10_restore_9 (by decide) (fun c9 => absurd rfl c9) (fun c9 => ?_)
    refine go_iconst (v := 0) dX10_restore_12 rfl ?_
    refine go_ireturn dX10_restore_13 rfl rfl (Nat.zero_le _) (Nat.zero_le _) ?_
    exact qo_ok rfl h0 KM hF.sa
  · have eo : oRestore S = (0, 1, reS S I) := by unfold oRestore; rw [z]
    rw [eo]
    rw [z] at k3
    obtain ⟨i1, i2, i3, i4⟩ := k3
    refine go_aloadn dX10_restore_5 rfl ?_
    refine sg_getI dX10_restore_6 fX10_289 rfl (mo_L rfl) hS ?_
    rw [i1]
    refine go_if_ne (tgt := 14) dX10_restore_9 (by decide) (fun c9 => ?_) (fun c9 => absurd c9 (by decide))
    refine go_aloadn dX10_restore_14 rfl ?_
    refine go_aloadn dX10_restore_15 rfl ?_
    refine sg_getI dX10_restore_16 fX10_445 rfl (mo_L rfl) hS ?_
    refine sg_putI dX10_restore_19 fX10_283 rfl rfl (mo_L rfl) hS ?_
    refine go_aloadn dX10_restore_22 rfl ?_
    refine go_aloadn dX10_restore_23 rfl ?_
    refine sg_getI dX10_restore_24 fX10_448 rfl (mo_L rfl) hS ?_
    refine sg_putI dX10_restore_27 fX10_286 rfl rfl (mo_L rfl) hS ?_
    refine go_iconst (v := 0) dX10_restore_30 rfl ?_
    refine go_ist1 dX10_restore_31 rfl ?_
    skip
    have F0 : Fz SR h1 (uI (uI h1 77 44 (hI h1 77 57)) 77 51 (hI h1 77 58)) := (Fz.rf.uI (by unfold SR; omega)).uI (by unfold SR; omega)
    have x44 : hI (uI (uI h1 77 44 (hI h1 77 57)) 77 51 (hI h1 77 58)) 77 44 = hI h1 77 57 := by rw [hI_uI_ne (by omega), hI_uI_eq]
    have x51 : hI (uI (uI h1 77 44 (hI h1 77 57)) 77 51 (hI h1 77 58)) 77 51 = hI h1 77 58 := hI_uI_eq
    refine go_cong (h' := uI (uI h1 77 44 (hI h1 77 57)) 77 51 (hI h1 77 58)) ?_ rfl (by rw [hI_uI_ne (by omega)])
    generalize uI (uI h1 77 44 (hI h1 77 57)) 77 51 (hI h1 77 58) = g0 at *
    refine go_back (go_loopR (lvf := fun k => [some (.ref 77), some (.int (nI k))]) 105 (fun k g => Fz (fun a k => a = 91 ∧ k < 105) g0 g ∧ ∀ j, j < k → hI g 91 j = hI h1 100 j) (fun k g hk hh ih => ?_) (fun g hh => ?_) 0 g0 (Nat.zero_le _) ⟨Fz.rf, fun _ q => absurd q (by omega)⟩) (by simp [lsub, nI]) rfl
    · obtain ⟨F, e⟩ := hh
      have hS := F.St (F0.St hS)
      refine go_iloadn dX10_restore_32 rfl ?_
      refine go_bipush (v := 105) dX10_restore_33 rfl ?_
      refine go_icmp_ge (tgt := 56) dX10_restore_35 (by decide) (fun c35 => absurd c35 (nI_ge (b := 105) hk (by decide))) (fun c35 => ?_)
      refine go_aloadn dX10_restore_38 rfl ?_
      refine sg_getR dX10_restore_39 fX10_66 rfl (mo_L rfl) hS (mo_r42 hS rfl) ?_
      refine go_iloadn dX10_restore_42 rfl ?_
      refine go_aloadn dX10_restore_43 rfl ?_
      refine sg_getR dX10_restore_44 fX10_93 rfl (mo_L rfl) hS (mo_r59 hS rfl) ?_
      refine go_iloadn dX10_restore_47 rfl ?_
      refine sg_ialdN (i := k) (x := hI h1 100 k) dX10_restore_48 (mo_59 rfl) hS (by simp only [lit_nI, nI_add, pk_mul, Nat.add_assoc, Nat.zero_add, Nat.add_zero]) (by omega) (((F.I (by omega)).trans (F0.I (by unfold SR; omega)))) ?_
      refine sg_iastN (i := k) dX10_restore_49 (mo_42 rfl) hS (by simp only [lit_nI, nI_add, pk_mul, Nat.add_assoc, Nat.zero_add, Nat.add_zero]) (by omega) ?_
      refine go_iinc1 (c1 := 1) dX10_restore_50 rfl rfl ?_
      refine go_goto (tgt := 32) dX10_restore_53 (by decide) ?_
      exact go_cong (ih _ ⟨F.uI ⟨rfl, hk⟩, fun j hj => by rw [hI_uI]; by_cases z : j = k; (· subst z; rw [if_pos ⟨rfl, rfl⟩]); (rw [if_neg (by omega)]; exact e j (by omega))⟩) (by simp [nI_1]) rfl
    · obtain ⟨F, e⟩ := hh
      have hS := F.St (F0.St hS)
      refine go_iloadn dX10_restore_32 rfl ?_
      refine go_bipush (v := 105) dX10_restore_33 rfl ?_
      refine go_icmp_ge (tgt := 56) dX10_restore_35 (by decide) (fun c35 => ?_) (fun c35 => absurd (by decide) c35)
      refine go_aloadn dX10_restore_56 rfl ?_
      refine go_aloadn dX10_restore_57 rfl ?_
      refine sg_getR dX10_restore_58 fX10_96 rfl (mo_L rfl) hS (mo_r60 hS rfl) ?_
      refine go_aloadn dX10_restore_61 rfl ?_
      refine sg_getR dX10_restore_62 fX10_69 rfl (mo_L rfl) hS (mo_r43 hS rfl) ?_
      refine sg_rV0 (M' := mX10_copies) ([.ref 101, .ref 92]) dX10_restore_65 lX10_279 vX10_copies (mo_L rfl) (by decide) rfl hS (q_copies (n := 4200) hS rfl rfl (by decide) (by decide)) rfl (Nat.le_of_ble_eq_true rfl) (Nat.zero_le _) (Nat.zero_le _) (fun g2 F2 => ?_)
      have hS := F2.1.St hS
      refine go_aloadn dX10_restore_68 rfl ?_
      refine go_aloadn dX10_restore_69 rfl ?_
      refine sg_getR dX10_restore_70 fX10_99 rfl (mo_L rfl) hS (mo_r61 hS rfl) ?_
      refine go_aloadn dX10_restore_73 rfl ?_
      refine sg_getR dX10_restore_74 fX10_84 rfl (mo_L rfl) hS (mo_r52 hS rfl) ?_
      refine sg_rV0 (M' := mX10_copies) ([.ref 102, .ref 97]) dX10_restore_77 lX10_279 vX10_copies (mo_L rfl) (by decide) rfl hS (q_copies (n := 24) hS rfl rfl (by decide) (by decide)) rfl (Nat.le_of_ble_eq_true rfl) (Nat.zero_le _) (Nat.zero_le _) (fun g3 F3 => ?_)
      skip
      have hS := F3.1.St hS
      have FF : Fz SR h1 g3 := F0.tr ((F.sub (fun a k q => by unfold SR; omega)).tr ((F2.1.sub (fun a k q => by unfold SR; omega)).tr (F3.1.sub (fun a k q => by unfold SR; omega))))
      have i0 : ∀ x k, x = 77 → hI g3 x k = hI g0 x k := fun x k q => by rw [F3.1.I (by omega), F2.1.I (by omega), F.I (by omega)]
      have hB : MB g3 as ar (sC S) I.1 := ⟨H.1.fz FF (fun a k q => by unfold SR at q; omega), mr_mt.mp (MR.cp W.1 i2 (fun j hj => by rw [Nat.zero_add, F3.1.I (by omega), F2.1.I (by omega)]; exact e j hj)), by rw [FF.I (by unfold SR; omega)]; exact H.2.2⟩
      have hV : MVr g3 (sC S) I.2.1 I.2.2 (some I) (sP S) (sF S) (sR S) := by
        refine ⟨?_, mq_mn.mp ?_, MI'.eq (h := h1) (I := some I) ⟨i1, i2, i3, i4⟩ (fun k a q => FF.I (by unfold SR; omega)), ⟨by rw [FF.I (by unfold SR; omega)]; exact k4, fun i hi => by rw [FF.I (by unfold SR; omega)]; exact k5 i hi⟩, by rw [FF.I (by unfold SR; omega)]; exact k6, fun i hi => by rw [FF.I (by unfold SR; omega)]; exact k7 i hi⟩
        · rw [i0 77 44 rfl, x44]
          exact i3.cp W.1 (fun k hk => by rw [F3.1.I (by omega), F2.2 k hk, F.I (by omega), F0.I (by unfold SR; omega)])
        · rw [i0 77 51 rfl, x51]
          exact i4.cp (fun k hk => by rw [F3.2 k hk, F2.1.I (by omega), F.I (by omega), F0.I (by unfold SR; omega)])
      refine go_iconst (v := 1) dX10_restore_80 rfl ?_
      refine go_ireturn dX10_restore_81 rfl rfl (Nat.zero_le _) (Nat.zero_le _) ?_
      exact qo_ok rfl (by rw [FF.I (by unfold SR; omega)]; exact h0) ⟨as, ar, hB, hV⟩ (hF.sa.tr (FF.sub (fun a k q => by unfold SR at q; unfold SA; omega)))
