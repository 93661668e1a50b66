/-! lines of the class: places, term -/
theorem RC.fz {S : Nat → Nat → Prop} {h g : Hp} {b : Nat → Nat} {n s : Nat} (R : RC h b n s) (F : Fz S h g) (h1 : ∀ k, ¬ S 1 k) (h3 : ∀ k, k ≤ 6 → ¬ S 3 k) : RC g b n s :=
  ⟨R.1.fz F ⟨h3 1 (by omega), h1⟩, by rw [F.I (h3 2 (by omega))]; exact R.2.1, by rw [F.I (h3 3 (by omega))]; exact R.2.2.1, by rw [F.I (h3 4 (by omega))]; exact R.2.2.2.1, R.2.2.2.2.1, fun q => by rw [F.I (h3 5 (by omega)), F.I (h3 6 (by omega))]; exact R.2.2.2.2.2 q⟩
def yPlaces (b : Nat → Nat) (n : Nat) (R : Ry) : Ry :=
  if 0 < cP (yC R) then yFl R (yS R) 4 else if yP R = 1 then yFl R (yS R) 5
  else if nmF b n (nx b n (yS R)) 2 6 = 0 then yEnd b n (R.1, (1, yM R), ((cN (yC R), cP (yC R), nvT b n (nx b n (yS R)), cM (yC R)), (yC R).2), R.2.2.2) (nx b n (nx b n (yS R)))
  else yFl R (nx b n (yS R)) (nmF b n (nx b n (yS R)) 2 6)
def yTerm (b : Nat → Nat) (n : Nat) (R : Ry) : Ry :=
  if yM R = 1 then yFl R (yS R) 5
  else if nmF b n (nx b n (yS R)) 1 99 = 0 then yEnd b n (R.1, (yP R, 1), ((cN (yC R), cP (yC R), cL (yC R), nvT b n (nx b n (yS R))), (yC R).2), R.2.2.2) (nx b n (nx b n (yS R)))
  else yFl R (nx b n (yS R)) (nmF b n (nx b n (yS R)) 1 99)
theorem nm_2 {b : Nat → Nat} {n s lo hi : Nat} (h : nmF b n s lo hi = 0) : tkK b n s = 2 ∧ lo ≤ nvT b n s ∧ nvT b n s ≤ hi := by
  unfold nmF at h
  by_cases z : tkK b n s = 2
  · rw [if_pos z] at h
    by_cases q : 4 < tkE b n s - s ∨ nvT b n s < lo ∨ hi < nvT b n s
    · rw [if_pos q] at h; exact absurd h (by decide)
    · exact ⟨z, by omega, by omega⟩
  · rw [if_neg z] at h; exact absurd h (by decide)
theorem yFl_f {R : Ry} {s y : Nat} : (yF (yFl R s y)).1 = y := rfl
theorem r_placesLine {l : Launch} {d n c : Nat} {b : Nat → Nat} {h : Hp} {Y : Ry} (hS : St h) (R : RC h b n (yS Y)) (K : KY h c Y) (f0 : (yF Y).1 = 0) (hP : cP (yC Y) ≤ 8) : Ey l (d + 8) mX3_placesLine [.ref 3] h (some (.int (if (yF (yPlaces b n Y)).1 = 0 then 1 else 0))) (fun g => CK h g c b n (yPlaces b n Y)) := by
  refine run_lv [some (.ref 3)] (go := ?_)
  have hc := K.1.2
  have hC := K.1.1
  have hc' := at_c hc
  have e1 := K.2.2.1.2.1
  have e8 := K.2.1.1
  have p1 := K.2.1.2.1
  unfold yPlaces
  by_cases z : 0 < cP (yC Y)
  · rw [if_pos z, yFl_f, if_neg (by decide)]
    refine go_aloadn dX3_placesLine_0 rfl ?_
    refine sg_getR dX3_placesLine_1 fX3_29 rfl (rd_L rfl) hS hC ?_
    refine sg_getI dX3_placesLine_4 fX3_144 rfl (ct_L hc) hS ?_
    rw [e1]
    refine go_if_le (tgt := 16) dX3_placesLine_7 (by decide) (fun c7 => absurd c7 (Int32.not_le.mpr (nI_lt (a := 0) z (by omega)))) (fun c7 => ?_)
    refine go_aloadn dX3_placesLine_10 rfl ?_
    refine go_iconst (v := 4) dX3_placesLine_11 rfl ?_
    refine sg_cVi (M' := mX3_fail) ([.int (nI 4)]) dX3_placesLine_12 lX3_131 vX3_fail (rd_L rfl) (by decide) rfl hS (r_failR hS R (by decide)) rfl (Nat.le_of_ble_eq_true rfl) (Nat.zero_le _) (Nat.zero_le _) ?_
    refine go_ireturn dX3_placesLine_15 rfl rfl (Nat.zero_le _) (Nat.zero_le _) ?_
    exact ⟨rfl, ck_fl Fz.rf (by decide)⟩
  · rw [if_neg z]
    have e1 : hI h c 1 = 0 := by rw [e1, show cP (yC Y) = 0 by omega]; rfl
    by_cases z2 : yP Y = 1
    · rw [if_pos z2, yFl_f, if_neg (by decide)]
      refine go_aloadn dX3_placesLine_0 rfl ?_
      refine sg_getR dX3_placesLine_1 fX3_29 rfl (rd_L rfl) hS hC ?_
      refine sg_getI dX3_placesLine_4 fX3_144 rfl (ct_L hc) hS ?_
      rw [e1]
      refine go_if_le (tgt := 16) dX3_placesLine_7 (by decide) (fun c7 => ?_) (fun c7 => absurd (Int32.le_refl _) c7)
      refine go_aloadn dX3_placesLine_16 rfl ?_
      refine sg_getI dX3_placesLine_17 fX3_41 rfl (rd_L rfl) hS ?_
      rw [e8, z2]
      refine go_if_eq (tgt := 29) dX3_placesLine_20 (by decide) (fun c20 => absurd c20 (by decide)) (fun c20 => ?_)
      refine go_aloadn dX3_placesLine_23 rfl ?_
      refine go_iconst (v := 5) dX3_placesLine_24 rfl ?_
      refine sg_cVi (M' := mX3_fail) ([.int (nI 5)]) dX3_placesLine_25 lX3_131 vX3_fail (rd_L rfl) (by decide) rfl hS (r_failR hS R (by decide)) rfl (Nat.le_of_ble_eq_true rfl) (Nat.zero_le _) (Nat.zero_le _) ?_
      refine go_ireturn dX3_placesLine_28 rfl rfl (Nat.zero_le _) (Nat.zero_le _) ?_
      exact ⟨rfl, ck_fl Fz.rf (by decide)⟩
    · rw [if_neg z2]
      have z3 : yP Y = 0 := by omega
      have wi := fun d => r_nextIsWithin (l := l) (d := d) (lo := 2) (hi := 6) hS R (by decide) (by decide)
      by_cases y : nmF b n (nx b n (yS Y)) 2 6 = 0
      · rw [if_pos y]
        rw [y, if_pos rfl] at wi
        obtain ⟨k2, -, -⟩ := nm_2 y
        have fin : ∀ g, PF SFy h g b n (nx b n (yS Y)) 0 → Go l (rmOf (d + 8) (0, 0)) mX3_placesLine (hN h) (Zm (0, 0) (fun v h1 => v = some (.int (if (yF (yEnd b n (Y.1, (1, yM Y), ((cN (yC Y), cP (yC Y), nvT b n (nx b n (yS Y)), cM (yC Y)), (yC Y).2), Y.2.2.2) (nx b n (nx b n (yS Y))))).1 = 0 then 1 else 0)) ∧ CK h h1 c b n (yEnd b n (Y.1, (1, yM Y), ((cN (yC Y), cP (yC Y), nvT b n (nx b n (yS Y)), cM (yC Y)), (yC Y).2), Y.2.2.2) (nx b n (nx b n (yS Y))))) noX) 41 [some (.ref 3)] [] g 0 0 := by
          intro g P
          obtain ⟨F4, R1⟩ := P.2.1 rfl
          have hS := F4.St hS
          have hC : hR g 3 7 = some c := by rw [F4.1]; exact hC
          have K1 := K.fz F4 (R' := Y) rfl
          have e5 := (R1.2.2.2.2.2 k2).1
          generalize nx b n (yS Y) = t at *
          have F5 : Fz (fun a k => (a = c ∧ k = 0) ∨ (a = 3 ∧ k = 8)) g (uI (uI g c 0 (nI (nvT b n t))) 3 8 1) := (Fz.rf.uI (Or.inl ⟨rfl, rfl⟩)).uI (Or.inr ⟨rfl, rfl⟩)
          have v0 : hI (uI (uI g c 0 (nI (nvT b n t))) 3 8 1) c 0 = nI (nvT b n t) := by rw [hI_uI_ne (by omega), hI_uI_eq]
          have v8 : hI (uI (uI g c 0 (nI (nvT b n t))) 3 8 1) 3 8 = 1 := hI_uI_eq
          refine go_aloadn dX3_placesLine_41 rfl ?_
          refine sg_getR dX3_placesLine_42 fX3_29 rfl (rd_L rfl) hS hC ?_
          refine go_aloadn dX3_placesLine_45 rfl ?_
          refine sg_getI dX3_placesLine_46 fX3_77 rfl (rd_L rfl) hS ?_
          rw [e5]
          refine sg_putI dX3_placesLine_49 fX3_151 rfl rfl (ct_L hc) hS ?_
          refine go_aloadn dX3_placesLine_52 rfl ?_
          refine go_iconst (v := 1) dX3_placesLine_53 rfl ?_
          refine sg_putZ dX3_placesLine_54 fX3_41 rfl rfl (rd_L rfl) hS (Or.inr rfl) ?_
          skip
          generalize uI (uI g c 0 (nI (nvT b n t))) 3 8 1 = g2 at *
          have hS := F5.St hS
          have R2 := R1.fz F5 (fun k => by omega) (fun k hk => by omega)
          have K2 : KY g2 c (Y.1, (1, yM Y), ((cN (yC Y), cP (yC Y), nvT b n t, cM (yC Y)), (yC Y).2), Y.2.2.2) := by
            obtain ⟨⟨k1, k2⟩, ⟨k3, k4, k5, k6, k7, k8⟩, ⟨k9, k9a, k9b, k9c, k9d⟩, k10, k11, k12, k13, ⟨k14, k14a, k14b, k14c⟩, k15, k16⟩ := K1
            refine ⟨⟨by rw [F5.1]; exact k1, k2⟩, ⟨v8, Nat.le_refl _, by rw [F5.I (by omega)]; exact k5, k6, by rw [F5.I (by omega)]; exact k7, by rw [F5.I (by omega)]; exact k8⟩, ⟨v0, by rw [F5.I (by omega)]; exact k9a, by rw [F5.I (by omega)]; exact k9b, by rw [F5.I (by omega)]; exact k9c, by rw [F5.I (by omega)]; exact k9d⟩, ?_, ?_, ?_, ?_, ⟨by rw [F5.I (by omega)]; exact k14, by rw [F5.I (by omega)]; exact k14a, by rw [F5.I (by omega)]; exact k14b, by rw [F5.I (by omega)]; exact k14c⟩, ?_, ?_⟩
            · intro p hp; rw [F5.I (by omega), F5.I (by omega), F5.I (by omega)]; exact k10 p hp
            · intro p hp; rw [F5.I (by omega)]; exact k11 p hp
            · intro p hp; rw [F5.I (by omega), F5.I (by omega), F5.I (by omega)]; exact k12 p hp
            · intro p hp; rw [F5.I (by omega)]; exact k13 p hp
            · intro p hp; rw [F5.I (by omega)]; exact k15 p hp
            · intro p hp; rw [F5.I (by omega)]; exact k16 p hp
          have nxt := fun d => r_nextR (l := l) (d := d) hS R2
          have F6 : Fz (Scy c) h g2 := (P.1.sub (fun _ _ q => q.sc)).tr (F5.sub (fun a k q => by unfold Scy; omega))
          have le := fun g3 (F : Fz SN4 g2 g3 ∧ RC g3 b n (nx b n t)) d => r_lineEnd (l := l) (d := d) (F.1.St hS) (F6.tr (F.1.sub (fun _ _ q => q.sf.sc))) F.2 (K2.fz F.1 rfl) f0
          generalize yEnd b n (Y.1, (1, yM Y), ((cN (yC Y), cP (yC Y), nvT b n t, cM (yC Y)), (yC Y).2), Y.2.2.2) (nx b n t) = Y' at *
          by_cases x : (yF Y').1 = 0
          · rw [if_pos x]
            refine go_aloadn dX3_placesLine_57 rfl ?_
            refine sg_rV0 (M' := mX3_next) ([]) dX3_placesLine_58 lX3_54 vX3_next (rd_L rfl) (by decide) rfl hS (nxt _) rfl (Nat.le_of_ble_eq_true rfl) (Nat.zero_le _) (Nat.zero_le _) (fun g3 F => ?_)
            have hS := F.1.St hS
            refine go_aloadn dX3_placesLine_61 rfl ?_
            refine sg_rVi (M' := mX3_lineEnd) ([]) dX3_placesLine_62 lX3_153 vX3_lineEnd (rd_L rfl) (by decide) rfl hS ((le g3 F _)) rfl (Nat.le_of_ble_eq_true rfl) (Nat.zero_le _) (Nat.zero_le _) (fun g4 G => ?_)
            rw [if_pos x]
            refine go_ireturn dX3_placesLine_65 rfl rfl (Nat.zero_le _) (Nat.zero_le _) ?_
            exact ⟨rfl, G⟩
          · rw [if_neg x]
            refine go_aloadn dX3_placesLine_57 rfl ?_
            refine sg_rV0 (M' := mX3_next) ([]) dX3_placesLine_58 lX3_54 vX3_next (rd_L rfl) (by decide) rfl hS (nxt _) rfl (Nat.le_of_ble_eq_true rfl) (Nat.zero_le _) (Nat.zero_le _) (fun g3 F => ?_)
            have hS := F.1.St hS
            refine go_aloadn dX3_placesLine_61 rfl ?_
            refine sg_rVi (M' := mX3_lineEnd) ([]) dX3_placesLine_62 lX3_153 vX3_lineEnd (rd_L rfl) (by decide) rfl hS ((le g3 F _)) rfl (Nat.le_of_ble_eq_true rfl) (Nat.zero_le _) (Nat.zero_le _) (fun g4 G => ?_)
            rw [if_neg x]
            refine go_ireturn dX3_placesLine_65 rfl rfl (Nat.zero_le _) (Nat.zero_le _) ?_
            exact ⟨rfl, G⟩
        refine go_aloadn dX3_placesLine_0 rfl ?_
        refine sg_getR dX3_placesLine_1 fX3_29 rfl (rd_L rfl) hS hC ?_
        refine sg_getI dX3_placesLine_4 fX3_144 rfl (ct_L hc) hS ?_
        rw [e1]
        refine go_if_le (tgt := 16) dX3_placesLine_7 (by decide) (fun c7 => ?_) (fun c7 => absurd (Int32.le_refl _) c7)
        refine go_aloadn dX3_placesLine_16 rfl ?_
        refine sg_getI dX3_placesLine_17 fX3_41 rfl (rd_L rfl) hS ?_
        rw [e8, z3]
        refine go_if_eq (tgt := 29) dX3_placesLine_20 (by decide) (fun c20 => ?_) (fun c20 => absurd rfl c20)
        refine go_aloadn dX3_placesLine_29 rfl ?_
        refine go_iconst (v := 2) dX3_placesLine_30 rfl ?_
        refine go_bipush (v := 6) dX3_placesLine_31 rfl ?_
        refine sg_rVi (M' := mX3_nextIsWithin) ([.int (nI 2), .int (nI 6)]) dX3_placesLine_33 lX3_147 vX3_nextIsWithin (rd_L rfl) (by decide) rfl hS (wi _) rfl (Nat.le_of_ble_eq_true rfl) (Nat.zero_le _) (Nat.zero_le _) (fun g P => ?_)
        refine go_if_ne (tgt := 41) dX3_placesLine_36 (by decide) (fun c36 => ?_) (fun c36 => absurd c36 (by decide))
        exact fin g P
      · rw [if_neg y, yFl_f, if_neg y]
        refine go_aloadn dX3_placesLine_0 rfl ?_
        refine sg_getR dX3_placesLine_1 fX3_29 rfl (rd_L rfl) hS hC ?_
        refine sg_getI dX3_placesLine_4 fX3_144 rfl (ct_L hc) hS ?_
        rw [e1]
        refine go_if_le (tgt := 16) dX3_placesLine_7 (by decide) (fun c7 => ?_) (fun c7 => absurd (Int32.le_refl _) c7)
        refine go_aloadn dX3_placesLine_16 rfl ?_
        refine sg_getI dX3_placesLine_17 fX3_41 rfl (rd_L rfl) hS ?_
        rw [e8, z3]
        refine go_if_eq (tgt := 29) dX3_placesLine_20 (by decide) (fun c20 => ?_) (fun c20 => absurd rfl c20)
        refine go_aloadn dX3_placesLine_29 rfl ?_
        refine go_iconst (v := 2) dX3_placesLine_30 rfl ?_
        refine go_bipush (v := 6) dX3_placesLine_31 rfl ?_
        refine sg_rVi (M' := mX3_nextIsWithin) ([.int (nI 2), .int (nI 6)]) dX3_placesLine_33 lX3_147 vX3_nextIsWithin (rd_L rfl) (by decide) rfl hS (wi _) rfl (Nat.le_of_ble_eq_true rfl) (Nat.zero_le _) (Nat.zero_le _) (fun g P => ?_)
        rw [if_neg y]
        refine go_if_ne (tgt := 41) dX3_placesLine_36 (by decide) (fun c36 => absurd rfl c36) (fun c36 => ?_)
        refine go_iconst (v := 0) dX3_placesLine_39 rfl ?_
        refine go_ireturn dX3_placesLine_40 rfl rfl (Nat.zero_le _) (Nat.zero_le _) ?_
        exact ⟨rfl, ck_pf Fz.rf P y⟩
theorem r_termLine {l : Launch} {d n c : Nat} {b : Nat → Nat} {h : Hp} {Y : Ry} (hS : St h) (R : RC h b n (yS Y)) (K : KY h c Y) (f0 : (yF Y).1 = 0) : Ey l (d + 8) mX3_termLine [.ref 3] h (some (.int (if (yF (yTerm b n Y)).1 = 0 then 1 else 0))) (fun g => CK h g c b n (yTerm b n Y)) := by
  refine run_lv [some (.ref 3)] (go := ?_)
  have hc := K.1.2
  have hC := K.1.1
  have hc' := at_c hc
  have e9 := K.2.1.2.2.1
  have p1 := K.2.1.2.2.2.1
  unfold yTerm
  by_cases z2 : yM Y = 1
  · rw [if_pos z2, yFl_f, if_neg (by decide)]
    refine go_aloadn dX3_termLine_0 rfl ?_
    refine sg_getI dX3_termLine_1 fX3_45 rfl (rd_L rfl) hS ?_
    rw [e9, z2]
    refine go_if_eq (tgt := 13) dX3_termLine_4 (by decide) (fun c4 => absurd c4 (by decide)) (fun c4 => ?_)
    refine go_aloadn dX3_termLine_7 rfl ?_
    refine go_iconst (v := 5) dX3_termLine_8 rfl ?_
    refine sg_cVi (M' := mX3_fail) ([.int (nI 5)]) dX3_termLine_9 lX3_131 vX3_fail (rd_L rfl) (by decide) rfl hS (r_failR hS R (by decide)) rfl (Nat.le_of_ble_eq_true rfl) (Nat.zero_le _) (Nat.zero_le _) ?_
    refine go_ireturn dX3_termLine_12 rfl rfl (Nat.zero_le _) (Nat.zero_le _) ?_
    exact ⟨rfl, ck_fl Fz.rf (by decide)⟩
  · rw [if_neg z2]
    have z3 : yM Y = 0 := by omega
    have wi := fun d => r_nextIsWithin (l := l) (d := d) (lo := 1) (hi := 99) hS R (by decide) (by decide)
    by_cases y : nmF b n (nx b n (yS Y)) 1 99 = 0
    · rw [if_pos y]
      rw [y, if_pos rfl] at wi
      obtain ⟨k2, -, -⟩ := nm_2 y
      have fin : ∀ g, PF SFy h g b n (nx b n (yS Y)) 0 → Go l (rmOf (d + 8) (0, 0)) mX3_termLine (hN h) (Zm (0, 0) (fun v h1 => v = some (.int (if (yF (yEnd b n (Y.1, (yP Y, 1), ((cN (yC Y), cP (yC Y), cL (yC Y), nvT b n (nx b n (yS Y))), (yC Y).2), Y.2.2.2) (nx b n (nx b n (yS Y))))).1 = 0 then 1 else 0)) ∧ CK h h1 c b n (yEnd b n (Y.1, (yP Y, 1), ((cN (yC Y), cP (yC Y), cL (yC Y), nvT b n (nx b n (yS Y))), (yC Y).2), Y.2.2.2) (nx b n (nx b n (yS Y))))) noX) 25 [some (.ref 3)] [] g 0 0 := by
        intro g P
        obtain ⟨F4, R1⟩ := P.2.1 rfl
        have hS := F4.St hS
        have hC : hR g 3 7 = some c := by rw [F4.1]; exact hC
        have K1 := K.fz F4 (R' := Y) rfl
        have e5 := (R1.2.2.2.2.2 k2).1
        generalize nx b n (yS Y) = t at *
        have F5 : Fz (fun a k => (a = c ∧ k = 3) ∨ (a = 3 ∧ k = 9)) g (uI (uI g c 3 (nI (nvT b n t))) 3 9 1) := (Fz.rf.uI (Or.inl ⟨rfl, rfl⟩)).uI (Or.inr ⟨rfl, rfl⟩)
        have v0 : hI (uI (uI g c 3 (nI (nvT b n t))) 3 9 1) c 3 = nI (nvT b n t) := by rw [hI_uI_ne (by omega), hI_uI_eq]
        have v8 : hI (uI (uI g c 3 (nI (nvT b n t))) 3 9 1) 3 9 = 1 := hI_uI_eq
        refine go_aloadn dX3_termLine_25 rfl ?_
        refine sg_getR dX3_termLine_26 fX3_29 rfl (rd_L rfl) hS hC ?_
        refine go_aloadn dX3_termLine_29 rfl ?_
        refine sg_getI dX3_termLine_30 fX3_77 rfl (rd_L rfl) hS ?_
        rw [e5]
        refine sg_putI dX3_termLine_33 fX3_156 rfl rfl (ct_L hc) hS ?_
        refine go_aloadn dX3_termLine_36 rfl ?_
        refine go_iconst (v := 1) dX3_termLine_37 rfl ?_
        refine sg_putZ dX3_termLine_38 fX3_45 rfl rfl (rd_L rfl) hS (Or.inr rfl) ?_
        skip
        generalize uI (uI g c 3 (nI (nvT b n t))) 3 9 1 = g2 at *
        have hS := F5.St hS
        have R2 := R1.fz F5 (fun k => by omega) (fun k hk => by omega)
        have K2 : KY g2 c (Y.1, (yP Y, 1), ((cN (yC Y), cP (yC Y), cL (yC Y), nvT b n t), (yC Y).2), Y.2.2.2) := by
          obtain ⟨⟨k1, k2⟩, ⟨k3, k4, k5, k6, k7, k8⟩, ⟨k9, k9a, k9b, k9c, k9d⟩, k10, k11, k12, k13, ⟨k14, k14a, k14b, k14c⟩, k15, k16⟩ := K1
          refine ⟨⟨by rw [F5.1]; exact k1, k2⟩, ⟨by rw [F5.I (by omega)]; exact k3, k4, v8, Nat.le_refl _, by rw [F5.I (by omega)]; exact k7, by rw [F5.I (by omega)]; exact k8⟩, ⟨by rw [F5.I (by omega)]; exact k9, by rw [F5.I (by omega)]; exact k9a, by rw [F5.I (by omega)]; exact k9b, v0, by rw [F5.I (by omega)]; exact k9d⟩, ?_, ?_, ?_, ?_, ⟨by rw [F5.I (by omega)]; exact k14, by rw [F5.I (by omega)]; exact k14a, by rw [F5.I (by omega)]; exact k14b, by rw [F5.I (by omega)]; exact k14c⟩, ?_, ?_⟩
          · intro p hp; rw [F5.I (by omega), F5.I (by omega), F5.I (by omega)]; exact k10 p hp
          · intro p hp; rw [F5.I (by omega)]; exact k11 p hp
          · intro p hp; rw [F5.I (by omega), F5.I (by omega), F5.I (by omega)]; exact k12 p hp
          · intro p hp; rw [F5.I (by omega)]; exact k13 p hp
          · intro p hp; rw [F5.I (by omega)]; exact k15 p hp
          · intro p hp; rw [F5.I (by omega)]; exact k16 p hp
        have nxt := fun d => r_nextR (l := l) (d := d) hS R2
        have F6 : Fz (Scy c) h g2 := (P.1.sub (fun _ _ q => q.sc)).tr (F5.sub (fun a k q => by unfold Scy; omega))
        have le := fun g3 (F : Fz SN4 g2 g3 ∧ RC g3 b n (nx b n t)) d => r_lineEnd (l := l) (d := d) (F.1.St hS) (F6.tr (F.1.sub (fun _ _ q => q.sf.sc))) F.2 (K2.fz F.1 rfl) f0
        generalize yEnd b n (Y.1, (yP Y, 1), ((cN (yC Y), cP (yC Y), cL (yC Y), nvT b n t), (yC Y).2), Y.2.2.2) (nx b n t) = Y' at *
        by_cases x : (yF Y').1 = 0
        · rw [if_pos x]
          refine go_aloadn dX3_termLine_41 rfl ?_
          refine sg_rV0 (M' := mX3_next) ([]) dX3_termLine_42 lX3_54 vX3_next (rd_L rfl) (by decide) rfl hS (nxt _) rfl (Nat.le_of_ble_eq_true rfl) (Nat.zero_le _) (Nat.zero_le _) (fun g3 F => ?_)
          have hS := F.1.St hS
          refine go_aloadn dX3_termLine_45 rfl ?_
          refine sg_rVi (M' := mX3_lineEnd) ([]) dX3_termLine_46 lX3_153 vX3_lineEnd (rd_L rfl) (by decide) rfl hS ((le g3 F _)) rfl (Nat.le_of_ble_eq_true rfl) (Nat.zero_le _) (Nat.zero_le _) (fun g4 G => ?_)
          rw [if_pos x]
          refine go_ireturn dX3_termLine_49 rfl rfl (Nat.zero_le _) (Nat.zero_le _) ?_
          exact ⟨rfl, G⟩
        · rw [if_neg x]
          refine go_aloadn dX3_termLine_41 rfl ?_
          refine sg_rV0 (M' := mX3_next) ([]) dX3_termLine_42 lX3_54 vX3_next (rd_L rfl) (by decide) rfl hS (nxt _) rfl (Nat.le_of_ble_eq_true rfl) (Nat.zero_le _) (Nat.zero_le _) (fun g3 F => ?_)
          have hS := F.1.St hS
          refine go_aloadn dX3_termLine_45 rfl ?_
          refine sg_rVi (M' := mX3_lineEnd) ([]) dX3_termLine_46 lX3_153 vX3_lineEnd (rd_L rfl) (by decide) rfl hS ((le g3 F _)) rfl (Nat.le_of_ble_eq_true rfl) (Nat.zero_le _) (Nat.zero_le _) (fun g4 G => ?_)
          rw [if_neg x]
          refine go_ireturn dX3_termLine_49 rfl rfl (Nat.zero_le _) (Nat.zero_le _) ?_
          exact ⟨rfl, G⟩
      refine go_aloadn dX3_termLine_0 rfl ?_
      refine sg_getI dX3_termLine_1 fX3_45 rfl (rd_L rfl) hS ?_
      rw [e9, z3]
      refine go_if_eq (tgt := 13) dX3_termLine_4 (by decide) (fun c4 => ?_) (fun c4 => absurd rfl c4)
      refine go_aloadn dX3_termLine_13 rfl ?_
      refine go_iconst (v := 1) dX3_termLine_14 rfl ?_
      refine go_bipush (v := 99) dX3_termLine_15 rfl ?_
      refine sg_rVi (M' := mX3_nextIsWithin) ([.int (nI 1), .int (nI 99)]) dX3_termLine_17 lX3_147 vX3_nextIsWithin (rd_L rfl) (by decide) rfl hS (wi _) rfl (Nat.le_of_ble_eq_true rfl) (Nat.zero_le _) (Nat.zero_le _) (fun g P => ?_)
      refine go_if_ne (tgt := 25) dX3_termLine_20 (by decide) (fun c20 => ?_) (fun c20 => absurd c20 (by decide))
      exact fin g P
    · rw [if_neg y, yFl_f, if_neg y]
      refine go_aloadn dX3_termLine_0 rfl ?_
      refine sg_getI dX3_termLine_1 fX3_45 rfl (rd_L rfl) hS ?_
      rw [e9, z3]
      refine go_if_eq (tgt := 13) dX3_termLine_4 (by decide) (fun c4 => ?_) (fun c4 => absurd rfl c4)
      refine go_aloadn dX3_termLine_13 rfl ?_
      refine go_iconst (v := 1) dX3_termLine_14 rfl ?_
      refine go_bipush (v := 99) dX3_termLine_15 rfl ?_
      refine sg_rVi (M' := mX3_nextIsWithin) ([.int (nI 1), .int (nI 99)]) dX3_termLine_17 lX3_147 vX3_nextIsWithin (rd_L rfl) (by decide) rfl hS (wi _) rfl (Nat.le_of_ble_eq_true rfl) (Nat.zero_le _) (Nat.zero_le _) (fun g P => ?_)
      rw [if_neg y]
      refine go_if_ne (tgt := 25) dX3_termLine_20 (by decide) (fun c20 => absurd rfl c20) (fun c20 => ?_)
      refine go_iconst (v := 0) dX3_termLine_23 rfl ?_
      refine go_ireturn dX3_termLine_24 rfl rfl (Nat.zero_le _) (Nat.zero_le _) ?_
      exact ⟨rfl, ck_pf Fz.rf P y⟩
