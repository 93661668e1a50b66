/-! a line of the class -/
theorem r_ruleLine {l : Launch} {d n c r sh : Nat} {b : Nat → Nat} {h : Hp} {Y : Ry} (hS : St h) (hr : RuleAt r) (hrs : (r = c + 10 ∧ sh = 1) ∨ (r = c + 11 ∧ sh = 0)) (R : RC h b n (yS Y)) (K : KY h c Y) (f0 : (yF Y).1 = 0) (sn : yS Y < n) (n7 : n ≤ 700) (hcl : (yK Y).1 ≤ yS Y) (h1 : (yR Y).1 + (cSh (yC Y)).1 ≤ (yK Y).1) (h2 : (yR Y).2.1 + (cRe (yC Y)).1 ≤ (yK Y).1) : Ey l (d + 9) mX3_ruleLine [.ref 3, .ref r] h (some (.int (if (yF (yRule b n sh Y)).1 = 0 then 1 else 0))) (fun g => CK h g c b n (yRule b n sh Y)) := by
  refine run_lv [some (.ref 3), some (.ref r), none, none, none] (go := ?_)
  have hc := K.1.2
  have hc' := at_c hc
  have hC := K.1.1
  have e13 := K.2.2.1.2.2.2.2
  obtain ⟨t1, t2, t3, t4⟩ := K.2.2.2.2.2.2.2.1
  have told := fun d => r_isTold (l := l) (d := d) hS hr
  have isT : (hI h r 1 ≤ hI h r 0) ↔ ¬ ((sh = 1 ∧ ¬ (cSh (yC Y)).1 = 0) ∨ (¬ sh = 1 ∧ ¬ (cRe (yC Y)).1 = 0)) := by
    rcases hrs with ⟨e1, e2⟩ | ⟨e1, e2⟩
    · rw [e1, t1, t2]
      refine ⟨fun q => ?_, fun q => nI_le (by omega) (by omega)⟩
      intro z
      exact absurd q (Int32.not_le.mpr (nI_lt (by omega) (by omega)))
    · rw [e1, t3, t4]
      refine ⟨fun q => ?_, fun q => nI_le (by omega) (by omega)⟩
      intro z
      exact absurd q (Int32.not_le.mpr (nI_lt (by omega) (by omega)))
  unfold yRule
  by_cases z : (sh = 1 ∧ ¬ (cSh (yC Y)).1 = 0) ∨ (¬ sh = 1 ∧ ¬ (cRe (yC Y)).1 = 0)
  · rw [if_pos z, yFl_f, if_neg (by decide)]
    rw [if_neg (fun q => isT.mp q z)] at told
    refine go_aloadn dX3_ruleLine_0 rfl ?_
    refine sg_cVi (M' := mX4_isTold) ([]) dX3_ruleLine_1 lX3_192 vX4_isTold (ru_L hr) (by decide) rfl hS (told _) rfl (Nat.le_of_ble_eq_true rfl) (Nat.zero_le _) (Nat.zero_le _) ?_
    refine go_if_eq (tgt := 13) dX3_ruleLine_4 (by decide) (fun c4 => absurd c4 (by decide)) (fun c4 => ?_)
    refine go_aloadn dX3_ruleLine_7 rfl ?_
    refine go_iconst (v := 5) dX3_ruleLine_8 rfl ?_
    refine sg_cVi (M' := mX3_fail) ([.int (nI 5)]) dX3_ruleLine_9 lX3_131 vX3_fail (rd_L rfl) (by decide) rfl hS (r_failR hS R (by decide)) rfl (Nat.le_of_ble_eq_true rfl) (Nat.zero_le _) (Nat.zero_le _) ?_
    refine go_ireturn dX3_ruleLine_12 rfl rfl (Nat.zero_le _) (Nat.zero_le _) ?_
    exact ⟨rfl, ck_fl Fz.rf (by decide)⟩
  · rw [if_neg z]
    rw [if_pos (isT.mpr z)] at told
    have br := fun d => r_beginRule (l := l) (d := d) (s := nx b n (yS Y)) hS hc' e13
    have lp := r_ru30 (l := l) (d := d) (n := n) (c := c) (cl := (yK Y).1) (r := r) (sh := sh) (b := b) (h := h) (h0 := h) (Y := Y) (A := fun _ => True) hr hrs hS K Fz.rf f0 rfl h1 h2 (fun _ _ => True.intro) (n + 1) (ru0 (nx b n (yS Y)))
    have ng := nx_gt (b := b) sn
    have nl := nx_le (b := b) (Nat.le_of_lt sn)
    have V : UV (fun _ => True) n (yK Y).1 (ru0 (nx b n (yS Y))) := ⟨⟨nl, n7, by show (yK Y).1 + 0 + 0 ≤ nx b n (yS Y); omega⟩, ⟨Nat.le_refl _, Nat.le_refl _, Nat.zero_le _⟩, ⟨True.intro, rfl, Nat.zero_le _⟩, fun _ _ => Nat.zero_le _, fun j hj => absurd hj (Nat.not_lt_zero _), rfl⟩
    refine go_aloadn dX3_ruleLine_0 rfl ?_
    refine sg_cVi (M' := mX4_isTold) ([]) dX3_ruleLine_1 lX3_192 vX4_isTold (ru_L hr) (by decide) rfl hS (told _) rfl (Nat.le_of_ble_eq_true rfl) (Nat.zero_le _) (Nat.zero_le _) ?_
    refine go_if_eq (tgt := 13) dX3_ruleLine_4 (by decide) (fun c4 => ?_) (fun c4 => absurd rfl c4)
    refine go_aloadn dX3_ruleLine_13 rfl ?_
    refine sg_getR dX3_ruleLine_14 fX3_29 rfl (rd_L rfl) hS hC ?_
    refine sg_getI dX3_ruleLine_17 fX3_197 rfl (ct_L hc) hS ?_
    rw [e13]
    refine go_ist2 dX3_ruleLine_20 rfl ?_
    refine go_aloadn dX3_ruleLine_21 rfl ?_
    refine sg_rV0 (M' := mX3_beginRule) ([]) dX3_ruleLine_22 lX3_200 vX3_beginRule (rd_L rfl) (by decide) rfl hS (br _) rfl (Nat.le_of_ble_eq_true rfl) (Nat.zero_le _) (Nat.zero_le _) (fun g G => ?_)
    refine go_iconst (v := 0) dX3_ruleLine_25 rfl ?_
    refine go_ist3 dX3_ruleLine_26 rfl ?_
    refine go_iconst (v := 0) dX3_ruleLine_27 rfl ?_
    refine go_ist4 dX3_ruleLine_28 rfl ?_
    exact lp g 0 (yS Y) (by omega) rfl V (by show 0 < nx b n (yS Y); omega) (R.sr hc' G.1) rfl G.2 (G.1.sub (fun _ _ q => Or.inr q))
noncomputable def yLine (b : Nat → Nat) (n : Nat) (R : Ry) : Ry :=
  if kwN b n (yS R) = 9 then yPlaces b n R else if kwN b n (yS R) = 10 then yPerson b n 0 R else if kwN b n (yS R) = 11 then yPerson b n 1 R else if kwN b n (yS R) = 12 then yThing b n R else if kwN b n (yS R) = 14 then yTerm b n R else if kwN b n (yS R) = 15 then yRule b n 1 R else if kwN b n (yS R) = 16 then yRule b n 0 R else yFl R (yS R) 1
/-- how large what is read can be -/
def YB (n : Nat) (Y : Ry) : Prop := (yS Y ≤ n ∧ n ≤ 700 ∧ (yK Y).1 ≤ yS Y ∧ (yK Y).2 ≤ 2 * yS Y) ∧ (cN (yC Y) ≤ 10 ∧ cP (yC Y) ≤ 8 ∧ cL (yC Y) ≤ 6) ∧ (∀ t, cN (yC Y) ≤ t → tB (yT Y) t = -1) ∧ (yR Y).1 + (cSh (yC Y)).1 ≤ (yK Y).1 ∧ (yR Y).2.1 + (cRe (yC Y)).1 ≤ (yK Y).1
theorem r_line {l : Launch} {d n c : Nat} {b : Nat → Nat} {h : Hp} {Y : Ry} (hS : St h) (R : RC h b n (yS Y)) (K : KY h c Y) (f0 : (yF Y).1 = 0) (B : YB n Y) : Ey l (d + 10) mX3_line [.ref 3] h (some (.int (if (yF (yLine b n Y)).1 = 0 then 1 else 0))) (fun g => CK h g c b n (yLine b n Y)) := by
  refine run_lv [some (.ref 3)] (go := ?_)
  have hc := K.1.2
  have hC := K.1.1
  obtain ⟨⟨b1, b2, b3, -⟩, ⟨b4, b5, b6⟩, b7, b8, b9⟩ := B
  have iw := fun d i (hi : i < 21) (i0 : 0 < i) => r_isWord (l := l) (d := d) (i := i) hS R hi i0
  have i1 := fun d => iw d 1 (by decide) (by decide)
  have i2 := fun d => iw d 2 (by decide) (by decide)
  have i3 := fun d => iw d 3 (by decide) (by decide)
  have i4 := fun d => iw d 4 (by decide) (by decide)
  have i6 := fun d => iw d 6 (by decide) (by decide)
  have i7 := fun d => iw d 7 (by decide) (by decide)
  have i20 := fun d => iw d 20 (by decide) (by decide)
  rw [show tmT.getD 1 0 = 9 from rfl] at i1
  rw [show tmT.getD 2 0 = 10 from rfl] at i2
  rw [show tmT.getD 3 0 = 11 from rfl] at i3
  rw [show tmT.getD 4 0 = 12 from rfl] at i4
  rw [show tmT.getD 6 0 = 14 from rfl] at i6
  rw [show tmT.getD 7 0 = 15 from rfl] at i7
  rw [show tmT.getD 20 0 = 16 from rfl] at i20
  have sn : kwN b n (yS Y) < 20 → yS Y < n := fun q => by
    have w := (kwN_iff (b := b) (n := n) (s := yS Y) q).mp rfl
    exact tk3 (b := b) (n := n) (s := yS Y) (by rw [w.1]; decide)
  have pl := fun d => r_placesLine (l := l) (d := d) hS R K f0 b5
  have pe0 := fun d => r_personLine (l := l) (d := d) (bl := 0) hS R K f0 b5 (by omega)
  have pe1 := fun d => r_personLine (l := l) (d := d) (bl := 1) hS R K f0 b5 (by omega)
  have th := fun d => r_thingLine (l := l) (d := d) hS R K f0 b5 b4 (b7 _ (Nat.le_refl _))
  have te := fun d => r_termLine (l := l) (d := d) hS R K f0
  have r1 := fun d (q : kwN b n (yS Y) < 20) => r_ruleLine (l := l) (d := d) (r := c + 10) (sh := 1) hS (ct_sh hc) (Or.inl ⟨rfl, rfl⟩) R K f0 (sn q) b2 b3 b8 b9
  have r0 := fun d (q : kwN b n (yS Y) < 20) => r_ruleLine (l := l) (d := d) (r := c + 11) (sh := 0) hS (ct_re hc) (Or.inr ⟨rfl, rfl⟩) R K f0 (sn q) b2 b3 b8 b9
  unfold yLine
  by_cases k1 : kwN b n (yS Y) = 9
  · rw [if_pos k1]
    rw [if_pos k1] at i1
    generalize yPlaces b n Y = Y' at *
    by_cases f : (yF Y').1 = 0
    · rw [if_pos f]
      refine go_aloadn dX3_line_0 rfl ?_
      refine go_ldcS (i := 1) rfl (by decide) rfl dX3_line_1 ?_
      refine sg_cVi (M' := mX3_isWord) ([.ref (1001 + 1)]) dX3_line_3 lX3_92 vX3_isWord (rd_L rfl) (by decide) rfl hS (i1 _) rfl (Nat.le_of_ble_eq_true rfl) (Nat.zero_le _) (Nat.zero_le _) ?_
      refine go_if_eq (tgt := 14) dX3_line_6 (by decide) (fun c6 => absurd c6 (by decide)) (fun c6 => ?_)
      refine go_aloadn dX3_line_9 rfl ?_
      refine sg_rVi (M' := mX3_placesLine) ([]) dX3_line_10 lX3_96 vX3_placesLine (rd_L rfl) (by decide) rfl hS (pl _) rfl (Nat.le_of_ble_eq_true rfl) (Nat.zero_le _) (Nat.zero_le _) (fun g G => ?_)
      rw [if_pos f]
      refine go_ireturn dX3_line_13 rfl rfl (Nat.zero_le _) (Nat.zero_le _) ?_
      exact ⟨rfl, G⟩
    · rw [if_neg f]
      refine go_aloadn dX3_line_0 rfl ?_
      refine go_ldcS (i := 1) rfl (by decide) rfl dX3_line_1 ?_
      refine sg_cVi (M' := mX3_isWord) ([.ref (1001 + 1)]) dX3_line_3 lX3_92 vX3_isWord (rd_L rfl) (by decide) rfl hS (i1 _) rfl (Nat.le_of_ble_eq_true rfl) (Nat.zero_le _) (Nat.zero_le _) ?_
      refine go_if_eq (tgt := 14) dX3_line_6 (by decide) (fun c6 => absurd c6 (by decide)) (fun c6 => ?_)
      refine go_aloadn dX3_line_9 rfl ?_
      refine sg_rVi (M' := mX3_placesLine) ([]) dX3_line_10 lX3_96 vX3_placesLine (rd_L rfl) (by decide) rfl hS (pl _) rfl (Nat.le_of_ble_eq_true rfl) (Nat.zero_le _) (Nat.zero_le _) (fun g G => ?_)
      rw [if_neg f]
      refine go_ireturn dX3_line_13 rfl rfl (Nat.zero_le _) (Nat.zero_le _) ?_
      exact ⟨rfl, G⟩
  · rw [if_neg k1]
    rw [if_neg k1] at i1
    by_cases k2 : kwN b n (yS Y) = 10
    · rw [if_pos k2]
      rw [if_pos k2] at i2
      generalize yPerson b n 0 Y = Y' at *
      by_cases f : (yF Y').1 = 0
      · rw [if_pos f]
        refine go_aloadn dX3_line_0 rfl ?_
        refine go_ldcS (i := 1) rfl (by decide) rfl dX3_line_1 ?_
        refine sg_cVi (M' := mX3_isWord) ([.ref (1001 + 1)]) dX3_line_3 lX3_92 vX3_isWord (rd_L rfl) (by decide) rfl hS (i1 _) rfl (Nat.le_of_ble_eq_true rfl) (Nat.zero_le _) (Nat.zero_le _) ?_
        refine go_if_eq (tgt := 14) dX3_line_6 (by decide) (fun c6 => ?_) (fun c6 => absurd rfl c6)
        refine go_aloadn dX3_line_14 rfl ?_
        refine go_ldcS (i := 2) rfl (by decide) rfl dX3_line_15 ?_
        refine sg_cVi (M' := mX3_isWord) ([.ref (1001 + 2)]) dX3_line_17 lX3_92 vX3_isWord (rd_L rfl) (by decide) rfl hS (i2 _) rfl (Nat.le_of_ble_eq_true rfl) (Nat.zero_le _) (Nat.zero_le _) ?_
        refine go_if_eq (tgt := 29) dX3_line_20 (by decide) (fun c20 => absurd c20 (by decide)) (fun c20 => ?_)
        refine go_aloadn dX3_line_23 rfl ?_
        refine go_iconst (v := 0) dX3_line_24 rfl ?_
        refine sg_rVi (M' := mX3_personLine) ([.int (nI 0)]) dX3_line_25 lX3_102 vX3_personLine (rd_L rfl) (by decide) rfl hS (pe0 _) rfl (Nat.le_of_ble_eq_true rfl) (Nat.zero_le _) (Nat.zero_le _) (fun g G => ?_)
        rw [if_pos f]
        refine go_ireturn dX3_line_28 rfl rfl (Nat.zero_le _) (Nat.zero_le _) ?_
        exact ⟨rfl, G⟩
      · rw [if_neg f]
        refine go_aloadn dX3_line_0 rfl ?_
        refine go_ldcS (i := 1) rfl (by decide) rfl dX3_line_1 ?_
        refine sg_cVi (M' := mX3_isWord) ([.ref (1001 + 1)]) dX3_line_3 lX3_92 vX3_isWord (rd_L rfl) (by decide) rfl hS (i1 _) rfl (Nat.le_of_ble_eq_true rfl) (Nat.zero_le _) (Nat.zero_le _) ?_
        refine go_if_eq (tgt := 14) dX3_line_6 (by decide) (fun c6 => ?_) (fun c6 => absurd rfl c6)
        refine go_aloadn dX3_line_14 rfl ?_
        refine go_ldcS (i := 2) rfl (by decide) rfl dX3_line_15 ?_
        refine sg_cVi (M' := mX3_isWord) ([.ref (1001 + 2)]) dX3_line_17 lX3_92 vX3_isWord (rd_L rfl) (by decide) rfl hS (i2 _) rfl (Nat.le_of_ble_eq_true rfl) (Nat.zero_le _) (Nat.zero_le _) ?_
        refine go_if_eq (tgt := 29) dX3_line_20 (by decide) (fun c20 => absurd c20 (by decide)) (fun c20 => ?_)
        refine go_aloadn dX3_line_23 rfl ?_
        refine go_iconst (v := 0) dX3_line_24 rfl ?_
        refine sg_rVi (M' := mX3_personLine) ([.int (nI 0)]) dX3_line_25 lX3_102 vX3_personLine (rd_L rfl) (by decide) rfl hS (pe0 _) rfl (Nat.le_of_ble_eq_true rfl) (Nat.zero_le _) (Nat.zero_le _) (fun g G => ?_)
        rw [if_neg f]
        refine go_ireturn dX3_line_28 rfl rfl (Nat.zero_le _) (Nat.zero_le _) ?_
        exact ⟨rfl, G⟩
    · rw [if_neg k2]
      rw [if_neg k2] at i2
      by_cases k3 : kwN b n (yS Y) = 11
      · rw [if_pos k3]
        rw [if_pos k3] at i3
        generalize yPerson b n 1 Y = Y' at *
        by_cases f : (yF Y').1 = 0
        · rw [if_pos f]
          refine go_aloadn dX3_line_0 rfl ?_
          refine go_ldcS (i := 1) rfl (by decide) rfl dX3_line_1 ?_
          refine sg_cVi (M' := mX3_isWord) ([.ref (1001 + 1)]) dX3_line_3 lX3_92 vX3_isWord (rd_L rfl) (by decide) rfl hS (i1 _) rfl (Nat.le_of_ble_eq_true rfl) (Nat.zero_le _) (Nat.zero_le _) ?_
          refine go_if_eq (tgt := 14) dX3_line_6 (by decide) (fun c6 => ?_) (fun c6 => absurd rfl c6)
          refine go_aloadn dX3_line_14 rfl ?_
          refine go_ldcS (i := 2) rfl (by decide) rfl dX3_line_15 ?_
          refine sg_cVi (M' := mX3_isWord) ([.ref (1001 + 2)]) dX3_line_17 lX3_92 vX3_isWord (rd_L rfl) (by decide) rfl hS (i2 _) rfl (Nat.le_of_ble_eq_true rfl) (Nat.zero_le _) (Nat.zero_le _) ?_
          refine go_if_eq (tgt := 29) dX3_line_20 (by decide) (fun c20 => ?_) (fun c20 => absurd rfl c20)
          refine go_aloadn dX3_line_29 rfl ?_
          refine go_ldcS (i := 3) rfl (by decide) rfl dX3_line_30 ?_
          refine sg_cVi (M' := mX3_isWord) ([.ref (1001 + 3)]) dX3_line_32 lX3_92 vX3_isWord (rd_L rfl) (by decide) rfl hS (i3 _) rfl (Nat.le_of_ble_eq_true rfl) (Nat.zero_le _) (Nat.zero_le _) ?_
          refine go_if_eq (tgt := 44) dX3_line_35 (by decide) (fun c35 => absurd c35 (by decide)) (fun c35 => ?_)
          refine go_aloadn dX3_line_38 rfl ?_
          refine go_iconst (v := 1) dX3_line_39 rfl ?_
          refine sg_rVi (M' := mX3_personLine) ([.int (nI 1)]) dX3_line_40 lX3_102 vX3_personLine (rd_L rfl) (by decide) rfl hS (pe1 _) rfl (Nat.le_of_ble_eq_true rfl) (Nat.zero_le _) (Nat.zero_le _) (fun g G => ?_)
          rw [if_pos f]
          refine go_ireturn dX3_line_43 rfl rfl (Nat.zero_le _) (Nat.zero_le _) ?_
          exact ⟨rfl, G⟩
        · rw [if_neg f]
          refine go_aloadn dX3_line_0 rfl ?_
          refine go_ldcS (i := 1) rfl (by decide) rfl dX3_line_1 ?_
          refine sg_cVi (M' := mX3_isWord) ([.ref (1001 + 1)]) dX3_line_3 lX3_92 vX3_isWord (rd_L rfl) (by decide) rfl hS (i1 _) rfl (Nat.le_of_ble_eq_true rfl) (Nat.zero_le _) (Nat.zero_le _) ?_
          refine go_if_eq (tgt := 14) dX3_line_6 (by decide) (fun c6 => ?_) (fun c6 => absurd rfl c6)
          refine go_aloadn dX3_line_14 rfl ?_
          refine go_ldcS (i := 2) rfl (by decide) rfl dX3_line_15 ?_
          refine sg_cVi (M' := mX3_isWord) ([.ref (1001 + 2)]) dX3_line_17 lX3_92 vX3_isWord (rd_L rfl) (by decide) rfl hS (i2 _) rfl (Nat.le_of_ble_eq_true rfl) (Nat.zero_le _) (Nat.zero_le _) ?_
          refine go_if_eq (tgt := 29) dX3_line_20 (by decide) (fun c20 => ?_) (fun c20 => absurd rfl c20)
          refine go_aloadn dX3_line_29 rfl ?_
          refine go_ldcS (i := 3) rfl (by decide) rfl dX3_line_30 ?_
          refine sg_cVi (M' := mX3_isWord) ([.ref (1001 + 3)]) dX3_line_32 lX3_92 vX3_isWord (rd_L rfl) (by decide) rfl hS (i3 _) rfl (Nat.le_of_ble_eq_true rfl) (Nat.zero_le _) (Nat.zero_le _) ?_
          refine go_if_eq (tgt := 44) dX3_line_35 (by decide) (fun c35 => absurd c35 (by decide)) (fun c35 => ?_)
          refine go_aloadn dX3_line_38 rfl ?_
          refine go_iconst (v := 1) dX3_line_39 rfl ?_
          refine sg_rVi (M' := mX3_personLine) ([.int (nI 1)]) dX3_line_40 lX3_102 vX3_personLine (rd_L rfl) (by decide) rfl hS (pe1 _) rfl (Nat.le_of_ble_eq_true rfl) (Nat.zero_le _) (Nat.zero_le _) (fun g G => ?_)
          rw [if_neg f]
          refine go_ireturn dX3_line_43 rfl rfl (Nat.zero_le _) (Nat.zero_le _) ?_
          exact ⟨rfl, G⟩
      · rw [if_neg k3]
        rw [if_neg k3] at i3
        generalize hY : (if kwN b n (yS Y) = 12 then yThing b n Y else if kwN b n (yS Y) = 14 then yTerm b n Y else if kwN b n (yS Y) = 15 then yRule b n 1 Y else if kwN b n (yS Y) = 16 then yRule b n 0 Y else yFl Y (yS Y) 1) = Y'
        have go44 : Go l (rmOf (d + 10) (0, 0)) mX3_line (hN h) (Zm (0, 0) (fun v0 h1 => v0 = some (.int (if (yF Y').1 = 0 then 1 else 0)) ∧ CK h h1 c b n Y') noX) 44 [some (.ref 3)] [] h 0 0 := by
          by_cases k4 : kwN b n (yS Y) = 12
          · rw [if_pos k4] at hY i4
            rw [hY] at th
            by_cases f : (yF Y').1 = 0
            · rw [if_pos f]
              refine go_aloadn dX3_line_44 rfl ?_
              refine go_ldcS (i := 4) rfl (by decide) rfl dX3_line_45 ?_
              refine sg_cVi (M' := mX3_isWord) ([.ref (1001 + 4)]) dX3_line_47 lX3_92 vX3_isWord (rd_L rfl) (by decide) rfl hS (i4 _) rfl (Nat.le_of_ble_eq_true rfl) (Nat.zero_le _) (Nat.zero_le _) ?_
              refine go_if_eq (tgt := 58) dX3_line_50 (by decide) (fun c50 => absurd c50 (by decide)) (fun c50 => ?_)
              refine go_aloadn dX3_line_53 rfl ?_
              refine sg_rVi (M' := mX3_thingLine) ([]) dX3_line_54 lX3_110 vX3_thingLine (rd_L rfl) (by decide) rfl hS (th _) rfl (Nat.le_of_ble_eq_true rfl) (Nat.zero_le _) (Nat.zero_le _) (fun g G => ?_)
              rw [if_pos f]
              refine go_ireturn dX3_line_57 rfl rfl (Nat.zero_le _) (Nat.zero_le _) ?_
              exact ⟨rfl, G⟩
            · rw [if_neg f]
              refine go_aloadn dX3_line_44 rfl ?_
              refine go_ldcS (i := 4) rfl (by decide) rfl dX3_line_45 ?_
              refine sg_cVi (M' := mX3_isWord) ([.ref (1001 + 4)]) dX3_line_47 lX3_92 vX3_isWord (rd_L rfl) (by decide) rfl hS (i4 _) rfl (Nat.le_of_ble_eq_true rfl) (Nat.zero_le _) (Nat.zero_le _) ?_
              refine go_if_eq (tgt := 58) dX3_line_50 (by decide) (fun c50 => absurd c50 (by decide)) (fun c50 => ?_)
              refine go_aloadn dX3_line_53 rfl ?_
              refine sg_rVi (M' := mX3_thingLine) ([]) dX3_line_54 lX3_110 vX3_thingLine (rd_L rfl) (by decide) rfl hS (th _) rfl (Nat.le_of_ble_eq_true rfl) (Nat.zero_le _) (Nat.zero_le _) (fun g G => ?_)
              rw [if_neg f]
              refine go_ireturn dX3_line_57 rfl rfl (Nat.zero_le _) (Nat.zero_le _) ?_
              exact ⟨rfl, G⟩
          · rw [if_neg k4] at hY i4
            by_cases k5 : kwN b n (yS Y) = 14
            · rw [if_pos k5] at hY i6
              rw [hY] at te
              by_cases f : (yF Y').1 = 0
              · rw [if_pos f]
                refine go_aloadn dX3_line_44 rfl ?_
                refine go_ldcS (i := 4) rfl (by decide) rfl dX3_line_45 ?_
                refine sg_cVi (M' := mX3_isWord) ([.ref (1001 + 4)]) dX3_line_47 lX3_92 vX3_isWord (rd_L rfl) (by decide) rfl hS (i4 _) rfl (Nat.le_of_ble_eq_true rfl) (Nat.zero_le _) (Nat.zero_le _) ?_
                refine go_if_eq (tgt := 58) dX3_line_50 (by decide) (fun c50 => ?_) (fun c50 => absurd rfl c50)
                refine go_aloadn dX3_line_58 rfl ?_
                refine go_ldcS (i := 6) rfl (by decide) rfl dX3_line_59 ?_
                refine sg_cVi (M' := mX3_isWord) ([.ref (1001 + 6)]) dX3_line_61 lX3_92 vX3_isWord (rd_L rfl) (by decide) rfl hS (i6 _) rfl (Nat.le_of_ble_eq_true rfl) (Nat.zero_le _) (Nat.zero_le _) ?_
                refine go_if_eq (tgt := 72) dX3_line_64 (by decide) (fun c64 => absurd c64 (by decide)) (fun c64 => ?_)
                refine go_aloadn dX3_line_67 rfl ?_
                refine sg_rVi (M' := mX3_termLine) ([]) dX3_line_68 lX3_115 vX3_termLine (rd_L rfl) (by decide) rfl hS (te _) rfl (Nat.le_of_ble_eq_true rfl) (Nat.zero_le _) (Nat.zero_le _) (fun g G => ?_)
                rw [if_pos f]
                refine go_ireturn dX3_line_71 rfl rfl (Nat.zero_le _) (Nat.zero_le _) ?_
                exact ⟨rfl, G⟩
              · rw [if_neg f]
                refine go_aloadn dX3_line_44 rfl ?_
                refine go_ldcS (i := 4) rfl (by decide) rfl dX3_line_45 ?_
                refine sg_cVi (M' := mX3_isWord) ([.ref (1001 + 4)]) dX3_line_47 lX3_92 vX3_isWord (rd_L rfl) (by decide) rfl hS (i4 _) rfl (Nat.le_of_ble_eq_true rfl) (Nat.zero_le _) (Nat.zero_le _) ?_
                refine go_if_eq (tgt := 58) dX3_line_50 (by decide) (fun c50 => ?_) (fun c50 => absurd rfl c50)
                refine go_aloadn dX3_line_58 rfl ?_
                refine go_ldcS (i := 6) rfl (by decide) rfl dX3_line_59 ?_
                refine sg_cVi (M' := mX3_isWord) ([.ref (1001 + 6)]) dX3_line_61 lX3_92 vX3_isWord (rd_L rfl) (by decide) rfl hS (i6 _) rfl (Nat.le_of_ble_eq_true rfl) (Nat.zero_le _) (Nat.zero_le _) ?_
                refine go_if_eq (tgt := 72) dX3_line_64 (by decide) (fun c64 => absurd c64 (by decide)) (fun c64 => ?_)
                refine go_aloadn dX3_line_67 rfl ?_
                refine sg_rVi (M' := mX3_termLine) ([]) dX3_line_68 lX3_115 vX3_termLine (rd_L rfl) (by decide) rfl hS (te _) rfl (Nat.le_of_ble_eq_true rfl) (Nat.zero_le _) (Nat.zero_le _) (fun g G => ?_)
                rw [if_neg f]
                refine go_ireturn dX3_line_71 rfl rfl (Nat.zero_le _) (Nat.zero_le _) ?_
                exact ⟨rfl, G⟩
            · rw [if_neg k5] at hY i6
              by_cases k6 : kwN b n (yS Y) = 15
              · rw [if_pos k6] at hY i7
                have r1 := fun d => r1 d (by omega)
                rw [hY] at r1
                by_cases f : (yF Y').1 = 0
                · rw [if_pos f]
                  refine go_aloadn dX3_line_44 rfl ?_
                  refine go_ldcS (i := 4) rfl (by decide) rfl dX3_line_45 ?_
                  refine sg_cVi (M' := mX3_isWord) ([.ref (1001 + 4)]) dX3_line_47 lX3_92 vX3_isWord (rd_L rfl) (by decide) rfl hS (i4 _) rfl (Nat.le_of_ble_eq_true rfl) (Nat.zero_le _) (Nat.zero_le _) ?_
                  refine go_if_eq (tgt := 58) dX3_line_50 (by decide) (fun c50 => ?_) (fun c50 => absurd rfl c50)
                  refine go_aloadn dX3_line_58 rfl ?_
                  refine go_ldcS (i := 6) rfl (by decide) rfl dX3_line_59 ?_
                  refine sg_cVi (M' := mX3_isWord) ([.ref (1001 + 6)]) dX3_line_61 lX3_92 vX3_isWord (rd_L rfl) (by decide) rfl hS (i6 _) rfl (Nat.le_of_ble_eq_true rfl) (Nat.zero_le _) (Nat.zero_le _) ?_
                  refine go_if_eq (tgt := 72) dX3_line_64 (by decide) (fun c64 => ?_) (fun c64 => absurd rfl c64)
                  refine go_aloadn dX3_line_72 rfl ?_
                  refine go_ldcS (i := 7) rfl (by decide) rfl dX3_line_73 ?_
                  refine sg_cVi (M' := mX3_isWord) ([.ref (1001 + 7)]) dX3_line_75 lX3_92 vX3_isWord (rd_L rfl) (by decide) rfl hS (i7 _) rfl (Nat.le_of_ble_eq_true rfl) (Nat.zero_le _) (Nat.zero_le _) ?_
                  refine go_if_eq (tgt := 93) dX3_line_78 (by decide) (fun c78 => absurd c78 (by decide)) (fun c78 => ?_)
                  refine go_aloadn dX3_line_81 rfl ?_
                  refine go_aloadn dX3_line_82 rfl ?_
                  refine sg_getR dX3_line_83 fX3_29 rfl (rd_L rfl) hS hC ?_
                  refine sg_getR dX3_line_86 fX3_120 rfl (ct_L hc) hS (ct_r14 hS hc) ?_
                  refine sg_rVi (M' := mX3_ruleLine) ([.ref (c + 10)]) dX3_line_89 lX3_123 vX3_ruleLine (rd_L rfl) (by decide) rfl hS (r1 _) rfl (Nat.le_of_ble_eq_true rfl) (Nat.zero_le _) (Nat.zero_le _) (fun g G => ?_)
                  rw [if_pos f]
                  refine go_ireturn dX3_line_92 rfl rfl (Nat.zero_le _) (Nat.zero_le _) ?_
                  exact ⟨rfl, G⟩
                · rw [if_neg f]
                  refine go_aloadn dX3_line_44 rfl ?_
                  refine go_ldcS (i := 4) rfl (by decide) rfl dX3_line_45 ?_
                  refine sg_cVi (M' := mX3_isWord) ([.ref (1001 + 4)]) dX3_line_47 lX3_92 vX3_isWord (rd_L rfl) (by decide) rfl hS (i4 _) rfl (Nat.le_of_ble_eq_true rfl) (Nat.zero_le _) (Nat.zero_le _) ?_
                  refine go_if_eq (tgt := 58) dX3_line_50 (by decide) (fun c50 => ?_) (fun c50 => absurd rfl c50)
                  refine go_aloadn dX3_line_58 rfl ?_
                  refine go_ldcS (i := 6) rfl (by decide) rfl dX3_line_59 ?_
                  refine sg_cVi (M' := mX3_isWord) ([.ref (1001 + 6)]) dX3_line_61 lX3_92 vX3_isWord (rd_L rfl) (by decide) rfl hS (i6 _) rfl (Nat.le_of_ble_eq_true rfl) (Nat.zero_le _) (Nat.zero_le _) ?_
                  refine go_if_eq (tgt := 72) dX3_line_64 (by decide) (fun c64 => ?_) (fun c64 => absurd rfl c64)
                  refine go_aloadn dX3_line_72 rfl ?_
                  refine go_ldcS (i := 7) rfl (by decide) rfl dX3_line_73 ?_
                  refine sg_cVi (M' := mX3_isWord) ([.ref (1001 + 7)]) dX3_line_75 lX3_92 vX3_isWord (rd_L rfl) (by decide) rfl hS (i7 _) rfl (Nat.le_of_ble_eq_true rfl) (Nat.zero_le _) (Nat.zero_le _) ?_
                  refine go_if_eq (tgt := 93) dX3_line_78 (by decide) (fun c78 => absurd c78 (by decide)) (fun c78 => ?_)
                  refine go_aloadn dX3_line_81 rfl ?_
                  refine go_aloadn dX3_line_82 rfl ?_
                  refine sg_getR dX3_line_83 fX3_29 rfl (rd_L rfl) hS hC ?_
                  refine sg_getR dX3_line_86 fX3_120 rfl (ct_L hc) hS (ct_r14 hS hc) ?_
                  refine sg_rVi (M' := mX3_ruleLine) ([.ref (c + 10)]) dX3_line_89 lX3_123 vX3_ruleLine (rd_L rfl) (by decide) rfl hS (r1 _) rfl (Nat.le_of_ble_eq_true rfl) (Nat.zero_le _) (Nat.zero_le _) (fun g G => ?_)
                  rw [if_neg f]
                  refine go_ireturn dX3_line_92 rfl rfl (Nat.zero_le _) (Nat.zero_le _) ?_
                  exact ⟨rfl, G⟩
              · rw [if_neg k6] at hY i7
                by_cases k7 : kwN b n (yS Y) = 16
                · rw [if_pos k7] at hY i20
                  have r0 := fun d => r0 d (by omega)
                  rw [hY] at r0
                  by_cases f : (yF Y').1 = 0
                  · rw [if_pos f]
                    refine go_aloadn dX3_line_44 rfl ?_
                    refine go_ldcS (i := 4) rfl (by decide) rfl dX3_line_45 ?_
                    refine sg_cVi (M' := mX3_isWord) ([.ref (1001 + 4)]) dX3_line_47 lX3_92 vX3_isWord (rd_L rfl) (by decide) rfl hS (i4 _) rfl (Nat.le_of_ble_eq_true rfl) (Nat.zero_le _) (Nat.zero_le _) ?_
                    refine go_if_eq (tgt := 58) dX3_line_50 (by decide) (fun c50 => ?_) (fun c50 => absurd rfl c50)
                    refine go_aloadn dX3_line_58 rfl ?_
                    refine go_ldcS (i := 6) rfl (by decide) rfl dX3_line_59 ?_
                    refine sg_cVi (M' := mX3_isWord) ([.ref (1001 + 6)]) dX3_line_61 lX3_92 vX3_isWord (rd_L rfl) (by decide) rfl hS (i6 _) rfl (Nat.le_of_ble_eq_true rfl) (Nat.zero_le _) (Nat.zero_le _) ?_
                    refine go_if_eq (tgt := 72) dX3_line_64 (by decide) (fun c64 => ?_) (fun c64 => absurd rfl c64)
                    refine go_aloadn dX3_line_72 rfl ?_
                    refine go_ldcS (i := 7) rfl (by decide) rfl dX3_line_73 ?_
                    refine sg_cVi (M' := mX3_isWord) ([.ref (1001 + 7)]) dX3_line_75 lX3_92 vX3_isWord (rd_L rfl) (by decide) rfl hS (i7 _) rfl (Nat.le_of_ble_eq_true rfl) (Nat.zero_le _) (Nat.zero_le _) ?_
                    refine go_if_eq (tgt := 93) dX3_line_78 (by decide) (fun c78 => ?_) (fun c78 => absurd rfl c78)
                    refine go_aloadn dX3_line_93 rfl ?_
                    refine go_ldcS (i := 20) rfl (by decide) rfl dX3_line_94 ?_
                    refine sg_cVi (M' := mX3_isWord) ([.ref (1001 + 20)]) dX3_line_96 lX3_92 vX3_isWord (rd_L rfl) (by decide) rfl hS (i20 _) rfl (Nat.le_of_ble_eq_true rfl) (Nat.zero_le _) (Nat.zero_le _) ?_
                    refine go_if_eq (tgt := 114) dX3_line_99 (by decide) (fun c99 => absurd c99 (by decide)) (fun c99 => ?_)
                    refine go_aloadn dX3_line_102 rfl ?_
                    refine go_aloadn dX3_line_103 rfl ?_
                    refine sg_getR dX3_line_104 fX3_29 rfl (rd_L rfl) hS hC ?_
                    refine sg_getR dX3_line_107 fX3_129 rfl (ct_L hc) hS (ct_r15 hS hc) ?_
                    refine sg_rVi (M' := mX3_ruleLine) ([.ref (c + 11)]) dX3_line_110 lX3_123 vX3_ruleLine (rd_L rfl) (by decide) rfl hS (r0 _) rfl (Nat.le_of_ble_eq_true rfl) (Nat.zero_le _) (Nat.zero_le _) (fun g G => ?_)
                    rw [if_pos f]
                    refine go_ireturn dX3_line_113 rfl rfl (Nat.zero_le _) (Nat.zero_le _) ?_
                    exact ⟨rfl, G⟩
                  · rw [if_neg f]
                    refine go_aloadn dX3_line_44 rfl ?_
                    refine go_ldcS (i := 4) rfl (by decide) rfl dX3_line_45 ?_
                    refine sg_cVi (M' := mX3_isWord) ([.ref (1001 + 4)]) dX3_line_47 lX3_92 vX3_isWord (rd_L rfl) (by decide) rfl hS (i4 _) rfl (Nat.le_of_ble_eq_true rfl) (Nat.zero_le _) (Nat.zero_le _) ?_
                    refine go_if_eq (tgt := 58) dX3_line_50 (by decide) (fun c50 => ?_) (fun c50 => absurd rfl c50)
                    refine go_aloadn dX3_line_58 rfl ?_
                    refine go_ldcS (i := 6) rfl (by decide) rfl dX3_line_59 ?_
                    refine sg_cVi (M' := mX3_isWord) ([.ref (1001 + 6)]) dX3_line_61 lX3_92 vX3_isWord (rd_L rfl) (by decide) rfl hS (i6 _) rfl (Nat.le_of_ble_eq_true rfl) (Nat.zero_le _) (Nat.zero_le _) ?_
                    refine go_if_eq (tgt := 72) dX3_line_64 (by decide) (fun c64 => ?_) (fun c64 => absurd rfl c64)
                    refine go_aloadn dX3_line_72 rfl ?_
                    refine go_ldcS (i := 7) rfl (by decide) rfl dX3_line_73 ?_
                    refine sg_cVi (M' := mX3_isWord) ([.ref (1001 + 7)]) dX3_line_75 lX3_92 vX3_isWord (rd_L rfl) (by decide) rfl hS (i7 _) rfl (Nat.le_of_ble_eq_true rfl) (Nat.zero_le _) (Nat.zero_le _) ?_
                    refine go_if_eq (tgt := 93) dX3_line_78 (by decide) (fun c78 => ?_) (fun c78 => absurd rfl c78)
                    refine go_aloadn dX3_line_93 rfl ?_
                    refine go_ldcS (i := 20) rfl (by decide) rfl dX3_line_94 ?_
                    refine sg_cVi (M' := mX3_isWord) ([.ref (1001 + 20)]) dX3_line_96 lX3_92 vX3_isWord (rd_L rfl) (by decide) rfl hS (i20 _) rfl (Nat.le_of_ble_eq_true rfl) (Nat.zero_le _) (Nat.zero_le _) ?_
                    refine go_if_eq (tgt := 114) dX3_line_99 (by decide) (fun c99 => absurd c99 (by decide)) (fun c99 => ?_)
                    refine go_aloadn dX3_line_102 rfl ?_
                    refine go_aloadn dX3_line_103 rfl ?_
                    refine sg_getR dX3_line_104 fX3_29 rfl (rd_L rfl) hS hC ?_
                    refine sg_getR dX3_line_107 fX3_129 rfl (ct_L hc) hS (ct_r15 hS hc) ?_
                    refine sg_rVi (M' := mX3_ruleLine) ([.ref (c + 11)]) dX3_line_110 lX3_123 vX3_ruleLine (rd_L rfl) (by decide) rfl hS (r0 _) rfl (Nat.le_of_ble_eq_true rfl) (Nat.zero_le _) (Nat.zero_le _) (fun g G => ?_)
                    rw [if_neg f]
                    refine go_ireturn dX3_line_113 rfl rfl (Nat.zero_le _) (Nat.zero_le _) ?_
                    exact ⟨rfl, G⟩
                · rw [if_neg k7] at hY i20
                  rw [← hY, yFl_f, if_neg (by decide)]
                  refine go_aloadn dX3_line_44 rfl ?_
                  refine go_ldcS (i := 4) rfl (by decide) rfl dX3_line_45 ?_
                  refine sg_cVi (M' := mX3_isWord) ([.ref (1001 + 4)]) dX3_line_47 lX3_92 vX3_isWord (rd_L rfl) (by decide) rfl hS (i4 _) rfl (Nat.le_of_ble_eq_true rfl) (Nat.zero_le _) (Nat.zero_le _) ?_
                  refine go_if_eq (tgt := 58) dX3_line_50 (by decide) (fun c50 => ?_) (fun c50 => absurd rfl c50)
                  refine go_aloadn dX3_line_58 rfl ?_
                  refine go_ldcS (i := 6) rfl (by decide) rfl dX3_line_59 ?_
                  refine sg_cVi (M' := mX3_isWord) ([.ref (1001 + 6)]) dX3_line_61 lX3_92 vX3_isWord (rd_L rfl) (by decide) rfl hS (i6 _) rfl (Nat.le_of_ble_eq_true rfl) (Nat.zero_le _) (Nat.zero_le _) ?_
                  refine go_if_eq (tgt := 72) dX3_line_64 (by decide) (fun c64 => ?_) (fun c64 => absurd rfl c64)
                  refine go_aloadn dX3_line_72 rfl ?_
                  refine go_ldcS (i := 7) rfl (by decide) rfl dX3_line_73 ?_
                  refine sg_cVi (M' := mX3_isWord) ([.ref (1001 + 7)]) dX3_line_75 lX3_92 vX3_isWord (rd_L rfl) (by decide) rfl hS (i7 _) rfl (Nat.le_of_ble_eq_true rfl) (Nat.zero_le _) (Nat.zero_le _) ?_
                  refine go_if_eq (tgt := 93) dX3_line_78 (by decide) (fun c78 => ?_) (fun c78 => absurd rfl c78)
                  refine go_aloadn dX3_line_93 rfl ?_
                  refine go_ldcS (i := 20) rfl (by decide) rfl dX3_line_94 ?_
                  refine sg_cVi (M' := mX3_isWord) ([.ref (1001 + 20)]) dX3_line_96 lX3_92 vX3_isWord (rd_L rfl) (by decide) rfl hS (i20 _) rfl (Nat.le_of_ble_eq_true rfl) (Nat.zero_le _) (Nat.zero_le _) ?_
                  refine go_if_eq (tgt := 114) dX3_line_99 (by decide) (fun c99 => ?_) (fun c99 => absurd rfl c99)
                  refine go_aloadn dX3_line_114 rfl ?_
                  refine go_iconst (v := 1) dX3_line_115 rfl ?_
                  refine sg_cVi (M' := mX3_fail) ([.int (nI 1)]) dX3_line_116 lX3_131 vX3_fail (rd_L rfl) (by decide) rfl hS (r_failR hS R (by decide)) rfl (Nat.le_of_ble_eq_true rfl) (Nat.zero_le _) (Nat.zero_le _) ?_
                  refine go_ireturn dX3_line_119 rfl rfl (Nat.zero_le _) (Nat.zero_le _) ?_
                  exact ⟨rfl, ck_fl Fz.rf (by decide)⟩
        refine go_aloadn dX3_line_0 rfl ?_
        refine go_ldcS (i := 1) rfl (by decide) rfl dX3_line_1 ?_
        refine sg_cVi (M' := mX3_isWord) ([.ref (1001 + 1)]) dX3_line_3 lX3_92 vX3_isWord (rd_L rfl) (by decide) rfl hS (i1 _) rfl (Nat.le_of_ble_eq_true rfl) (Nat.zero_le _) (Nat.zero_le _) ?_
        refine go_if_eq (tgt := 14) dX3_line_6 (by decide) (fun c6 => ?_) (fun c6 => absurd rfl c6)
        refine go_aloadn dX3_line_14 rfl ?_
        refine go_ldcS (i := 2) rfl (by decide) rfl dX3_line_15 ?_
        refine sg_cVi (M' := mX3_isWord) ([.ref (1001 + 2)]) dX3_line_17 lX3_92 vX3_isWord (rd_L rfl) (by decide) rfl hS (i2 _) rfl (Nat.le_of_ble_eq_true rfl) (Nat.zero_le _) (Nat.zero_le _) ?_
        refine go_if_eq (tgt := 29) dX3_line_20 (by decide) (fun c20 => ?_) (fun c20 => absurd rfl c20)
        refine go_aloadn dX3_line_29 rfl ?_
        refine go_ldcS (i := 3) rfl (by decide) rfl dX3_line_30 ?_
        refine sg_cVi (M' := mX3_isWord) ([.ref (1001 + 3)]) dX3_line_32 lX3_92 vX3_isWord (rd_L rfl) (by decide) rfl hS (i3 _) rfl (Nat.le_of_ble_eq_true rfl) (Nat.zero_le _) (Nat.zero_le _) ?_
        refine go_if_eq (tgt := 44) dX3_line_35 (by decide) (fun c35 => ?_) (fun c35 => absurd rfl c35)
        exact go44
