/-! rules of the model: a part -/
def Sxm (tp a k : Nat) : Prop := SGr a k ∨ (a = 77 ∧ (k = 30 ∨ k = 33 ∨ k = 34)) ∨ (a = 87 ∧ tp ≤ k) ∨ a = 88 ∨ a = 90
theorem Fz.jj {S : Nat → Nat → Prop} {h g : Hp} (F : Fz S h g) : Fj S h g := F.j
theorem RM.fz {S : Nat → Nat → Prop} {h g : Hp} {b : Nat → Nat} {n s : Nat} {f : Nat × Nat} (R : RM h b n s f) (F : Fz S h g) (h1 : ∀ k, k ≤ 23 → ¬ S 77 k) (h2 : ∀ k, ¬ S 82 k) : RM g b n s f := by
  obtain ⟨r1, ⟨k1, k2, k3, k4, k5, k6, k7⟩, r3, r4, r5, r6⟩ := R
  exact ⟨r1.fj F.j ⟨h1 16 (by omega), h2⟩, ⟨by rw [F.I (h1 _ (by omega))]; exact k1, by rw [F.I (h1 _ (by omega))]; exact k2, by rw [F.I (h1 _ (by omega))]; exact k3, by rw [F.I (h1 _ (by omega))]; exact k4, by rw [F.I (h1 _ (by omega))]; exact k5, by rw [F.I (h1 _ (by omega))]; exact k6, by rw [F.2.2.1]; exact k7⟩, r3, by rw [F.I (h1 _ (by omega))]; exact r4, r5, by rw [F.I (h1 _ (by omega))]; exact r6⟩
def pt2 (h : Hp) (t : Nat) (x y : Int32) : Hp := uI (uI (uI (uI h 87 t x) 77 30 (nI (t + 1))) 87 (t + 1) y) 77 30 (nI (t + 2))
theorem pt2_ok {h : Hp} {tp : Nat} {W : List Nat} {p : Pr} {o : Op} {x y : Int32} (H : SKm h tp W p) (ho : o.1 ≤ 1) (hx : mcA o = x) (hy : mcB o = y) : Fz (fun a k => (a = 77 ∧ k = 30) ∨ (a = 87 ∧ tp ≤ k)) h (pt2 h (tp + mpF p p.1) x y) ∧ SKm (pt2 h (tp + mpF p p.1) x y) tp W (psh p o) := by
  unfold pt2
  have m2 : mlN o = 2 := by unfold mlN; rw [if_pos ho]
  have F1 : Fz (fun a k => (a = 77 ∧ k = 30) ∨ (a = 87 ∧ (k = tp + mpF p p.1 ∨ k = tp + mpF p p.1 + 1))) h (uI (uI (uI (uI h 87 (tp + mpF p p.1) x) 77 30 (nI (tp + mpF p p.1 + 1))) 87 (tp + mpF p p.1 + 1) y) 77 30 (nI (tp + mpF p p.1 + 2))) := (((Fz.rf.uI (by omega)).uI (by omega)).uI (by omega)).uI (by omega)
  have w1 : hI (uI (uI (uI (uI h 87 (tp + mpF p p.1) x) 77 30 (nI (tp + mpF p p.1 + 1))) 87 (tp + mpF p p.1 + 1) y) 77 30 (nI (tp + mpF p p.1 + 2))) 77 30 = nI (tp + mpF p p.1 + 2) := hI_uI_eq
  have w2 : hI (uI (uI (uI (uI h 87 (tp + mpF p p.1) x) 77 30 (nI (tp + mpF p p.1 + 1))) 87 (tp + mpF p p.1 + 1) y) 77 30 (nI (tp + mpF p p.1 + 2))) 87 (tp + mpF p p.1) = x := by rw [hI_uI_ne (by omega), hI_uI_ne (by omega), hI_uI_ne (by omega), hI_uI_eq]
  have w3 : hI (uI (uI (uI (uI h 87 (tp + mpF p p.1) x) 77 30 (nI (tp + mpF p p.1 + 1))) 87 (tp + mpF p p.1 + 1) y) 77 30 (nI (tp + mpF p p.1 + 2))) 87 (tp + mpF p p.1 + 1) = y := by rw [hI_uI_ne (by omega), hI_uI_eq]
  generalize uI (uI (uI (uI h 87 (tp + mpF p p.1) x) 77 30 (nI (tp + mpF p p.1 + 1))) 87 (tp + mpF p p.1 + 1) y) 77 30 (nI (tp + mpF p p.1 + 2)) = g at *
  refine ⟨F1.sub (fun a k q => by omega), H.psh (fun k q => F1.I (by omega)) (by rw [F1.I (by omega)]; exact H.1) (fun i hi => by rw [F1.I (by omega)]; exact H.2.1 i hi) (by rw [w1, m2]) (by rw [w2, hx]) (fun _ => by rw [w3, hy])⟩
theorem mv_mv {k : Nat} : mvN (mvN k) = k := by
  unfold mvN
  by_cases a : k = 4
  · rw [if_pos a, if_neg (by decide), if_pos rfl, a]
  · rw [if_neg a]
    by_cases c : k = 5
    · rw [if_pos c, if_pos rfl, c]
    · rw [if_neg c, if_neg a, if_neg c]
/-- a part of the model's: done, or at fault -/
def PPm (h g : Hp) (b : Nat → Nat) (n tp : Nat) (U V : Ru) : Prop := Fj (Sxm tp) h g ∧ (∀ k, 33 ≤ k → k ≤ 34 → hI g 77 k = hI h 77 k) ∧ (∀ k, hI g 90 k = hI h 90 k) ∧ (uQ V = 0 → RM g b n (uS V) (0, 0) ∧ SKm g tp (uW V) (uP V)) ∧ (¬ uQ V = 0 → RM g b n (uS U) (uY V, uS U) ∧ ∃ p, SKm g tp (uW U) p ∧ mpF p p.1 ≤ mpF (uP U) (uP U).1 + if tkK b n (uS U) = 0 then 0 else 2)
theorem Fz.xm {tp : Nat} {h g : Hp} (F : Fz (fun a k => (a = 77 ∧ k = 30) ∨ (a = 87 ∧ tp ≤ k)) h g) : Fj (Sxm tp) h g := F.j.sub (fun a k q => by unfold Sxm SGr; omega)
theorem SKm.fj {h g : Hp} {tp : Nat} {W : List Nat} {p : Pr} (H : SKm h tp W p) (F : Fj SGr h g) : SKm g tp W p := ⟨by rw [F.I (by unfold SGr; omega)]; exact H.1, fun i hi => by rw [F.I (by unfold SGr; omega)]; exact H.2.1 i hi, by rw [F.I (by unfold SGr; omega)]; exact H.2.2.1, fun j hj => by rw [F.I (by unfold SGr; omega), F.I (by unfold SGr; omega)]; exact H.2.2.2 j hj⟩
theorem SKm.fz0 {h g : Hp} {tp : Nat} {W : List Nat} {p : Pr} (H : SKm h tp W p) (F : Fz SGr h g) : SKm g tp W p := H.fj F.j
theorem q_part {l : Launch} {d n tp sh : Nat} {b : Nat → Nat} {h : Hp} {U : Ru} (hS : St h) (R : RM h b n (uS U) (0, 0)) (H : SKm h tp (uW U) (uP U)) (hsh : sh ≤ 1) (f1 : hI h 77 31 = nI (if sh = 1 then 0 else 5)) (f2 : hI h 77 32 = nI (if sh = 1 then 6 else 8)) (hb : tp + mpF (uP U) (uP U).1 + 2 ≤ 1400) (E5 : uE U ≤ 5) (np : ¬ (tkK b n (uS U) = 3 ∧ b (uS U) = 40)) (nn : ¬ (uM U = 1 ∧ kwN b n (uS U) = 19)) : Ey l (d + 4) mX10_part [.ref 77] h none (fun g => PPm h g b n tp U (rstP b n sh U)) := by
  refine run_lv [some (.ref 77), none] (go := ?_)
  have gd : hI h 77 13 = 0 := R.good.mpr rfl
  have n7 := R.1.2.1
  have sn := R.2.2.1
  have te := tkE_le (b := b) sn
  have k5 := tkK_lt (b := b) (n := n) (s := uS U)
  have e18 := R.2.1.2.1
  have e20 := R.2.1.2.2.2.1
  have e21 := R.val
  have t0 := H.2.2.1
  have ig := fun d => q_isGood (l := l) (d := d) hS
  rw [if_pos gd] at ig
  have q2 : ∀ y, ¬ uQ (ruFl U y) = 0 := fun y => by show ¬ (2 : Nat) = 0; decide
  -- the end: the token is gone by
  have go97 : ∀ g V o, uQ V = 0 → uS V = nx b n (uS U) → uW V = uW U → uP V = psh (uP U) o → Fz (fun a k => (a = 77 ∧ k = 30) ∨ (a = 87 ∧ tp ≤ k)) h g → SKm g tp (uW U) (psh (uP U) o) → ∀ lv1, Go l (rmOf (d + 4) (0, 0)) mX10_part (hN h) (Zm (0, 0) (fun v h1 => v = none ∧ PPm h h1 b n tp U V) noX) 97 [some (.ref 77), lv1] [] g 0 0 := by
    intro g V o vq vs vw vp F G lv1
    have hS := F.St hS
    have R2 := R.fz F (fun k hk => by omega) (fun k => by omega)
    have gd : hI g 77 13 = 0 := R2.good.mpr rfl
    have ig := fun d => q_isGood (l := l) (d := d) hS
    rw [if_pos gd] at ig
    refine go_aloadn dX10_part_97 rfl ?_
    refine sg_cVi (M' := mX10_isGood) ([]) dX10_part_98 lX10_161 vX10_isGood (mo_L rfl) (by decide) rfl hS (ig _) rfl (Nat.le_of_ble_eq_true rfl) (Nat.zero_le _) (Nat.zero_le _) ?_
    refine go_if_eq (tgt := 108) dX10_part_101 (by decide) (fun c101 => absurd c101 (by decide)) (fun c101 => ?_)
    refine go_aloadn dX10_part_104 rfl ?_
    refine sg_rV0 (M' := mX10_goes) ([]) dX10_part_105 lX10_165 vX10_goes (mo_L rfl) (by decide) rfl hS (q_goesR hS R2) rfl (Nat.le_of_ble_eq_true rfl) (Nat.zero_le _) (Nat.zero_le _) (fun g2 G2 => ?_)
    refine go_return dX10_part_108 rfl (Nat.zero_le _) (Nat.zero_le _) ?_
    exact ⟨rfl, (F.xm).tr (G2.1.sub (fun _ _ q => Or.inl q)), fun k h1 h2 => by rw [G2.1.I (by unfold SGr; omega), F.I (by omega)], fun k => by rw [G2.1.I (by unfold SGr; omega), F.I (by omega)], fun _ => ⟨by rw [vs]; exact G2.2, by rw [vw, vp]; exact G.fj G2.1⟩, fun q => absurd vq q⟩
  -- the end at a fault
  have go97f : ∀ g y p, 0 < y → RM g b n (uS U) (y, uS U) → Fj (Sxm tp) h g → (∀ k, 33 ≤ k → k ≤ 34 → hI g 77 k = hI h 77 k) → (∀ k, hI g 90 k = hI h 90 k) → SKm g tp (uW U) p → mpF p p.1 ≤ mpF (uP U) (uP U).1 + (if tkK b n (uS U) = 0 then 0 else 2) → ∀ lv1, Go l (rmOf (d + 4) (0, 0)) mX10_part (hN h) (Zm (0, 0) (fun v h1 => v = none ∧ PPm h h1 b n tp U (ruFl U y)) noX) 97 [some (.ref 77), lv1] [] g 0 0 := by
    intro g y p hy R2 F e34 e90 G hp lv1
    have hS := F.St hS
    have gd : ¬ hI g 77 13 = 0 := fun q => absurd (R2.good.mp q) (show ¬ y = 0 by omega)
    have ig := fun d => q_isGood (l := l) (d := d) hS
    rw [if_neg gd] at ig
    refine go_aloadn dX10_part_97 rfl ?_
    refine sg_cVi (M' := mX10_isGood) ([]) dX10_part_98 lX10_161 vX10_isGood (mo_L rfl) (by decide) rfl hS (ig _) rfl (Nat.le_of_ble_eq_true rfl) (Nat.zero_le _) (Nat.zero_le _) ?_
    refine go_if_eq (tgt := 108) dX10_part_101 (by decide) (fun c101 => ?_) (fun c101 => absurd rfl c101)
    refine go_return dX10_part_108 rfl (Nat.zero_le _) (Nat.zero_le _) ?_
    exact ⟨rfl, F, e34, e90, fun q => absurd q (q2 _), fun _ => ⟨R2, p, G, hp⟩⟩
  have W2 := fun y (h0 : 0 < y) (h5 : y ≤ 5) => R.wr (y := y) h0 h5
  by_cases k2 : tkK b n (uS U) = 2
  · rw [k2] at e18
    rw [if_pos k2] at e21
    have er : rstP b n sh U = if ftF b n (uS U) = 0 then ruGo b n U ((0, uE U, uC U, uM U), uW U, psh (uP U) (0, nvT b n (uS U))) else ruFl U (ftF b n (uS U)) := by
      unfold rstP; rw [if_pos (Or.inl k2), if_neg (by omega), if_pos k2]
    rw [er]
    by_cases f : ftF b n (uS U) = 0
    · rw [if_pos f]
      have l4 : tkE b n (uS U) - uS U ≤ 4 := by
        unfold ftF at f; rw [if_pos k2] at f
        by_cases q : 4 < tkE b n (uS U) - uS U
        · rw [if_pos q] at f; exact absurd f (by decide)
        · omega
      obtain ⟨P1, P2⟩ := pt2_ok (o := (0, nvT b n (uS U))) (x := 1) (y := nI (nvT b n (uS U))) H (Nat.zero_le _) rfl rfl
      have p1 := fun d => q_puts (l := l) (d := d) (y := 1) hS t0 (by omega)
      have S1 : St (uI (uI h 87 (tp + mpF (uP U) (uP U).1) 1) 77 30 (nI (tp + mpF (uP U) (uP U).1 + 1))) := ((Fz.rf.uI (S := fun _ _ => True) True.intro).uI True.intro).St hS
      have p2 := fun d => q_puts (l := l) (d := d) (y := nI (nvT b n (uS U))) (h := uI (uI h 87 (tp + mpF (uP U) (uP U).1) 1) 77 30 (nI (tp + mpF (uP U) (uP U).1 + 1))) S1 hI_uI_eq (by omega)
      have go := go97 _ (ruGo b n U ((0, uE U, uC U, uM U), uW U, psh (uP U) (0, nvT b n (uS U)))) (0, nvT b n (uS U)) rfl rfl rfl rfl P1 P2 none
      refine go_aloadn dX10_part_0 rfl ?_
      refine sg_cVi (M' := mX10_isGood) ([]) dX10_part_1 lX10_161 vX10_isGood (mo_L rfl) (by decide) rfl hS (ig _) rfl (Nat.le_of_ble_eq_true rfl) (Nat.zero_le _) (Nat.zero_le _) ?_
      refine go_if_ne (tgt := 8) dX10_part_4 (by decide) (fun c4 => ?_) (fun c4 => absurd c4 (by decide))
      refine go_aloadn dX10_part_8 rfl ?_
      refine sg_getI dX10_part_9 fX10_135 rfl (mo_L rfl) hS ?_
      rw [e18]
      refine go_iconst (v := 2) dX10_part_12 rfl ?_
      refine go_icmp_ne (tgt := 45) dX10_part_13 (by decide) (fun c13 => absurd rfl c13) (fun c13 => ?_)
      refine go_aloadn dX10_part_16 rfl ?_
      refine sg_getI dX10_part_17 fX10_145 rfl (mo_L rfl) hS ?_
      rw [e20]
      refine go_iconst (v := 4) dX10_part_20 rfl ?_
      refine go_icmp_le (tgt := 29) dX10_part_21 (by decide) (fun c21 => ?_) (fun c21 => absurd (nI_le (b := 4) l4 (by decide)) c21)
      refine go_aloadn dX10_part_29 rfl ?_
      refine go_iconst (v := 1) dX10_part_30 rfl ?_
      refine sg_cV0 (M' := mX10_puts) ([.int 1]) dX10_part_31 lX10_183 vX10_puts (mo_L rfl) (by decide) rfl hS (p1 _) rfl (Nat.le_of_ble_eq_true rfl) (Nat.zero_le _) (Nat.zero_le _) ?_
      have hS := S1
      refine go_aloadn dX10_part_34 rfl ?_
      refine go_aloadn dX10_part_35 rfl ?_
      refine sg_getI dX10_part_36 fX10_129 rfl (mo_L rfl) hS ?_
      rw [hI_uI_ne (by omega), hI_uI_ne (by omega), e21]
      refine sg_cV0 (M' := mX10_puts) ([.int (nI (nvT b n (uS U)))]) dX10_part_39 lX10_183 vX10_puts (mo_L rfl) (by decide) rfl hS (p2 _) rfl (Nat.le_of_ble_eq_true rfl) (Nat.zero_le _) (Nat.zero_le _) ?_
      refine go_goto (tgt := 97) dX10_part_42 (by decide) ?_
      exact go
    · rw [if_neg f]
      have fe : ftF b n (uS U) = 2 := by
        unfold ftF at f ⊢; rw [if_pos k2] at f ⊢
        by_cases q : 4 < tkE b n (uS U) - uS U
        · rw [if_pos q]
        · rw [if_neg q] at f; exact absurd rfl f
      have l4 : 4 < tkE b n (uS U) - uS U := by
        unfold ftF at f; rw [if_pos k2] at f
        by_cases q : 4 < tkE b n (uS U) - uS U
        · exact q
        · rw [if_neg q] at f; exact absurd rfl f
      rw [fe]
      have W := W2 2 (by decide) (by decide)
      rw [wrF, if_pos rfl] at W
      have wr := fun d => q_wrong (l := l) (d := d) (y := nI 2) hS
      have v2 := W.1.val
      rw [if_pos k2] at v2
      generalize wrH h (nI 2) = g0 at *
      have H0 := H.fz0 W.2
      have S0 := W.2.St hS
      obtain ⟨P1, P2⟩ := pt2_ok (o := (0, nvT b n (uS U))) (x := 1) (y := nI (nvT b n (uS U))) H0 (Nat.zero_le _) rfl rfl
      have p1 := fun d => q_puts (l := l) (d := d) (y := 1) S0 H0.2.2.1 (by omega)
      have S1 : St (uI (uI g0 87 (tp + mpF (uP U) (uP U).1) 1) 77 30 (nI (tp + mpF (uP U) (uP U).1 + 1))) := ((Fz.rf.uI (S := fun _ _ => True) True.intro).uI True.intro).St S0
      have p2 := fun d => q_puts (l := l) (d := d) (y := nI (nvT b n (uS U))) (h := uI (uI g0 87 (tp + mpF (uP U) (uP U).1) 1) 77 30 (nI (tp + mpF (uP U) (uP U).1 + 1))) S1 hI_uI_eq (by omega)
      have go := go97f _ 2 _ (by decide) (W.1.fz P1 (fun k hk => by omega) (fun k => by omega)) ((W.2.j.sub (fun _ _ q => Or.inl q)).tr P1.xm) (fun k h1 h2 => by rw [P1.I (by omega), W.2.I (by unfold SGr; omega)]) (fun k => by rw [P1.I (by omega), W.2.I (by unfold SGr; omega)]) P2 (by rw [mp_new, if_neg (by omega)]; exact Nat.le_refl _) none
      refine go_aloadn dX10_part_0 rfl ?_
      refine sg_cVi (M' := mX10_isGood) ([]) dX10_part_1 lX10_161 vX10_isGood (mo_L rfl) (by decide) rfl hS (ig _) rfl (Nat.le_of_ble_eq_true rfl) (Nat.zero_le _) (Nat.zero_le _) ?_
      refine go_if_ne (tgt := 8) dX10_part_4 (by decide) (fun c4 => ?_) (fun c4 => absurd c4 (by decide))
      refine go_aloadn dX10_part_8 rfl ?_
      refine sg_getI dX10_part_9 fX10_135 rfl (mo_L rfl) hS ?_
      rw [e18]
      refine go_iconst (v := 2) dX10_part_12 rfl ?_
      refine go_icmp_ne (tgt := 45) dX10_part_13 (by decide) (fun c13 => absurd rfl c13) (fun c13 => ?_)
      refine go_aloadn dX10_part_16 rfl ?_
      refine sg_getI dX10_part_17 fX10_145 rfl (mo_L rfl) hS ?_
      rw [e20]
      refine go_iconst (v := 4) dX10_part_20 rfl ?_
      refine go_icmp_le (tgt := 29) dX10_part_21 (by decide) (fun c21 => absurd c21 (Int32.not_le.mpr (nI_lt (a := 4) l4 (by omega)))) (fun c21 => ?_)
      refine go_aloadn dX10_part_24 rfl ?_
      refine go_iconst (v := 2) dX10_part_25 rfl ?_
      refine sg_cV0 (M' := mX10_wrong) ([.int (nI 2)]) dX10_part_26 lX10_168 vX10_wrong (mo_L rfl) (by decide) rfl hS (wr _) rfl (Nat.le_of_ble_eq_true rfl) (Nat.zero_le _) (Nat.zero_le _) ?_
      have hS := S0
      refine go_aloadn dX10_part_29 rfl ?_
      refine go_iconst (v := 1) dX10_part_30 rfl ?_
      refine sg_cV0 (M' := mX10_puts) ([.int 1]) dX10_part_31 lX10_183 vX10_puts (mo_L rfl) (by decide) rfl hS (p1 _) rfl (Nat.le_of_ble_eq_true rfl) (Nat.zero_le _) (Nat.zero_le _) ?_
      have hS := S1
      refine go_aloadn dX10_part_34 rfl ?_
      refine go_aloadn dX10_part_35 rfl ?_
      refine sg_getI dX10_part_36 fX10_129 rfl (mo_L rfl) hS ?_
      rw [hI_uI_ne (by omega), hI_uI_ne (by omega), v2]
      refine sg_cV0 (M' := mX10_puts) ([.int (nI (nvT b n (uS U)))]) dX10_part_39 lX10_183 vX10_puts (mo_L rfl) (by decide) rfl hS (p2 _) rfl (Nat.le_of_ble_eq_true rfl) (Nat.zero_le _) (Nat.zero_le _) ?_
      refine go_goto (tgt := 97) dX10_part_42 (by decide) ?_
      exact go
  · have x2 : ¬ hI h 77 18 = 2 := fun q => k2 ((nI_eq (b := 2) (by omega) (by decide)).mp (e18.symm.trans q))
    by_cases k1 : tkK b n (uS U) = 1
    · rw [k1] at e18
      have er : rstP b n sh U = if vlA sh (kwN b n (uS U)) then ruGo b n U ((0, uE U, uC U, uM U), uW U, psh (uP U) (1, mvN (kwN b n (uS U)))) else ruFl U 3 := by
        unfold rstP; rw [if_pos (Or.inr (Or.inl k1)), if_neg (by omega), if_neg k2, if_pos k1]; unfold rstW; rw [if_neg nn]
      rw [er]
      have kw := fun d => q_knownWord (l := l) (d := d) hS R
      have kl := kwN_le (b := b) (n := n) (s := uS U)
      by_cases f : vlA sh (kwN b n (uS U))
      · rw [if_pos f]
        rw [if_neg (by omega)] at kw
        have fl : (if sh = 1 then 0 else 5) ≤ kwN b n (uS U) ∧ kwN b n (uS U) ≤ (if sh = 1 then 6 else 8) := by
          rcases f with ⟨a1, a2⟩ | ⟨a1, a2, a3⟩
          · rw [if_pos a1, if_pos a1]; omega
          · rw [if_neg a1, if_neg a1]; omega
        have l8 : (if sh = 1 then 6 else 8) ≤ 8 := by split <;> decide
        obtain ⟨P1, P2⟩ := pt2_ok (o := (1, mvN (kwN b n (uS U)))) (x := 2) (y := nI (kwN b n (uS U))) H (Nat.le_refl _) rfl (by show nI (mvN (mvN _)) = _; rw [mv_mv])
        have p1 := fun d => q_puts (l := l) (d := d) (y := 2) hS t0 (by omega)
        have S1 : St (uI (uI h 87 (tp + mpF (uP U) (uP U).1) 2) 77 30 (nI (tp + mpF (uP U) (uP U).1 + 1))) := ((Fz.rf.uI (S := fun _ _ => True) True.intro).uI True.intro).St hS
        have p2 := fun d => q_puts (l := l) (d := d) (y := nI (kwN b n (uS U))) (h := uI (uI h 87 (tp + mpF (uP U) (uP U).1) 2) 77 30 (nI (tp + mpF (uP U) (uP U).1 + 1))) S1 hI_uI_eq (by omega)
        have go := go97 _ (ruGo b n U ((0, uE U, uC U, uM U), uW U, psh (uP U) (1, mvN (kwN b n (uS U))))) (1, mvN (kwN b n (uS U))) rfl rfl rfl rfl P1 P2 (some (.int (nI (kwN b n (uS U)))))
        refine go_aloadn dX10_part_0 rfl ?_
        refine sg_cVi (M' := mX10_isGood) ([]) dX10_part_1 lX10_161 vX10_isGood (mo_L rfl) (by decide) rfl hS (ig _) rfl (Nat.le_of_ble_eq_true rfl) (Nat.zero_le _) (Nat.zero_le _) ?_
        refine go_if_ne (tgt := 8) dX10_part_4 (by decide) (fun c4 => ?_) (fun c4 => absurd c4 (by decide))
        refine go_aloadn dX10_part_8 rfl ?_
        refine sg_getI dX10_part_9 fX10_135 rfl (mo_L rfl) hS ?_
        rw [e18]
        refine go_iconst (v := 2) dX10_part_12 rfl ?_
        refine go_icmp_ne (tgt := 45) dX10_part_13 (by decide) (fun c13 => ?_) (fun c13 => absurd c13 (by decide))
        refine go_aloadn dX10_part_45 rfl ?_
        refine sg_getI dX10_part_46 fX10_135 rfl (mo_L rfl) hS ?_
        rw [e18]
        refine go_iconst (v := 1) dX10_part_49 rfl ?_
        refine go_icmp_ne (tgt := 92) dX10_part_50 (by decide) (fun c50 => absurd rfl c50) (fun c50 => ?_)
        refine go_aloadn dX10_part_53 rfl ?_
        refine sg_cVi (M' := mX10_knownWord) ([]) dX10_part_54 lX10_186 vX10_knownWord (mo_L rfl) (by decide) rfl hS (kw _) rfl (Nat.le_of_ble_eq_true rfl) (Nat.zero_le _) (Nat.zero_le _) ?_
        refine go_ist1 dX10_part_57 rfl ?_
        refine go_iloadn dX10_part_58 rfl ?_
        refine go_aloadn dX10_part_59 rfl ?_
        refine sg_getI dX10_part_60 fX10_190 rfl (mo_L rfl) hS ?_
        rw [f1]
        refine go_icmp_lt (tgt := 74) dX10_part_63 (by decide) (fun c63 => absurd c63 (nI_nlt fl.1 (by omega))) (fun c63 => ?_)
        refine go_iloadn dX10_part_66 rfl ?_
        refine go_aloadn dX10_part_67 rfl ?_
        refine sg_getI dX10_part_68 fX10_193 rfl (mo_L rfl) hS ?_
        rw [f2]
        refine go_icmp_le (tgt := 79) dX10_part_71 (by decide) (fun c71 => ?_) (fun c71 => absurd (nI_le fl.2 (by omega)) c71)
        refine go_aloadn dX10_part_79 rfl ?_
        refine go_iconst (v := 2) dX10_part_80 rfl ?_
        refine sg_cV0 (M' := mX10_puts) ([.int 2]) dX10_part_81 lX10_183 vX10_puts (mo_L rfl) (by decide) rfl hS (p1 _) rfl (Nat.le_of_ble_eq_true rfl) (Nat.zero_le _) (Nat.zero_le _) ?_
        have hS := S1
        refine go_aloadn dX10_part_84 rfl ?_
        refine go_iloadn dX10_part_85 rfl ?_
        refine sg_cV0 (M' := mX10_puts) ([.int (nI (kwN b n (uS U)))]) dX10_part_86 lX10_183 vX10_puts (mo_L rfl) (by decide) rfl hS (p2 _) rfl (Nat.le_of_ble_eq_true rfl) (Nat.zero_le _) (Nat.zero_le _) ?_
        refine go_goto (tgt := 97) dX10_part_89 (by decide) ?_
        exact go
      · rw [if_neg f]
        have W := W2 3 (by decide) (by decide)
        rw [wrF, if_pos rfl] at W
        have wr := fun d => q_wrong (l := l) (d := d) (y := nI 3) hS
        generalize wrH h (nI 3) = g0 at *
        have H0 := H.fz0 W.2
        have S0 := W.2.St hS
        have l5 : (if sh = 1 then 0 else 5) ≤ 5 := by split <;> decide
        have l8 : (if sh = 1 then 6 else 8) ≤ 8 := by split <;> decide
        have fl : ¬ ((if sh = 1 then 0 else 5) ≤ kwN b n (uS U) ∧ kwN b n (uS U) ≤ (if sh = 1 then 6 else 8)) := fun z => f (by
          by_cases a1 : sh = 1
          · rw [if_pos a1, if_pos a1] at z; exact Or.inl ⟨a1, by omega⟩
          · rw [if_neg a1, if_neg a1] at z; exact Or.inr ⟨a1, z⟩)
        generalize hvv : (if kwN b n (uS U) = 20 then (-1 : Int32) else nI (kwN b n (uS U))) = vv at *
        have hw : ∃ w, mcB (1, w) = vv := by
          by_cases z : kwN b n (uS U) = 20
          · rw [if_pos z] at hvv; exact ⟨4294967295, by rw [← hvv]; rfl⟩
          · rw [if_neg z] at hvv; exact ⟨mvN (kwN b n (uS U)), by rw [← hvv]; show nI (mvN (mvN _)) = _; rw [mv_mv]⟩
        obtain ⟨w, hw⟩ := hw
        obtain ⟨P1, P2⟩ := pt2_ok (o := (1, w)) (x := 2) (y := vv) H0 (Nat.le_refl _) rfl hw
        have p1 := fun d => q_puts (l := l) (d := d) (y := 2) S0 H0.2.2.1 (by omega)
        have S1 : St (uI (uI g0 87 (tp + mpF (uP U) (uP U).1) 2) 77 30 (nI (tp + mpF (uP U) (uP U).1 + 1))) := ((Fz.rf.uI (S := fun _ _ => True) True.intro).uI True.intro).St S0
        have p2 := fun d => q_puts (l := l) (d := d) (y := vv) (h := uI (uI g0 87 (tp + mpF (uP U) (uP U).1) 2) 77 30 (nI (tp + mpF (uP U) (uP U).1 + 1))) S1 hI_uI_eq (by omega)
        have go := go97f _ 3 _ (by decide) (W.1.fz P1 (fun k hk => by omega) (fun k => by omega)) ((W.2.j.sub (fun _ _ q => Or.inl q)).tr P1.xm) (fun k h1 h2 => by rw [P1.I (by omega), W.2.I (by unfold SGr; omega)]) (fun k => by rw [P1.I (by omega), W.2.I (by unfold SGr; omega)]) P2 (by rw [mp_new, if_neg (by omega)]; exact Nat.le_refl _) (some (.int vv))
        have go74 : Go l (rmOf (d + 4) (0, 0)) mX10_part (hN h) (Zm (0, 0) (fun v h1 => v = none ∧ PPm h h1 b n tp U (ruFl U 3)) noX) 74 [some (.ref 77), some (.int vv)] [] h 0 0 := by
          refine go_aloadn dX10_part_74 rfl ?_
          refine go_iconst (v := 3) dX10_part_75 rfl ?_
          refine sg_cV0 (M' := mX10_wrong) ([.int (nI 3)]) dX10_part_76 lX10_168 vX10_wrong (mo_L rfl) (by decide) rfl hS (wr _) rfl (Nat.le_of_ble_eq_true rfl) (Nat.zero_le _) (Nat.zero_le _) ?_
          have hS := S0
          refine go_aloadn dX10_part_79 rfl ?_
          refine go_iconst (v := 2) dX10_part_80 rfl ?_
          refine sg_cV0 (M' := mX10_puts) ([.int 2]) dX10_part_81 lX10_183 vX10_puts (mo_L rfl) (by decide) rfl hS (p1 _) rfl (Nat.le_of_ble_eq_true rfl) (Nat.zero_le _) (Nat.zero_le _) ?_
          have hS := S1
          refine go_aloadn dX10_part_84 rfl ?_
          refine go_iloadn dX10_part_85 rfl ?_
          refine sg_cV0 (M' := mX10_puts) ([.int vv]) dX10_part_86 lX10_183 vX10_puts (mo_L rfl) (by decide) rfl hS (p2 _) rfl (Nat.le_of_ble_eq_true rfl) (Nat.zero_le _) (Nat.zero_le _) ?_
          refine go_goto (tgt := 97) dX10_part_89 (by decide) ?_
          exact go
        refine go_aloadn dX10_part_0 rfl ?_
        refine sg_cVi (M' := mX10_isGood) ([]) dX10_part_1 lX10_161 vX10_isGood (mo_L rfl) (by decide) rfl hS (ig _) rfl (Nat.le_of_ble_eq_true rfl) (Nat.zero_le _) (Nat.zero_le _) ?_
        refine go_if_ne (tgt := 8) dX10_part_4 (by decide) (fun c4 => ?_) (fun c4 => absurd c4 (by decide))
        refine go_aloadn dX10_part_8 rfl ?_
        refine sg_getI dX10_part_9 fX10_135 rfl (mo_L rfl) hS ?_
        rw [e18]
        refine go_iconst (v := 2) dX10_part_12 rfl ?_
        refine go_icmp_ne (tgt := 45) dX10_part_13 (by decide) (fun c13 => ?_) (fun c13 => absurd c13 (by decide))
        refine go_aloadn dX10_part_45 rfl ?_
        refine sg_getI dX10_part_46 fX10_135 rfl (mo_L rfl) hS ?_
        rw [e18]
        refine go_iconst (v := 1) dX10_part_49 rfl ?_
        refine go_icmp_ne (tgt := 92) dX10_part_50 (by decide) (fun c50 => absurd rfl c50) (fun c50 => ?_)
        refine go_aloadn dX10_part_53 rfl ?_
        refine sg_cVi (M' := mX10_knownWord) ([]) dX10_part_54 lX10_186 vX10_knownWord (mo_L rfl) (by decide) rfl hS (kw _) rfl (Nat.le_of_ble_eq_true rfl) (Nat.zero_le _) (Nat.zero_le _) ?_
        refine go_ist1 dX10_part_57 rfl ?_
        refine go_iloadn dX10_part_58 rfl ?_
        refine go_aloadn dX10_part_59 rfl ?_
        refine sg_getI dX10_part_60 fX10_190 rfl (mo_L rfl) hS ?_
        rw [f1]
        refine go_icmp_lt (tgt := 74) dX10_part_63 (by decide) (fun c63 => ?_) (fun c63 => ?_)
        · exact go74
        · refine go_iloadn dX10_part_66 rfl ?_
          refine go_aloadn dX10_part_67 rfl ?_
          refine sg_getI dX10_part_68 fX10_193 rfl (mo_L rfl) hS ?_
          rw [f2]
          refine go_icmp_le (tgt := 79) dX10_part_71 (by decide) (fun c71 => absurd c71 (by by_cases z : kwN b n (uS U) = 20; rw [if_pos z] at hvv; exact absurd (by rw [← hvv]; exact Int32.not_le.mp (fun z => nI_m1lt z (by omega))) c63; rw [if_neg z] at hvv; rw [← hvv] at c63 ⊢; exact Int32.not_le.mpr (nI_lt (by have : ¬ kwN b n (uS U) < (if sh = 1 then 0 else 5) := fun q => c63 (nI_lt q (by omega)); omega) (by omega)))) (fun c71 => ?_)
          exact go74
    · have x1 : ¬ hI h 77 18 = 1 := fun q => k1 ((nI_eq (b := 1) (by omega) (by decide)).mp (e18.symm.trans q))
      have er : rstP b n sh U = ruFl U 1 := by
        unfold rstP; rw [if_neg (by omega)]
      rw [er]
      have W := W2 1 (by decide) (by decide)
      rw [wrF, if_pos rfl] at W
      have wr := fun d => q_wrong (l := l) (d := d) (y := nI 1) hS
      generalize wrH h (nI 1) = g0 at *
      have S0 := W.2.St hS
      have go := go97f g0 1 _ (by decide) W.1 (W.2.j.sub (fun _ _ q => Or.inl q)) (fun k h1 h2 => by rw [W.2.I (by unfold SGr; omega)]) (fun k => by rw [W.2.I (by unfold SGr; omega)]) (H.fz0 W.2) (Nat.le_add_right _ _) none
      refine go_aloadn dX10_part_0 rfl ?_
      refine sg_cVi (M' := mX10_isGood) ([]) dX10_part_1 lX10_161 vX10_isGood (mo_L rfl) (by decide) rfl hS (ig _) rfl (Nat.le_of_ble_eq_true rfl) (Nat.zero_le _) (Nat.zero_le _) ?_
      refine go_if_ne (tgt := 8) dX10_part_4 (by decide) (fun c4 => ?_) (fun c4 => absurd c4 (by decide))
      refine go_aloadn dX10_part_8 rfl ?_
      refine sg_getI dX10_part_9 fX10_135 rfl (mo_L rfl) hS ?_
      refine go_iconst (v := 2) dX10_part_12 rfl ?_
      refine go_icmp_ne (tgt := 45) dX10_part_13 (by decide) (fun c13 => ?_) (fun c13 => absurd c13 x2)
      refine go_aloadn dX10_part_45 rfl ?_
      refine sg_getI dX10_part_46 fX10_135 rfl (mo_L rfl) hS ?_
      refine go_iconst (v := 1) dX10_part_49 rfl ?_
      refine go_icmp_ne (tgt := 92) dX10_part_50 (by decide) (fun c50 => ?_) (fun c50 => absurd c50 x1)
      refine go_aloadn dX10_part_92 rfl ?_
      refine go_iconst (v := 1) dX10_part_93 rfl ?_
      refine sg_cV0 (M' := mX10_wrong) ([.int (nI 1)]) dX10_part_94 lX10_168 vX10_wrong (mo_L rfl) (by decide) rfl hS (wr _) rfl (Nat.le_of_ble_eq_true rfl) (Nat.zero_le _) (Nat.zero_le _) ?_
      exact go
