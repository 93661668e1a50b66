/-! the image, the tape -/
def imS (S : Sx) : Sx := (sC S, sT S, sA S, sQ S, some (sT S, sA S, sQ S), sP S, sF S, sR S)
theorem k_image {l : Launch} {d : Nat} {S : Sx} {h : Hp} (W : WS S) (K : KI h S) : Run l (d + 7) (0, 0) mX9_image [.ref 0] h (fun v g => v = none ∧ KI g (imS S) ∧ Fw h g) noX := by
  obtain ⟨c, c', fs, fr, z, h0, K1, h1, h2, h3, ⟨h4, h5⟩, h6, h7⟩ := K
  have hS := K1.2.1.hc.2.2
  refine run_lv [some (.ref 0)] (go := ?_)
  have S1 : St (uF h 48 (pkF h 30 0 (hI h 48))) := hS
  have S2 : St (acH (uF h 48 (pkF h 30 0 (hI h 48))) 49 42) := hS
  have S3 : St (ncH (acH (uF h 48 (pkF h 30 0 (hI h 48))) 49 42) 51 44) := hS
  refine go_aloadn dX9_image_0 rfl ?_
  refine sg_getR dX9_image_1 fX9_41 rfl (wo_L rfl) hS (wo_r7 hS rfl) ?_
  refine go_aloadn dX9_image_4 rfl ?_
  refine sg_getR dX9_image_5 fX9_59 rfl (wo_L rfl) hS (wo_r11 hS rfl) ?_
  refine go_iconst (v := 0) dX9_image_8 rfl ?_
  refine sg_cV0 (M' := mX6_pack) ([.ref 48, .int (nI 0)]) dX9_image_9 lX9_360 vX6_pack (tw_L (at30)) (by decide) rfl hS (r_pack hS at30 (n := 19) rfl (fun i hi => by omega) (by decide) (by decide)) rfl (Nat.le_of_ble_eq_true rfl) (Nat.zero_le _) (Nat.zero_le _) ?_
  have hS := S1
  refine go_aloadn dX9_image_12 rfl ?_
  refine sg_getR dX9_image_13 fX9_62 rfl (wo_L rfl) hS (wo_r12 hS rfl) ?_
  refine go_aloadn dX9_image_16 rfl ?_
  refine sg_getR dX9_image_17 fX9_48 rfl (wo_L rfl) hS (wo_r8 hS rfl) ?_
  refine sg_cV0 (M' := mX0_copyFrom) ([.ref 42]) dX9_image_20 lX9_364 vX0_copyFrom (ac_L (at49)) (by decide) rfl hS (r_aCopy S1 at49 at42 (by decide)) rfl (Nat.le_of_ble_eq_true rfl) (Nat.zero_le _) (Nat.zero_le _) ?_
  have hS := S2
  refine go_aloadn dX9_image_23 rfl ?_
  refine sg_getR dX9_image_24 fX9_65 rfl (wo_L rfl) hS (wo_r13 hS rfl) ?_
  refine go_aloadn dX9_image_27 rfl ?_
  refine sg_getR dX9_image_28 fX9_55 rfl (wo_L rfl) hS (wo_r9 hS rfl) ?_
  refine sg_cV0 (M' := mX2_copyFrom) ([.ref 44]) dX9_image_31 lX9_368 vX2_copyFrom (no_L (at51)) (by decide) rfl hS (r_nCopy S2 at51 at44 (by decide)) rfl (Nat.le_of_ble_eq_true rfl) (Nat.zero_le _) (Nat.zero_le _) ?_
  have hS := S3
  refine go_aloadn dX9_image_34 rfl ?_
  refine go_iconst (v := 1) dX9_image_35 rfl ?_
  refine sg_putZ dX9_image_36 fX9_127 rfl rfl (wo_L rfl) hS (Or.inr rfl) ?_
  skip
  have ac := ac_at (h := uF h 48 (pkF h 30 0 (hI h 48))) (a := 49) (o := 42)
  have nc := nc_at (h := acH (uF h 48 (pkF h 30 0 (hI h 48))) 49 42) (n := 51) (o := 44) (fun i j hi hj => by omega)
  have e : ∀ a k, a < 48 → ¬ (a = 0 ∧ k = 10) → hI (uI (ncH (acH (uF h 48 (pkF h 30 0 (hI h 48))) 49 42) 51 44) 0 10 1) a k = hI h a k := fun a k q q2 => by rw [hI_uI_ne q2, nc.2.2 a k (by omega), ac.2.2.2 a k (by omega) (by omega), hI_uF_ne (by omega)]
  have eF : Fw h (uI (ncH (acH (uF h 48 (pkF h 30 0 (hI h 48))) 49 42) 51 44) 0 10 1) := ⟨rfl, rfl, fun a ha => ⟨fun k => by rw [hI_uI_ne (by omega), nc.2.2 a k (by omega), ac.2.2.2 a k (by omega) (by omega), hI_uF_ne (by omega)], fun k => rfl⟩⟩
  have e5 : ∀ a k, 54 < a → hI (uI (ncH (acH (uF h 48 (pkF h 30 0 (hI h 48))) 49 42) 51 44) 0 10 1) a k = hI h a k := fun a k q => by rw [hI_uI_ne (by omega), nc.2.2 a k (by omega), ac.2.2.2 a k (by omega) (by omega), hI_uF_ne (by omega)]
  have e48 : hI (uI (ncH (acH (uF h 48 (pkF h 30 0 (hI h 48))) 49 42) 51 44) 0 10 1) 48 = pkF h 30 0 (hI h 48) := funext fun k => by rw [hI_uI_ne (by omega), nc.2.2 48 k (by omega), ac.2.2.2 48 k (by omega) (by omega), hI_uF_eq]
  have f42 : ∀ k, hI (uF h 48 (pkF h 30 0 (hI h 48))) 42 k = hI h 42 k := fun k => hI_uF_ne (by omega)
  have f43 : ∀ k, hI (uF h 48 (pkF h 30 0 (hI h 48))) (42 + 1) k = hI h (42 + 1) k := fun k => hI_uF_ne (by omega)
  refine go_return dX9_image_39 rfl (Nat.zero_le _) (Nat.zero_le _) ?_
  exact ⟨rfl, ⟨c, c', fs, fr, z, h0, K1.fr rfl rfl (fun a k q => by rcases Nat.lt_or_ge a 48 with w | w; exact e a k w (by omega); exact e5 a k (by omega)), h1.fr (fun k => e _ _ (by omega) (by omega)) (funext fun k => e _ _ (by omega) (by omega)), h2.eq (fun i hi k => e _ _ (by omega) (by omega)), ⟨hI_uI_eq, by rw [e48]; exact PKr.of W.1 K1.2.1 W.2.1.1, h1.copy W.1 (by rw [hI_uI_ne (by omega), nc.2.2 49 1 (by omega), ac.1, f42]) (by rw [hI_uI_ne (by omega), nc.2.2 49 2 (by omega), ac.2.1, f42]) (fun k hk => by rw [hI_uI_ne (by omega), nc.2.2 _ k (by omega), ac.2.2.1 k hk, f43]), h2.copy (by rw [hI_uI_ne (by omega), nc.1, ac.2.2.2 44 0 (by omega) (by omega), hI_uF_ne (by omega)]) (fun i a b k hk => by rw [hI_uI_ne (by omega), nc.2.1 i a b k hk, ac.2.2.2 _ k (by omega) (by omega), hI_uF_ne (by omega)])⟩, ⟨(e _ _ (by omega) (by omega)).trans h4, fun i hi => (e _ _ (by omega) (by omega)).trans (h5 i hi)⟩, (e _ _ (by omega) (by omega)).trans h6, fun i hi => (e _ _ (by omega) (by omega)).trans (h7 i hi)⟩, eF⟩
def reS (S : Sx) (I : Tn × List Tn × Nt) : Sx := (sC S, I.1, I.2.1, I.2.2, some I, sP S, sF S, sR S)
def oRestore (S : Sx) : Sa := match sM S with
  | none => (0, 0, S)
  | some I => (0, 1, reS S I)
theorem uI_2 {h : Hp} {a k : Nat} {v : Int32} : (uI h a k v).2 = h.2 := rfl
theorem uF_2 {h : Hp} {a : Nat} {f : Nat → Int32} : (uF h a f).2 = h.2 := rfl
theorem ac_2 {h : Hp} {a o : Nat} : (acH h a o).2 = h.2 := by unfold acH cpH; rw [uI_2, uI_2, uF_2]
theorem nc_2 {h : Hp} {a o : Nat} : (ncH h a o).2 = h.2 := by unfold ncH cpH; rw [uI_2, uF_2, uF_2, uF_2]
theorem h2_R {g h : Hp} (e : g.2 = h.2) : hR g = hR h ∧ hN g = hN h ∧ hJ g = hJ h := ⟨by funext a k; unfold hR; rw [e], by unfold hN; rw [e], by funext a k; unfold hJ; rw [e]⟩
theorem St.of {g h : Hp} (hS : St h) (e : g.2 = h.2) : St g := ⟨by rw [(h2_R e).2.1]; exact hS.1, fun q hq => by rw [(h2_R e).1]; exact hS.2 q hq⟩
theorem k_restore {l : Launch} {d : Nat} {S : Sx} {h : Hp} (W : WS S) (K : KI h S) : Ka l (d + 7) mX9_restore [.ref 0] h (oRestore S) := by
  have K0 := K
  obtain ⟨c, c', fs, fr, z, h0, K1, h1, h2, h3, ⟨h4, h5⟩, h6, h7⟩ := K
  have hS := K1.2.1.hc.2.2
  refine run_lv [some (.ref 0)] (go := ?_)
  have hW := W.2.2.2.2.1
  unfold oRestore
  cases hsm : sM S with
  | none =>
    rw [hsm] at h3
    have h3 : _ = _ := h3
    refine go_aloadn dX9_restore_0 rfl ?_
    refine sg_getI dX9_restore_1 fX9_127 rfl (wo_L rfl) hS ?_
    rw [h3]
    refine go_if_ne (tgt := 9) dX9_restore_4 (by decide) (fun c4 => absurd rfl c4) (fun c4 => ?_)
    refine go_iconst (v := 0) dX9_restore_7 rfl ?_
    refine go_ireturn dX9_restore_8 rfl rfl (Nat.zero_le _) (Nat.zero_le _) ?_
    exact ⟨⟨rfl, rfl⟩, K0, Fw.rf⟩
  | some I =>
    rw [hsm] at h3 hW
    obtain ⟨i1, i2, i3, i4⟩ := h3
    obtain ⟨j1, j2, j3⟩ := hW
    have K2 := K1.un W.1 i2 j1
    have F2 := fu_B (h := h) (b := 30) (a := 48) (fr := 0) 8
    have e2 : ∀ a k, a ≤ 2 ∨ 42 ≤ a → hI (unB h 30 48 0 8) a k = hI h a k := fun a k q => F2.2.2.2 a k (by unfold Tu; omega)
    have S1 : St (unB h 30 48 0 8) := K2.2.1.hc.2.2
    have R1 := fun d => r_unpack (l := l) (d := d) (fr := 0) hS at30 (a := 48) (n := 19) rfl (by unfold Tu; omega) (by decide) (by decide)
    have f1 := F2.1
    have f2 := F2.2.1
    have f3 := F2.2.2.1
    clear F2
    generalize unB h 30 48 0 8 = g1 at *
    have S2 : St (acH g1 42 49) := S1.of ac_2
    have ac := ac_at (h := g1) (a := 42) (o := 49)
    have R2 := fun d => r_aCopy (l := l) (d := d) S1 at42 at49 (by decide)
    have q2 : hR (acH g1 42 49) = hR g1 ∧ hN (acH g1 42 49) = hN g1 ∧ hJ (acH g1 42 49) = hJ g1 := h2_R ac_2
    generalize acH g1 42 49 = g2 at *
    have S3 : St (ncH g2 44 51) := S2.of nc_2
    have nc := nc_at (h := g2) (n := 44) (o := 51) (fun i j hi hj => by omega)
    have R3 := fun d => r_nCopy (l := l) (d := d) S2 at44 at51 (by decide)
    have q3 : hR (ncH g2 44 51) = hR g2 ∧ hN (ncH g2 44 51) = hN g2 ∧ hJ (ncH g2 44 51) = hJ g2 := h2_R nc_2
    generalize ncH g2 44 51 = g3 at *
    have e3 : ∀ a k, ¬ (42 ≤ a ∧ a ≤ 47) → hI g3 a k = hI g1 a k := fun a k q => by rw [nc.2.2 a k (by omega), ac.2.2.2 a k (by omega) (by omega)]
    have e4 : ∀ a k, a ≤ 2 ∨ 48 ≤ a → hI g3 a k = hI h a k := fun a k q => by rw [e3 a k (by omega), e2 a k (by omega)]
    have eF : Fw h g3 := ⟨by rw [q3.2.1, q2.2.1]; exact f2, by rw [q3.2.2, q2.2.2]; exact f3, fun a ha => ⟨fun k => e4 a k (by omega), fun k => by rw [q3.1, q2.1, f1]⟩⟩
    refine go_aloadn dX9_restore_0 rfl ?_
    refine sg_getI dX9_restore_1 fX9_127 rfl (wo_L rfl) hS ?_
    rw [i1]
    refine go_if_ne (tgt := 9) dX9_restore_4 (by decide) (fun c4 => ?_) (fun c4 => absurd c4 (by decide))
    refine go_aloadn dX9_restore_9 rfl ?_
    refine sg_getR dX9_restore_10 fX9_41 rfl (wo_L rfl) hS (wo_r7 hS rfl) ?_
    refine go_aloadn dX9_restore_13 rfl ?_
    refine sg_getR dX9_restore_14 fX9_59 rfl (wo_L rfl) hS (wo_r11 hS rfl) ?_
    refine go_iconst (v := 0) dX9_restore_17 rfl ?_
    refine sg_cV0 (M' := mX6_unpack) ([.ref 48, .int (nI 0)]) dX9_restore_18 lX9_371 vX6_unpack (tw_L (at30)) (by decide) rfl hS (R1 _) rfl (Nat.le_of_ble_eq_true rfl) (Nat.zero_le _) (Nat.zero_le _) ?_
    have hS := S1
    refine go_aloadn dX9_restore_21 rfl ?_
    refine sg_getR dX9_restore_22 fX9_48 rfl (wo_L rfl) hS (wo_r8 hS rfl) ?_
    refine go_aloadn dX9_restore_25 rfl ?_
    refine sg_getR dX9_restore_26 fX9_62 rfl (wo_L rfl) hS (wo_r12 hS rfl) ?_
    refine sg_cV0 (M' := mX0_copyFrom) ([.ref 49]) dX9_restore_29 lX9_364 vX0_copyFrom (ac_L (at42)) (by decide) rfl hS (R2 _) rfl (Nat.le_of_ble_eq_true rfl) (Nat.zero_le _) (Nat.zero_le _) ?_
    have hS := S2
    refine go_aloadn dX9_restore_32 rfl ?_
    refine sg_getR dX9_restore_33 fX9_55 rfl (wo_L rfl) hS (wo_r9 hS rfl) ?_
    refine go_aloadn dX9_restore_36 rfl ?_
    refine sg_getR dX9_restore_37 fX9_65 rfl (wo_L rfl) hS (wo_r13 hS rfl) ?_
    refine sg_cV0 (M' := mX2_copyFrom) ([.ref 51]) dX9_restore_40 lX9_368 vX2_copyFrom (no_L (at44)) (by decide) rfl hS (R3 _) rfl (Nat.le_of_ble_eq_true rfl) (Nat.zero_le _) (Nat.zero_le _) ?_
    have hS := S3
    refine go_iconst (v := 1) dX9_restore_43 rfl ?_
    refine go_ireturn dX9_restore_44 rfl rfl (Nat.zero_le _) (Nat.zero_le _) ?_
    exact ⟨⟨rfl, rfl⟩, ⟨c, c', fs, fr, z, ⟨h0.1, h0.2.1, by rw [q3.1, q2.1, f1]; exact h0.2.2⟩, K2.fr (q3.1.trans q2.1) (q3.2.1.trans q2.2.1) (fun a k q => e3 a k (by omega)), i3.copy W.1 (by rw [nc.2.2 42 1 (by omega), ac.1, e2 49 1 (by omega)]) (by rw [nc.2.2 42 2 (by omega), ac.2.1, e2 49 2 (by omega)]) (fun k hk => by rw [nc.2.2 _ k (by omega), ac.2.2.1 k hk, e2 _ _ (by omega)]), i4.copy (by rw [nc.1, ac.2.2.2 51 0 (by omega) (by omega), e2 _ _ (by omega)]) (fun i a b k hk => by rw [nc.2.1 i a b k hk, ac.2.2.2 _ k (by omega) (by omega), e2 _ _ (by omega)]), ⟨(e4 _ _ (by omega)).trans i1, by rw [show hI g3 48 = hI h 48 from funext fun k => e4 _ _ (by omega)]; exact i2, i3.fr (fun k => e4 _ _ (by omega)) (funext fun k => e4 _ _ (by omega)), i4.eq (fun i hi k => e4 _ _ (by omega))⟩, ⟨(e4 _ _ (by omega)).trans h4, fun i hi => (e4 _ _ (by omega)).trans (h5 i hi)⟩, (e4 _ _ (by omega)).trans h6, fun i hi => (e4 _ _ (by omega)).trans (h7 i hi)⟩, eF⟩
