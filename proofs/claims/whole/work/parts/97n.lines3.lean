/-! lines of the class: a person -/
/-- the walk from the token s on: fault, the token, how many steps, the steps -/
def wkR (b : Nat → Nat) (n L o : Nat) : Nat → Nat → Nat → (Nat → Int32) → Nat × Nat × Nat × (Nat → Int32)
  | 0, i, s, W => (2, s, i, W)
  | k + 1, i, s, W => if onF b n s L = 0 then (if tkK b n (nx b n s) = 2 then wkR b n L o k (i + 1) (nx b n s) (upd W (o + i) (nI (nvT b n s))) else (0, nx b n s, i + 1, upd W (o + i) (nI (nvT b n s)))) else (onF b n s L, s, i, W)
def updN (f : Nat → Nat) (i v : Nat) : Nat → Nat := fun j => if j = i then v else f j
def yPer1 (R : Ry) (bl v : Nat) (w : Nat × Nat × Nat × (Nat → Int32)) : Ry := (R.1, R.2.1, ((cN (yC R), cP (yC R) + 1, cL (yC R), cM (yC R)), upd (cBl (yC R)) (cP (yC R)) (nI bl), cWt (yC R), updN (cWl (yC R)) (cP (yC R)) w.2.2.1, cSh (yC R), cRe (yC R)), (tD (yT R), tC (yT R), tO (yT R), tB (yT R), tS (yT R), tX (yT R), tH (yT R), upd (tV (yT R)) (cP (yC R)) (nI v), w.2.2.2), R.2.2.2.2)
def yPer2 (b : Nat → Nat) (n bl v : Nat) (R : Ry) (w : Nat × Nat × Nat × (Nat → Int32)) : Ry := if w.1 = 0 then yEnd b n (yPer1 R bl v w) w.2.1 else yFl R w.2.1 w.1
def yPerson (b : Nat → Nat) (n bl : Nat) (R : Ry) : Ry :=
  if 8 ≤ cP (yC R) then yFl R (yS R) 2
  else if nmF b n (nx b n (yS R)) 0 9 = 0 then yPer2 b n bl (nvT b n (nx b n (yS R))) R (wkR b n (cL (yC R)) (6 * cP (yC R)) 6 0 (nx b n (nx b n (yS R))) (tW (yT R)))
  else yFl R (nx b n (yS R)) (nmF b n (nx b n (yS R)) 0 9)
def yWk (R : Ry) (W : Nat → Int32) : Ry := (R.1, R.2.1, R.2.2.1, (tD (yT R), tC (yT R), tO (yT R), tB (yT R), tS (yT R), tX (yT R), tH (yT R), tV (yT R), W), R.2.2.2.2)
/-- the fault of a place as step i -/
def fpF (b : Nat → Nat) (n s i L : Nat) : Nat := if ftF b n s = 0 then (if 6 ≤ i then 2 else if L ≤ nvT b n s then 3 else 0) else ftF b n s
theorem r_isFitPlace {l : Launch} {d n s i c L : Nat} {b : Nat → Nat} {h : Hp} (hS : St h) (R : RC h b n s) (hc : CityAt c) (hC : hR h 3 7 = some c) (h0 : hI h c 0 = nI L) (hL : L ≤ 100) (hi : i ≤ 6) : Ex l (d + 3) mX3_isFitPlace [.ref 3, .int (nI i)] h (some (.int (if fpF b n s i L = 0 then 1 else 0))) (fuH h s (fpF b n s i L)) := by
  refine run_lv [some (.ref 3), some (.int (nI i))] (go := ?_)
  have fit := fun d => r_isFitNumber (l := l) (d := d) hS R
  have fl := fun d (y : Nat) (hy : 0 < y) => r_failR (l := l) (d := d) (y := y) hS R hy
  unfold fpF
  by_cases z : ftF b n s = 0
  · rw [if_pos z]
    rw [z, if_pos rfl, show fuH h s 0 = h from if_pos rfl] at fit
    obtain ⟨k2, -⟩ := (on_ft (b := b) (n := n) (s := s) (m := 0)).2 z
    have nl := nvT_lt k2
    have e5 := (R.2.2.2.2.2 k2).1
    by_cases x : 6 ≤ i
    · rw [if_pos x, if_neg (by decide)]
      refine go_aloadn dX3_isFitPlace_0 rfl ?_
      refine sg_cVi (M' := mX3_isFitNumber) ([]) dX3_isFitPlace_1 lX3_138 vX3_isFitNumber (rd_L rfl) (by decide) rfl hS (fit _) rfl (Nat.le_of_ble_eq_true rfl) (Nat.zero_le _) (Nat.zero_le _) ?_
      refine go_if_ne (tgt := 9) dX3_isFitPlace_4 (by decide) (fun c4 => ?_) (fun c4 => absurd c4 (by decide))
      refine go_iloadn dX3_isFitPlace_9 rfl ?_
      refine go_bipush (v := 6) dX3_isFitPlace_10 rfl ?_
      refine go_icmp_lt (tgt := 21) dX3_isFitPlace_12 (by decide) (fun c12 => absurd c12 (nI_nlt (a := i) (b := 6) x (by omega))) (fun c12 => ?_)
      refine go_aloadn dX3_isFitPlace_15 rfl ?_
      refine go_iconst (v := 2) dX3_isFitPlace_16 rfl ?_
      refine sg_cVi (M' := mX3_fail) ([.int (nI 2)]) dX3_isFitPlace_17 lX3_131 vX3_fail (rd_L rfl) (by decide) rfl hS (fl _ 2 (by decide)) rfl (Nat.le_of_ble_eq_true rfl) (Nat.zero_le _) (Nat.zero_le _) ?_
      refine go_ireturn dX3_isFitPlace_20 rfl rfl (Nat.zero_le _) (Nat.zero_le _) ?_
      exact ⟨rfl, rfl⟩
    · rw [if_neg x]
      by_cases y : L ≤ nvT b n s
      · rw [if_pos y, if_neg (by decide)]
        refine go_aloadn dX3_isFitPlace_0 rfl ?_
        refine sg_cVi (M' := mX3_isFitNumber) ([]) dX3_isFitPlace_1 lX3_138 vX3_isFitNumber (rd_L rfl) (by decide) rfl hS (fit _) rfl (Nat.le_of_ble_eq_true rfl) (Nat.zero_le _) (Nat.zero_le _) ?_
        refine go_if_ne (tgt := 9) dX3_isFitPlace_4 (by decide) (fun c4 => ?_) (fun c4 => absurd c4 (by decide))
        refine go_iloadn dX3_isFitPlace_9 rfl ?_
        refine go_bipush (v := 6) dX3_isFitPlace_10 rfl ?_
        refine go_icmp_lt (tgt := 21) dX3_isFitPlace_12 (by decide) (fun c12 => ?_) (fun c12 => absurd (nI_lt (b := 6) (by omega) (by omega)) c12)
        refine go_aloadn dX3_isFitPlace_21 rfl ?_
        refine sg_getI dX3_isFitPlace_22 fX3_77 rfl (rd_L rfl) hS ?_
        rw [e5]
        refine go_aloadn dX3_isFitPlace_25 rfl ?_
        refine sg_getR dX3_isFitPlace_26 fX3_29 rfl (rd_L rfl) hS hC ?_
        refine sg_getI dX3_isFitPlace_29 fX3_151 rfl (ct_L hc) hS ?_
        rw [h0]
        refine go_icmp_lt (tgt := 43) dX3_isFitPlace_32 (by decide) (fun c32 => absurd c32 (nI_nlt y (by omega))) (fun c32 => ?_)
        refine go_aloadn dX3_isFitPlace_35 rfl ?_
        refine go_iconst (v := 3) dX3_isFitPlace_36 rfl ?_
        refine sg_cVi (M' := mX3_fail) ([.int (nI 3)]) dX3_isFitPlace_37 lX3_131 vX3_fail (rd_L rfl) (by decide) rfl hS (fl _ 3 (by decide)) rfl (Nat.le_of_ble_eq_true rfl) (Nat.zero_le _) (Nat.zero_le _) ?_
        refine go_if_eq (tgt := 47) dX3_isFitPlace_40 (by decide) (fun c40 => ?_) (fun c40 => absurd rfl c40)
        refine go_iconst (v := 0) dX3_isFitPlace_47 rfl ?_
        refine go_ireturn dX3_isFitPlace_48 rfl rfl (Nat.zero_le _) (Nat.zero_le _) ?_
        exact ⟨rfl, rfl⟩
      · rw [if_neg y, if_pos rfl]
        refine go_aloadn dX3_isFitPlace_0 rfl ?_
        refine sg_cVi (M' := mX3_isFitNumber) ([]) dX3_isFitPlace_1 lX3_138 vX3_isFitNumber (rd_L rfl) (by decide) rfl hS (fit _) rfl (Nat.le_of_ble_eq_true rfl) (Nat.zero_le _) (Nat.zero_le _) ?_
        refine go_if_ne (tgt := 9) dX3_isFitPlace_4 (by decide) (fun c4 => ?_) (fun c4 => absurd c4 (by decide))
        refine go_iloadn dX3_isFitPlace_9 rfl ?_
        refine go_bipush (v := 6) dX3_isFitPlace_10 rfl ?_
        refine go_icmp_lt (tgt := 21) dX3_isFitPlace_12 (by decide) (fun c12 => ?_) (fun c12 => absurd (nI_lt (b := 6) (by omega) (by omega)) c12)
        refine go_aloadn dX3_isFitPlace_21 rfl ?_
        refine sg_getI dX3_isFitPlace_22 fX3_77 rfl (rd_L rfl) hS ?_
        rw [e5]
        refine go_aloadn dX3_isFitPlace_25 rfl ?_
        refine sg_getR dX3_isFitPlace_26 fX3_29 rfl (rd_L rfl) hS hC ?_
        refine sg_getI dX3_isFitPlace_29 fX3_151 rfl (ct_L hc) hS ?_
        rw [h0]
        refine go_icmp_lt (tgt := 43) dX3_isFitPlace_32 (by decide) (fun c32 => ?_) (fun c32 => absurd (nI_lt (by omega) (by omega)) c32)
        refine go_iconst (v := 1) dX3_isFitPlace_43 rfl ?_
        refine go_goto (tgt := 48) dX3_isFitPlace_44 (by decide) ?_
        refine go_ireturn dX3_isFitPlace_48 rfl rfl (Nat.zero_le _) (Nat.zero_le _) ?_
        exact ⟨rfl, by rw [show fuH h s 0 = h from if_pos rfl]⟩
  · rw [if_neg z, if_neg z]
    refine go_aloadn dX3_isFitPlace_0 rfl ?_
    refine sg_cVi (M' := mX3_isFitNumber) ([]) dX3_isFitPlace_1 lX3_138 vX3_isFitNumber (rd_L rfl) (by decide) rfl hS (fit _) rfl (Nat.le_of_ble_eq_true rfl) (Nat.zero_le _) (Nat.zero_le _) ?_
    rw [if_neg z]
    refine go_if_ne (tgt := 9) dX3_isFitPlace_4 (by decide) (fun c4 => absurd rfl c4) (fun c4 => ?_)
    refine go_iconst (v := 0) dX3_isFitPlace_7 rfl ?_
    refine go_ireturn dX3_isFitPlace_8 rfl rfl (Nat.zero_le _) (Nat.zero_le _) ?_
    exact ⟨rfl, rfl⟩
theorem r_per125 {l : Launch} {d n c P bl v s i : Nat} {b : Nat → Nat} {h g : Hp} {Y : Ry} {W : Nat → Int32} {x4 : Int32} (hS : St g) (R : RC g b n s) (K : KY g c (yWk Y W)) (F : Fz (Scy c) h g) (f0 : (yF Y).1 = 0) (hP : cP (yC Y) = P) (P8 : P < 8) (hi : i ≤ 6) (v1 : hI g (c + 1) P = nI v) (v2 : hI g (c + 2) P = nI bl) : Go l (rmOf (d + 8) (0, 0)) mX3_personLine (hN h) (Zm (0, 0) (fun v0 h1 => v0 = some (.int (if (yF (yPer2 b n bl v Y (0, s, i, W))).1 = 0 then 1 else 0)) ∧ CK h h1 c b n (yPer2 b n bl v Y (0, s, i, W))) noX) 125 [some (.ref 3), some (.int (nI bl)), some (.int (nI P)), some (.int (nI i)), some (.int x4)] [] g 0 0 := by
  have hc := K.1.2
  have hC := K.1.1
  have hc' := at_c hc
  have e1 := K.2.2.1.2.1
  rw [show cP (yC (yWk Y W)) = P from hP] at e1
  rw [show yPer2 b n bl v Y (0, s, i, W) = yEnd b n (yPer1 Y bl v (0, s, i, W)) s from rfl]
  have F5 : Fz (fun a k => (a = c + 3 ∧ k = P) ∨ (a = c ∧ k = 1)) g (uI (uI g (c + 3) P (nI i)) c 1 (nI (P + 1))) := (Fz.rf.uI (Or.inl ⟨rfl, rfl⟩)).uI (Or.inr ⟨rfl, rfl⟩)
  have v3 : hI (uI (uI g (c + 3) P (nI i)) c 1 (nI (P + 1))) (c + 3) P = nI i := by rw [hI_uI_ne (by omega), hI_uI_eq]
  have v4 : hI (uI (uI g (c + 3) P (nI i)) c 1 (nI (P + 1))) c 1 = nI (P + 1) := hI_uI_eq
  have fin : ∀ g2, g2 = uI (uI g (c + 3) P (nI i)) c 1 (nI (P + 1)) → Go l (rmOf (d + 8) (0, 0)) mX3_personLine (hN h) (Zm (0, 0) (fun v0 h1 => v0 = some (.int (if (yF (yEnd b n (yPer1 Y bl v (0, s, i, W)) s)).1 = 0 then 1 else 0)) ∧ CK h h1 c b n (yEnd b n (yPer1 Y bl v (0, s, i, W)) s)) noX) 148 [some (.ref 3), some (.int (nI bl)), some (.int (nI P)), some (.int (nI i)), some (.int x4)] [] g2 0 0 := by
    intro g2 hg
    rw [← hg] at F5 v3 v4
    have hS := F5.St hS
    have R2 := R.fz F5 (fun k => by omega) (fun k hk => by omega)
    have K2 : KY g2 c (yPer1 Y bl v (0, s, i, W)) := by
      obtain ⟨⟨k1, k2⟩, ⟨k3, k4, k5, k6, k7, k8⟩, ⟨k9, k9a, k9b, k9c, k9d⟩, k10, k11, k12, k13, ⟨k14, k14a, k14b, k14c⟩, k15, k16⟩ := K
      refine ⟨⟨by rw [F5.1]; exact k1, k2⟩, ⟨by rw [F5.I (by omega)]; exact k3, k4, by rw [F5.I (by omega)]; exact k5, k6, by rw [F5.I (by omega)]; exact k7, by rw [F5.I (by omega)]; exact k8⟩, ⟨by rw [F5.I (by omega)]; exact k9, by rw [v4]; show _ = nI (cP (yC Y) + 1); rw [hP], by rw [F5.I (by omega)]; exact k9b, by rw [F5.I (by omega)]; exact k9c, by rw [F5.I (by omega)]; exact k9d⟩, ?_, ?_, ?_, ?_, ⟨by rw [F5.I (by omega)]; exact k14, by rw [F5.I (by omega)]; exact k14a, by rw [F5.I (by omega)]; exact k14b, by rw [F5.I (by omega)]; exact k14c⟩, ?_, ?_⟩
      · intro p hp
        have hp : p < P + 1 := by rw [← hP]; exact hp
        show hI g2 (c + 1) p = upd (tV (yT Y)) (cP (yC Y)) (nI v) p ∧ hI g2 (c + 2) p = upd (cBl (yC Y)) (cP (yC Y)) (nI bl) p ∧ hI g2 (c + 3) p = nI (updN (cWl (yC Y)) (cP (yC Y)) i p)
        rw [hP]
        by_cases q : p = P
        · subst q
          rw [pk_us, pk_us, updN, if_pos rfl, v3, F5.I (by omega), F5.I (by omega)]; exact ⟨v1, v2, rfl⟩
        · rw [pk_un q, pk_un q, updN, if_neg q, F5.I (by omega), F5.I (by omega), F5.I (by omega)]
          exact k10 p (by show p < cP (yC Y); omega)
      · intro p hp; rw [F5.I (by omega)]; exact k11 p hp
      · intro p hp; rw [F5.I (by omega), F5.I (by omega), F5.I (by omega)]; exact k12 p hp
      · intro p hp; rw [F5.I (by omega)]; exact k13 p hp
      · intro p hp; rw [F5.I (by omega)]; exact k15 p hp
      · intro p hp; rw [F5.I (by omega)]; exact k16 p hp
    have F6 : Fz (Scy c) h g2 := F.tr (F5.sub (fun a k q => by unfold Scy; omega))
    have le := fun d => r_lineEnd (l := l) (d := d) hS F6 R2 K2 f0
    generalize yEnd b n (yPer1 Y bl v (0, s, i, W)) s = Y' at *
    by_cases x : (yF Y').1 = 0
    · rw [if_pos x]
      refine go_aloadn dX3_personLine_148 rfl ?_
      refine sg_rVi (M' := mX3_lineEnd) ([]) dX3_personLine_149 lX3_153 vX3_lineEnd (rd_L rfl) (by decide) rfl hS ((le _)) rfl (Nat.le_of_ble_eq_true rfl) (Nat.zero_le _) (Nat.zero_le _) (fun g4 G => ?_)
      rw [if_pos x]
      refine go_ireturn dX3_personLine_152 rfl rfl (Nat.zero_le _) (Nat.zero_le _) ?_
      exact ⟨rfl, G⟩
    · rw [if_neg x]
      refine go_aloadn dX3_personLine_148 rfl ?_
      refine sg_rVi (M' := mX3_lineEnd) ([]) dX3_personLine_149 lX3_153 vX3_lineEnd (rd_L rfl) (by decide) rfl hS ((le _)) rfl (Nat.le_of_ble_eq_true rfl) (Nat.zero_le _) (Nat.zero_le _) (fun g4 G => ?_)
      rw [if_neg x]
      refine go_ireturn dX3_personLine_152 rfl rfl (Nat.zero_le _) (Nat.zero_le _) ?_
      exact ⟨rfl, G⟩
  refine go_aloadn dX3_personLine_125 rfl ?_
  refine sg_getR dX3_personLine_126 fX3_29 rfl (rd_L rfl) hS hC ?_
  refine sg_getR dX3_personLine_129 fX3_169 rfl (ct_L hc) hS (ct_r6 hS hc) ?_
  refine go_iloadn dX3_personLine_132 rfl ?_
  refine go_iloadn dX3_personLine_133 rfl ?_
  refine sg_iastN (i := P) dX3_personLine_134 (ct_6 hc) hS (by simp only [lit_nI, nI_add, pk_mul, Nat.add_assoc, Nat.zero_add, Nat.add_zero]) (by omega) ?_
  refine go_aloadn dX3_personLine_135 rfl ?_
  refine sg_getR dX3_personLine_136 fX3_29 rfl (rd_L rfl) hS hC ?_
  refine go_dup dX3_personLine_139 rfl ?_
  refine sg_getI dX3_personLine_140 fX3_144 rfl (ct_L hc) hS ?_
  refine go_iconst (v := 1) dX3_personLine_143 rfl ?_
  refine go_iadd dX3_personLine_144 ?_
  rw [hI_uI_ne (by omega), e1, nI_1]
  refine sg_putI dX3_personLine_145 fX3_144 rfl rfl (ct_L hc) hS ?_
  exact fin _ rfl
