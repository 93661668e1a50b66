/-! lines of the class: a thing -/
def yBy (R : Ry) (v : Int32) : Ry := (R.1, R.2.1, R.2.2.1, (tD (yT R), tC (yT R), tO (yT R), upd (tB (yT R)) (cN (yC R)) v, tS (yT R), tX (yT R), tH (yT R), tV (yT R), tW (yT R)), R.2.2.2.2)
def yTh1 (R : Ry) (w x o : Nat) (v : Int32) : Ry := (R.1, R.2.1, ((cN (yC R) + 1, cP (yC R), cL (yC R), cM (yC R)), cBl (yC R), upd (cWt (yC R)) (cN (yC R)) (nI w), cWl (yC R), cSh (yC R), cRe (yC R)), (tD (yT R), tC (yT R), upd (tO (yT R)) (cN (yC R)) (nI o), upd (tB (yT R)) (cN (yC R)) v, tS (yT R), upd (tX (yT R)) (cN (yC R)) (nI x), tH (yT R), tV (yT R), tW (yT R)), R.2.2.2.2)
def yTh2 (b : Nat → Nat) (n w x s3 : Nat) (R : Ry) : Ry :=
  if kwN b n (nx b n s3) = 13 then
    (if onF b n (nx b n (nx b n s3)) (cP (yC R)) = 0 then (if nvT b n (nx b n (nx b n s3)) = nvT b n s3 then yFl R (nx b n (nx b n s3)) 4 else yEnd b n (yTh1 R w x (nvT b n s3) (nI (nvT b n (nx b n (nx b n s3))))) (nx b n (nx b n (nx b n s3))))
    else yFl R (nx b n (nx b n s3)) (onF b n (nx b n (nx b n s3)) (cP (yC R))))
  else yEnd b n (yTh1 R w x (nvT b n s3) (-1)) (nx b n s3)
def yThing (b : Nat → Nat) (n : Nat) (R : Ry) : Ry :=
  if 10 ≤ cN (yC R) then yFl R (yS R) 2
  else if nmF b n (nx b n (yS R)) 1 30 = 0 then
    (if nmF b n (nx b n (nx b n (yS R))) 0 9 = 0 then
      (if onF b n (nx b n (nx b n (nx b n (yS R)))) (cP (yC R)) = 0 then yTh2 b n (nvT b n (nx b n (yS R))) (nvT b n (nx b n (nx b n (yS R)))) (nx b n (nx b n (nx b n (yS R)))) R
      else yFl R (nx b n (nx b n (nx b n (yS R)))) (onF b n (nx b n (nx b n (nx b n (yS R)))) (cP (yC R))))
    else yFl R (nx b n (nx b n (yS R))) (nmF b n (nx b n (nx b n (yS R))) 0 9))
  else yFl R (nx b n (yS R)) (nmF b n (nx b n (yS R)) 1 30)
theorem KY.th {h g : Hp} {c N : Nat} {R : Ry} (K : KY h c R) (hN : cN (yC R) = N) (F : Fz (fun a k => (a = c + 5 ∨ a = c + 6 ∨ a = c + 7) ∧ k = N) h g) : KY g c R := by
  have hc := at_c K.1.2
  obtain ⟨⟨k1, k2⟩, ⟨k3, k4, k5, k6, k7, k8⟩, ⟨k9, k9a, k9b, k9c, k9d⟩, k10, k11, k12, k13, ⟨k14, k14a, k14b, k14c⟩, k15, k16⟩ := K
  refine ⟨⟨by rw [F.1]; exact k1, k2⟩, ⟨by rw [F.I (by omega)]; exact k3, k4, by rw [F.I (by omega)]; exact k5, k6, by rw [F.I (by omega)]; exact k7, by rw [F.I (by omega)]; exact k8⟩, ⟨by rw [F.I (by omega)]; exact k9, by rw [F.I (by omega)]; exact k9a, by rw [F.I (by omega)]; exact k9b, by rw [F.I (by omega)]; exact k9c, by rw [F.I (by omega)]; exact k9d⟩, ?_, ?_, ?_, ?_, ⟨by rw [F.I (by omega)]; exact k14, by rw [F.I (by omega)]; exact k14a, by rw [F.I (by omega)]; exact k14b, by rw [F.I (by omega)]; exact k14c⟩, ?_, ?_⟩
  · intro p hp; rw [F.I (by omega), F.I (by omega), F.I (by omega)]; exact k10 p hp
  · intro p hp; rw [F.I (by omega)]; exact k11 p hp
  · intro p hp; rw [F.I (by omega), F.I (by omega), F.I (by omega)]; exact k12 p hp
  · intro p hp; rw [F.I (by omega)]; exact k13 p hp
  · intro p hp; rw [F.I (by omega)]; exact k15 p hp
  · intro p hp; rw [F.I (by omega)]; exact k16 p hp
theorem r_th153 {l : Launch} {d n c N w x o s : Nat} {b : Nat → Nat} {h g : Hp} {Y : Ry} {v : Int32} (hS : St g) (R : RC g b n s) (K : KY g c (yBy Y v)) (F : Fz (Scy c) h g) (f0 : (yF Y).1 = 0) (hN' : cN (yC Y) = N) (N8 : N < 10) (v1 : hI g (c + 5) N = nI w) (v2 : hI g (c + 6) N = nI x) (v3 : hI g (c + 7) N = nI o) : Go l (rmOf (d + 8) (0, 0)) mX3_thingLine (hN h) (Zm (0, 0) (fun v0 h1 => v0 = some (.int (if (yF (yEnd b n (yTh1 Y w x o v) s)).1 = 0 then 1 else 0)) ∧ CK h h1 c b n (yEnd b n (yTh1 Y w x o v) s)) noX) 153 [some (.ref 3), some (.int (nI N))] [] g 0 0 := by
  have hc := K.1.2
  have hC := K.1.1
  have hc' := at_c hc
  have e1 := K.2.2.1.2.2.1
  rw [show cN (yC (yBy Y v)) = N from hN'] at e1
  have F5 : Fz (fun a k => a = c ∧ k = 2) g (uI g c 2 (nI (N + 1))) := Fz.rf.uI ⟨rfl, rfl⟩
  have v4 : hI (uI g c 2 (nI (N + 1))) c 2 = nI (N + 1) := hI_uI_eq
  have fin : ∀ g2, g2 = uI g c 2 (nI (N + 1)) → Go l (rmOf (d + 8) (0, 0)) mX3_thingLine (hN h) (Zm (0, 0) (fun v0 h1 => v0 = some (.int (if (yF (yEnd b n (yTh1 Y w x o v) s)).1 = 0 then 1 else 0)) ∧ CK h h1 c b n (yEnd b n (yTh1 Y w x o v) s)) noX) 166 [some (.ref 3), some (.int (nI N))] [] g2 0 0 := by
    intro g2 hg
    rw [← hg] at F5 v4
    have hS := F5.St hS
    have R2 := R.fz F5 (fun k => by omega) (fun k hk => by omega)
    have K2 : KY g2 c (yTh1 Y w x o v) := by
      obtain ⟨⟨k1, k2⟩, ⟨k3, k4, k5, k6, k7, k8⟩, ⟨k9, k9a, k9b, k9c, k9d⟩, k10, k11, k12, k13, ⟨k14, k14a, k14b, k14c⟩, k15, k16⟩ := K
      refine ⟨⟨by rw [F5.1]; exact k1, k2⟩, ⟨by rw [F5.I (by omega)]; exact k3, k4, by rw [F5.I (by omega)]; exact k5, k6, by rw [F5.I (by omega)]; exact k7, by rw [F5.I (by omega)]; exact k8⟩, ⟨by rw [F5.I (by omega)]; exact k9, by rw [F5.I (by omega)]; exact k9a, by rw [v4]; show _ = nI (cN (yC Y) + 1); rw [hN'], by rw [F5.I (by omega)]; exact k9c, by rw [F5.I (by omega)]; exact k9d⟩, ?_, ?_, ?_, ?_, ⟨by rw [F5.I (by omega)]; exact k14, by rw [F5.I (by omega)]; exact k14a, by rw [F5.I (by omega)]; exact k14b, by rw [F5.I (by omega)]; exact k14c⟩, ?_, ?_⟩
      · intro p hp; rw [F5.I (by omega), F5.I (by omega), F5.I (by omega)]; exact k10 p hp
      · intro p hp; rw [F5.I (by omega)]; exact k11 p hp
      · intro p hp
        have hp : p < N + 1 := by rw [← hN']; exact hp
        show hI g2 (c + 5) p = upd (cWt (yC Y)) (cN (yC Y)) (nI w) p ∧ hI g2 (c + 6) p = upd (tX (yT Y)) (cN (yC Y)) (nI x) p ∧ hI g2 (c + 7) p = upd (tO (yT Y)) (cN (yC Y)) (nI o) p
        rw [hN', F5.I (by omega), F5.I (by omega), F5.I (by omega)]
        by_cases q : p = N
        · subst q
          rw [pk_us, pk_us, pk_us]; exact ⟨v1, v2, v3⟩
        · rw [pk_un q, pk_un q, pk_un q]
          exact k12 p (by show p < cN (yC Y); omega)
      · intro p hp; rw [F5.I (by omega)]; exact k13 p hp
      · intro p hp; rw [F5.I (by omega)]; exact k15 p hp
      · intro p hp; rw [F5.I (by omega)]; exact k16 p hp
    have F6 : Fz (Scy c) h g2 := F.tr (F5.sub (fun a k q => by unfold Scy; omega))
    have le := fun d => r_lineEnd (l := l) (d := d) hS F6 R2 K2 f0
    generalize yEnd b n (yTh1 Y w x o v) s = Y' at *
    by_cases x : (yF Y').1 = 0
    · rw [if_pos x]
      refine go_aloadn dX3_thingLine_166 rfl ?_
      refine sg_rVi (M' := mX3_lineEnd) ([]) dX3_thingLine_167 lX3_153 vX3_lineEnd (rd_L rfl) (by decide) rfl hS ((le _)) rfl (Nat.le_of_ble_eq_true rfl) (Nat.zero_le _) (Nat.zero_le _) (fun g4 G => ?_)
      rw [if_pos x]
      refine go_ireturn dX3_thingLine_170 rfl rfl (Nat.zero_le _) (Nat.zero_le _) ?_
      exact ⟨rfl, G⟩
    · rw [if_neg x]
      refine go_aloadn dX3_thingLine_166 rfl ?_
      refine sg_rVi (M' := mX3_lineEnd) ([]) dX3_thingLine_167 lX3_153 vX3_lineEnd (rd_L rfl) (by decide) rfl hS ((le _)) rfl (Nat.le_of_ble_eq_true rfl) (Nat.zero_le _) (Nat.zero_le _) (fun g4 G => ?_)
      rw [if_neg x]
      refine go_ireturn dX3_thingLine_170 rfl rfl (Nat.zero_le _) (Nat.zero_le _) ?_
      exact ⟨rfl, G⟩
  refine go_aloadn dX3_thingLine_153 rfl ?_
  refine sg_getR dX3_thingLine_154 fX3_29 rfl (rd_L rfl) hS hC ?_
  refine go_dup dX3_thingLine_157 rfl ?_
  refine sg_getI dX3_thingLine_158 fX3_172 rfl (ct_L hc) hS ?_
  refine go_iconst (v := 1) dX3_thingLine_161 rfl ?_
  refine go_iadd dX3_thingLine_162 ?_
  rw [e1, nI_1]
  refine sg_putI dX3_thingLine_163 fX3_172 rfl rfl (ct_L hc) hS ?_
  exact fin _ rfl
theorem KY.by0 {h : Hp} {c : Nat} {R : Ry} (K : KY h c R) (hB : tB (yT R) (cN (yC R)) = -1) : KY h c (yBy R (-1)) := by
  obtain ⟨k1, k3, k9, k10, k11, k12, k13, k14, k15, k16⟩ := K
  refine ⟨k1, k3, k9, k10, k11, k12, fun t ht => ?_, k14, k15, k16⟩
  show hI h (c + 8) t = upd (tB (yT R)) (cN (yC R)) (-1) t
  by_cases q : t = cN (yC R)
  · rw [q, pk_us, ← hB, ← q]; exact k13 t ht
  · rw [pk_un q]; exact k13 t ht
theorem on_2 {b : Nat → Nat} {n s m : Nat} (h : onF b n s m = 0) : tkK b n s = 2 ∧ nvT b n s < m := by
  unfold onF at h
  by_cases z : tkK b n s = 2
  · rw [if_pos z] at h
    by_cases q : 4 < tkE b n s - s
    · rw [if_pos q] at h; exact absurd h (by decide)
    · rw [if_neg q] at h
      by_cases x : m ≤ nvT b n s
      · rw [if_pos x] at h; exact absurd h (by decide)
      · exact ⟨z, by omega⟩
  · rw [if_neg z] at h; exact absurd h (by decide)
theorem r_th79 {l : Launch} {d n c N w x s3 : Nat} {b : Nat → Nat} {h g : Hp} {Y : Ry} (hS : St g) (R : RC g b n s3) (K : KY g c Y) (F : Fz (Scy c) h g) (f0 : (yF Y).1 = 0) (hN' : cN (yC Y) = N) (N8 : N < 10) (hP : cP (yC Y) ≤ 8) (hB : tB (yT Y) (cN (yC Y)) = -1) (k2 : tkK b n s3 = 2) (v1 : hI g (c + 5) N = nI w) (v2 : hI g (c + 6) N = nI x) : Go l (rmOf (d + 8) (0, 0)) mX3_thingLine (hN h) (Zm (0, 0) (fun v0 h1 => v0 = some (.int (if (yF (yTh2 b n w x s3 Y)).1 = 0 then 1 else 0)) ∧ CK h h1 c b n (yTh2 b n w x s3 Y)) noX) 79 [some (.ref 3), some (.int (nI N))] [] g 0 0 := by
  have hc := K.1.2
  have hC := K.1.1
  have hc' := at_c hc
  have e5 := (R.2.2.2.2.2 k2).1
  have nl := nvT_lt k2
  have F5 : Fz (fun a k => (a = c + 5 ∨ a = c + 6 ∨ a = c + 7) ∧ k = N) g (uI g (c + 7) N (nI (nvT b n s3))) := Fz.rf.uI ⟨Or.inr (Or.inr rfl), rfl⟩
  have v3 : hI (uI g (c + 7) N (nI (nvT b n s3))) (c + 7) N = nI (nvT b n s3) := hI_uI_eq
  have w1 : hI (uI g (c + 7) N (nI (nvT b n s3))) (c + 5) N = nI w := by rw [hI_uI_ne (by omega)]; exact v1
  have w2 : hI (uI g (c + 7) N (nI (nvT b n s3))) (c + 6) N = nI x := by rw [hI_uI_ne (by omega)]; exact v2
  refine go_aloadn dX3_thingLine_79 rfl ?_
  refine sg_getR dX3_thingLine_80 fX3_29 rfl (rd_L rfl) hS hC ?_
  refine sg_getR dX3_thingLine_83 fX3_184 rfl (ct_L hc) hS (ct_r10 hS hc) ?_
  refine go_iloadn dX3_thingLine_86 rfl ?_
  refine go_aloadn dX3_thingLine_87 rfl ?_
  refine sg_getI dX3_thingLine_88 fX3_77 rfl (rd_L rfl) hS ?_
  rw [e5]
  refine sg_iastN (i := N) dX3_thingLine_91 (ct_10 hc) hS (by simp only [lit_nI, nI_add, pk_mul, Nat.add_assoc, Nat.zero_add, Nat.add_zero]) (by omega) ?_
  skip
  generalize uI g (c + 7) N (nI (nvT b n s3)) = g1 at *
  have F := F.tr (F5.sub (fun a k q => show Scy c a k by unfold Scy; omega))
  have K := K.th hN' F5
  have R := R.fz F5 (fun k => by omega) (fun k hk => by omega)
  have hS := F5.St hS
  clear F5 e5
  have nxt := fun d => r_nextR (l := l) (d := d) hS R
  have fin : ∀ g2, Fz SN4 g1 g2 ∧ RC g2 b n (nx b n s3) → Go l (rmOf (d + 8) (0, 0)) mX3_thingLine (hN h) (Zm (0, 0) (fun v0 h1 => v0 = some (.int (if (yF (yTh2 b n w x s3 Y)).1 = 0 then 1 else 0)) ∧ CK h h1 c b n (yTh2 b n w x s3 Y)) noX) 96 [some (.ref 3), some (.int (nI N))] [] g2 0 0 := by
    intro g2 G
    have hS := G.1.St hS
    have K2 := K.fz G.1 (R' := Y) rfl
    have F2 := F.tr (G.1.sub (fun _ _ q => show Scy c _ _ from q.sf.sc))
    have x1 : hI g2 (c + 5) N = nI w := by rw [G.1.I (by unfold SN4; omega)]; exact w1
    have x2 : hI g2 (c + 6) N = nI x := by rw [G.1.I (by unfold SN4; omega)]; exact w2
    have x3 : hI g2 (c + 7) N = nI (nvT b n s3) := by rw [G.1.I (by unfold SN4; omega)]; exact v3
    have iw := fun d => r_isWord (l := l) (d := d) (i := 5) hS G.2 (by decide) (by decide)
    rw [show tmT.getD 5 0 = 13 from rfl] at iw
    unfold yTh2
    by_cases z : kwN b n (nx b n s3) = 13
    · rw [if_pos z]
      rw [if_pos z] at iw
      have ip := fun d => r_nextIsPerson (l := l) (d := d) hS G.2 K2 (by omega)
      by_cases y : onF b n (nx b n (nx b n s3)) (cP (yC Y)) = 0
      · rw [if_pos y]
        rw [y, if_pos rfl] at ip
        obtain ⟨m2, m3⟩ := on_2 y
        have fi2 : ∀ g3, PF SFy g2 g3 b n (nx b n (nx b n s3)) 0 → Go l (rmOf (d + 8) (0, 0)) mX3_thingLine (hN h) (Zm (0, 0) (fun v0 h1 => v0 = some (.int (if (yF (if nvT b n (nx b n (nx b n s3)) = nvT b n s3 then yFl Y (nx b n (nx b n s3)) 4 else yEnd b n (yTh1 Y w x (nvT b n s3) (nI (nvT b n (nx b n (nx b n s3))))) (nx b n (nx b n (nx b n s3))))).1 = 0 then 1 else 0)) ∧ CK h h1 c b n (if nvT b n (nx b n (nx b n s3)) = nvT b n s3 then yFl Y (nx b n (nx b n s3)) 4 else yEnd b n (yTh1 Y w x (nvT b n s3) (nI (nvT b n (nx b n (nx b n s3))))) (nx b n (nx b n (nx b n s3))))) noX) 114 [some (.ref 3), some (.int (nI N))] [] g3 0 0 := by
          intro g3 P
          obtain ⟨P1, P2⟩ := P.2.1 rfl
          have hS := P1.St hS
          have hC : hR g3 3 7 = some c := by rw [P1.1]; exact K2.1.1
          have K3 := K2.fz P1 (R' := Y) rfl
          have F3 := F2.tr (P1.sub (fun _ _ q => show Scy c _ _ from q.sf.sc))
          have y1 : hI g3 (c + 5) N = nI w := by rw [P1.I (by unfold SN4; omega)]; exact x1
          have y2 : hI g3 (c + 6) N = nI x := by rw [P1.I (by unfold SN4; omega)]; exact x2
          have y3 : hI g3 (c + 7) N = nI (nvT b n s3) := by rw [P1.I (by unfold SN4; omega)]; exact x3
          have e5 := (P2.2.2.2.2.2 m2).1
          generalize nx b n (nx b n s3) = t at *
          by_cases q : nvT b n t = nvT b n s3
          · rw [if_pos q, yFl_f, if_neg (by decide)]
            refine go_aloadn dX3_thingLine_114 rfl ?_
            refine sg_getI dX3_thingLine_115 fX3_77 rfl (rd_L rfl) hS ?_
            rw [e5]
            refine go_aloadn dX3_thingLine_118 rfl ?_
            refine sg_getR dX3_thingLine_119 fX3_29 rfl (rd_L rfl) hS hC ?_
            refine sg_getR dX3_thingLine_122 fX3_184 rfl (ct_L hc) hS (ct_r10 hS hc) ?_
            refine go_iloadn dX3_thingLine_125 rfl ?_
            refine sg_ialdN (i := N) (x := nI (nvT b n s3)) dX3_thingLine_126 (ct_10 hc) hS (by simp only [lit_nI, nI_add, pk_mul, Nat.add_assoc, Nat.zero_add, Nat.add_zero]) (by omega) (y3) ?_
            refine go_icmp_ne (tgt := 136) dX3_thingLine_127 (by decide) (fun c127 => absurd (by rw [q]) c127) (fun c127 => ?_)
            refine go_aloadn dX3_thingLine_130 rfl ?_
            refine go_iconst (v := 4) dX3_thingLine_131 rfl ?_
            refine sg_cVi (M' := mX3_fail) ([.int (nI 4)]) dX3_thingLine_132 lX3_131 vX3_fail (rd_L rfl) (by decide) rfl hS (r_failR hS P2 (by decide)) rfl (Nat.le_of_ble_eq_true rfl) (Nat.zero_le _) (Nat.zero_le _) ?_
            refine go_ireturn dX3_thingLine_135 rfl rfl (Nat.zero_le _) (Nat.zero_le _) ?_
            exact ⟨rfl, ck_fl F3 (by decide)⟩
          · rw [if_neg q]
            have F5 : Fz (fun a k => a = c + 8 ∧ k = N) g3 (uI g3 (c + 8) N (nI (nvT b n t))) := Fz.rf.uI ⟨rfl, rfl⟩
            have v4 : hI (uI g3 (c + 8) N (nI (nvT b n t))) (c + 8) N = nI (nvT b n t) := hI_uI_eq
            have fi3 : ∀ g4, g4 = uI g3 (c + 8) N (nI (nvT b n t)) → Go l (rmOf (d + 8) (0, 0)) mX3_thingLine (hN h) (Zm (0, 0) (fun v0 h1 => v0 = some (.int (if (yF (yEnd b n (yTh1 Y w x (nvT b n s3) (nI (nvT b n t))) (nx b n t))).1 = 0 then 1 else 0)) ∧ CK h h1 c b n (yEnd b n (yTh1 Y w x (nvT b n s3) (nI (nvT b n t))) (nx b n t))) noX) 149 [some (.ref 3), some (.int (nI N))] [] g4 0 0 := by
              intro g4 hg
              rw [← hg] at F5 v4
              have hS := F5.St hS
              have R4 := P2.fz F5 (fun k => by omega) (fun k hk => by omega)
              have K4 : KY g4 c (yBy Y (nI (nvT b n t))) := by
                obtain ⟨⟨k1, k2⟩, ⟨k3, k4, k5, k6, k7, k8⟩, ⟨k9, k9a, k9b, k9c, k9d⟩, k10, k11, k12, k13, ⟨k14, k14a, k14b, k14c⟩, k15, k16⟩ := K3
                refine ⟨⟨by rw [F5.1]; exact k1, k2⟩, ⟨by rw [F5.I (by omega)]; exact k3, k4, by rw [F5.I (by omega)]; exact k5, k6, by rw [F5.I (by omega)]; exact k7, by rw [F5.I (by omega)]; exact k8⟩, ⟨by rw [F5.I (by omega)]; exact k9, by rw [F5.I (by omega)]; exact k9a, by rw [F5.I (by omega)]; exact k9b, by rw [F5.I (by omega)]; exact k9c, by rw [F5.I (by omega)]; exact k9d⟩, ?_, ?_, ?_, ?_, ⟨by rw [F5.I (by omega)]; exact k14, by rw [F5.I (by omega)]; exact k14a, by rw [F5.I (by omega)]; exact k14b, by rw [F5.I (by omega)]; exact k14c⟩, ?_, ?_⟩
                · intro p hp; rw [F5.I (by omega), F5.I (by omega), F5.I (by omega)]; exact k10 p hp
                · intro p hp; rw [F5.I (by omega)]; exact k11 p hp
                · intro p hp; rw [F5.I (by omega), F5.I (by omega), F5.I (by omega)]; exact k12 p hp
                · intro p hp
                  show hI g4 (c + 8) p = upd (tB (yT Y)) (cN (yC Y)) (nI (nvT b n t)) p
                  rw [hN']
                  by_cases q : p = N
                  · rw [q, pk_us]; exact v4
                  · rw [pk_un q, F5.I (by omega)]; exact k13 p hp
                · intro p hp; rw [F5.I (by omega)]; exact k15 p hp
                · intro p hp; rw [F5.I (by omega)]; exact k16 p hp
              have F4 := F3.tr (F5.sub (fun a k q => show Scy c a k by unfold Scy; omega))
              have nxt := fun d => r_nextR (l := l) (d := d) hS R4
              refine go_aloadn dX3_thingLine_149 rfl ?_
              refine sg_rV0 (M' := mX3_next) ([]) dX3_thingLine_150 lX3_54 vX3_next (rd_L rfl) (by decide) rfl hS (nxt _) rfl (Nat.le_of_ble_eq_true rfl) (Nat.zero_le _) (Nat.zero_le _) (fun g5 G => ?_)
              exact r_th153 (G.1.St hS) G.2 (K4.fz G.1 rfl) (F4.tr (G.1.sub (fun _ _ q => q.sf.sc))) f0 hN' N8 (by rw [G.1.I (by unfold SN4; omega), F5.I (by omega)]; exact y1) (by rw [G.1.I (by unfold SN4; omega), F5.I (by omega)]; exact y2) (by rw [G.1.I (by unfold SN4; omega), F5.I (by omega)]; exact y3)
            have ml := nvT_lt m2
            refine go_aloadn dX3_thingLine_114 rfl ?_
            refine sg_getI dX3_thingLine_115 fX3_77 rfl (rd_L rfl) hS ?_
            rw [e5]
            refine go_aloadn dX3_thingLine_118 rfl ?_
            refine sg_getR dX3_thingLine_119 fX3_29 rfl (rd_L rfl) hS hC ?_
            refine sg_getR dX3_thingLine_122 fX3_184 rfl (ct_L hc) hS (ct_r10 hS hc) ?_
            refine go_iloadn dX3_thingLine_125 rfl ?_
            refine sg_ialdN (i := N) (x := nI (nvT b n s3)) dX3_thingLine_126 (ct_10 hc) hS (by simp only [lit_nI, nI_add, pk_mul, Nat.add_assoc, Nat.zero_add, Nat.add_zero]) (by omega) (y3) ?_
            refine go_icmp_ne (tgt := 136) dX3_thingLine_127 (by decide) (fun c127 => ?_) (fun c127 => absurd ((nI_eq (by omega) (by omega)).mp c127) q)
            refine go_aloadn dX3_thingLine_136 rfl ?_
            refine sg_getR dX3_thingLine_137 fX3_29 rfl (rd_L rfl) hS hC ?_
            refine sg_getR dX3_thingLine_140 fX3_189 rfl (ct_L hc) hS (ct_r11 hS hc) ?_
            refine go_iloadn dX3_thingLine_143 rfl ?_
            refine go_aloadn dX3_thingLine_144 rfl ?_
            refine sg_getI dX3_thingLine_145 fX3_77 rfl (rd_L rfl) hS ?_
            rw [e5]
            refine sg_iastN (i := N) dX3_thingLine_148 (ct_11 hc) hS (by simp only [lit_nI, nI_add, pk_mul, Nat.add_assoc, Nat.zero_add, Nat.add_zero]) (by omega) ?_
            exact fi3 _ rfl
        refine go_aloadn dX3_thingLine_96 rfl ?_
        refine go_ldcS (i := 5) rfl (by decide) rfl dX3_thingLine_97 ?_
        refine sg_cVi (M' := mX3_isWord) ([.ref (1001 + 5)]) dX3_thingLine_99 lX3_92 vX3_isWord (rd_L rfl) (by decide) rfl hS (iw _) rfl (Nat.le_of_ble_eq_true rfl) (Nat.zero_le _) (Nat.zero_le _) ?_
        refine go_if_eq (tgt := 153) dX3_thingLine_102 (by decide) (fun c102 => absurd c102 (by decide)) (fun c102 => ?_)
        refine go_aloadn dX3_thingLine_105 rfl ?_
        refine sg_rVi (M' := mX3_nextIsPerson) ([]) dX3_thingLine_106 lX3_181 vX3_nextIsPerson (rd_L rfl) (by decide) rfl hS (ip _) rfl (Nat.le_of_ble_eq_true rfl) (Nat.zero_le _) (Nat.zero_le _) (fun g3 P => ?_)
        refine go_if_ne (tgt := 114) dX3_thingLine_109 (by decide) (fun c109 => ?_) (fun c109 => absurd c109 (by decide))
        exact fi2 g3 P
      · rw [if_neg y, yFl_f, if_neg y]
        refine go_aloadn dX3_thingLine_96 rfl ?_
        refine go_ldcS (i := 5) rfl (by decide) rfl dX3_thingLine_97 ?_
        refine sg_cVi (M' := mX3_isWord) ([.ref (1001 + 5)]) dX3_thingLine_99 lX3_92 vX3_isWord (rd_L rfl) (by decide) rfl hS (iw _) rfl (Nat.le_of_ble_eq_true rfl) (Nat.zero_le _) (Nat.zero_le _) ?_
        refine go_if_eq (tgt := 153) dX3_thingLine_102 (by decide) (fun c102 => absurd c102 (by decide)) (fun c102 => ?_)
        refine go_aloadn dX3_thingLine_105 rfl ?_
        refine sg_rVi (M' := mX3_nextIsPerson) ([]) dX3_thingLine_106 lX3_181 vX3_nextIsPerson (rd_L rfl) (by decide) rfl hS (ip _) rfl (Nat.le_of_ble_eq_true rfl) (Nat.zero_le _) (Nat.zero_le _) (fun g3 P => ?_)
        rw [if_neg y]
        refine go_if_ne (tgt := 114) dX3_thingLine_109 (by decide) (fun c109 => absurd rfl c109) (fun c109 => ?_)
        refine go_iconst (v := 0) dX3_thingLine_112 rfl ?_
        refine go_ireturn dX3_thingLine_113 rfl rfl (Nat.zero_le _) (Nat.zero_le _) ?_
        exact ⟨rfl, ck_pf F2 P y⟩
    · rw [if_neg z]
      rw [if_neg z] at iw
      refine go_aloadn dX3_thingLine_96 rfl ?_
      refine go_ldcS (i := 5) rfl (by decide) rfl dX3_thingLine_97 ?_
      refine sg_cVi (M' := mX3_isWord) ([.ref (1001 + 5)]) dX3_thingLine_99 lX3_92 vX3_isWord (rd_L rfl) (by decide) rfl hS (iw _) rfl (Nat.le_of_ble_eq_true rfl) (Nat.zero_le _) (Nat.zero_le _) ?_
      refine go_if_eq (tgt := 153) dX3_thingLine_102 (by decide) (fun c102 => ?_) (fun c102 => absurd rfl c102)
      exact r_th153 hS G.2 (K2.by0 hB) F2 f0 hN' N8 x1 x2 x3
  refine go_aloadn dX3_thingLine_92 rfl ?_
  refine sg_rV0 (M' := mX3_next) ([]) dX3_thingLine_93 lX3_54 vX3_next (rd_L rfl) (by decide) rfl hS (nxt _) rfl (Nat.le_of_ble_eq_true rfl) (Nat.zero_le _) (Nat.zero_le _) (fun g2 G => ?_)
  exact fin g2 G
theorem r_thingLine {l : Launch} {d n c : Nat} {b : Nat → Nat} {h : Hp} {Y : Ry} (hS : St h) (R : RC h b n (yS Y)) (K : KY h c Y) (f0 : (yF Y).1 = 0) (hP : cP (yC Y) ≤ 8) (hN' : cN (yC Y) ≤ 10) (hB : tB (yT Y) (cN (yC Y)) = -1) : Ey l (d + 8) mX3_thingLine [.ref 3] h (some (.int (if (yF (yThing b n Y)).1 = 0 then 1 else 0))) (fun g => CK h g c b n (yThing b n Y)) := by
  refine run_lv [some (.ref 3), none] (go := ?_)
  have hc := K.1.2
  have hC := K.1.1
  have hc' := at_c hc
  have e1 := K.2.2.1.2.2.1
  have hS0 := hS
  unfold yThing
  by_cases z : 10 ≤ cN (yC Y)
  · rw [if_pos z, yFl_f, if_neg (by decide)]
    refine go_aloadn dX3_thingLine_0 rfl ?_
    refine sg_getR dX3_thingLine_1 fX3_29 rfl (rd_L rfl) hS hC ?_
    refine sg_getI dX3_thingLine_4 fX3_172 rfl (ct_L hc) hS ?_
    rw [e1]
    refine go_ist1 dX3_thingLine_7 rfl ?_
    refine go_iloadn dX3_thingLine_8 rfl ?_
    refine go_bipush (v := 10) dX3_thingLine_9 rfl ?_
    refine go_icmp_lt (tgt := 20) dX3_thingLine_11 (by decide) (fun c11 => absurd c11 (nI_nlt (b := 10) z (by omega))) (fun c11 => ?_)
    refine go_aloadn dX3_thingLine_14 rfl ?_
    refine go_iconst (v := 2) dX3_thingLine_15 rfl ?_
    refine sg_cVi (M' := mX3_fail) ([.int (nI 2)]) dX3_thingLine_16 lX3_131 vX3_fail (rd_L rfl) (by decide) rfl hS (r_failR hS R (by decide)) rfl (Nat.le_of_ble_eq_true rfl) (Nat.zero_le _) (Nat.zero_le _) ?_
    refine go_ireturn dX3_thingLine_19 rfl rfl (Nat.zero_le _) (Nat.zero_le _) ?_
    exact ⟨rfl, ck_fl Fz.rf (by decide)⟩
  · rw [if_neg z]
    have wi := fun d => r_nextIsWithin (l := l) (d := d) (lo := 1) (hi := 30) hS R (by decide) (by decide)
    by_cases y : nmF b n (nx b n (yS Y)) 1 30 = 0
    · rw [if_pos y]
      rw [y, if_pos rfl] at wi
      obtain ⟨k2, -, -⟩ := nm_2 y
      generalize hs1 : nx b n (yS Y) = s1 at *
      generalize hYY : (if nmF b n (nx b n s1) 0 9 = 0 then (if onF b n (nx b n (nx b n s1)) (cP (yC Y)) = 0 then yTh2 b n (nvT b n s1) (nvT b n (nx b n s1)) (nx b n (nx b n s1)) Y else yFl Y (nx b n (nx b n s1)) (onF b n (nx b n (nx b n s1)) (cP (yC Y)))) else yFl Y (nx b n s1) (nmF b n (nx b n s1) 0 9)) = YY
      have fin : ∀ g, PF SFy h g b n s1 0 → Go l (rmOf (d + 8) (0, 0)) mX3_thingLine (hN h) (Zm (0, 0) (fun v0 h1 => v0 = some (.int (if (yF YY).1 = 0 then 1 else 0)) ∧ CK h h1 c b n YY) noX) 32 [some (.ref 3), some (.int (nI (cN (yC Y))))] [] g 0 0 := by
        intro g P
        obtain ⟨F4, R1⟩ := P.2.1 rfl
        have hS := F4.St hS
        have hC : hR g 3 7 = some c := by rw [F4.1]; exact hC
        have K1 := K.fz F4 (R' := Y) rfl
        have e5 := (R1.2.2.2.2.2 k2).1
        have F1 := P.1.sub (fun _ _ q => show Scy c _ _ from q.sc)
        generalize hNN : cN (yC Y) = N at *
        have F5 : Fz (fun a k => (a = c + 5 ∨ a = c + 6 ∨ a = c + 7) ∧ k = N) g (uI g (c + 5) N (nI (nvT b n s1))) := Fz.rf.uI ⟨Or.inl rfl, rfl⟩
        have v1 : hI (uI g (c + 5) N (nI (nvT b n s1))) (c + 5) N = nI (nvT b n s1) := hI_uI_eq
        refine go_aloadn dX3_thingLine_32 rfl ?_
        refine sg_getR dX3_thingLine_33 fX3_29 rfl (rd_L rfl) hS hC ?_
        refine sg_getR dX3_thingLine_36 fX3_175 rfl (ct_L hc) hS (ct_r8 hS hc) ?_
        refine go_iloadn dX3_thingLine_39 rfl ?_
        refine go_aloadn dX3_thingLine_40 rfl ?_
        refine sg_getI dX3_thingLine_41 fX3_77 rfl (rd_L rfl) hS ?_
        rw [e5]
        refine sg_iastN (i := N) dX3_thingLine_44 (ct_8 hc) hS (by simp only [lit_nI, nI_add, pk_mul, Nat.add_assoc, Nat.zero_add, Nat.add_zero]) (by omega) ?_
        skip
        generalize uI g (c + 5) N (nI (nvT b n s1)) = g2 at *
        have hS := F5.St hS
        have R2 := R1.fz F5 (fun k => by omega) (fun k hk => by omega)
        have K2 := K1.th hNN F5
        have F2 := F1.tr (F5.sub (fun a k q => show Scy c a k by unfold Scy; omega))
        have wi := fun d => r_nextIsWithin (l := l) (d := d) (lo := 0) (hi := 9) hS R2 (by decide) (by decide)
        rw [← hYY]
        clear hYY
        by_cases y2 : nmF b n (nx b n s1) 0 9 = 0
        · rw [if_pos y2]
          rw [y2, if_pos rfl] at wi
          obtain ⟨k3, -, -⟩ := nm_2 y2
          generalize nx b n s1 = s2 at *
          have fi2 : ∀ g3, PF SFy g2 g3 b n s2 0 → Go l (rmOf (d + 8) (0, 0)) mX3_thingLine (hN h) (Zm (0, 0) (fun v0 h1 => v0 = some (.int (if (yF (if onF b n (nx b n s2) (cP (yC Y)) = 0 then yTh2 b n (nvT b n s1) (nvT b n s2) (nx b n s2) Y else yFl Y (nx b n s2) (onF b n (nx b n s2) (cP (yC Y))))).1 = 0 then 1 else 0)) ∧ CK h h1 c b n (if onF b n (nx b n s2) (cP (yC Y)) = 0 then yTh2 b n (nvT b n s1) (nvT b n s2) (nx b n s2) Y else yFl Y (nx b n s2) (onF b n (nx b n s2) (cP (yC Y))))) noX) 57 [some (.ref 3), some (.int (nI N))] [] g3 0 0 := by
            intro g3 P
            obtain ⟨F4, R3⟩ := P.2.1 rfl
            have hS := F4.St hS
            have K3 := K2.fz F4 (R' := Y) rfl
            have hC := K3.1.1
            have e5 := (R3.2.2.2.2.2 k3).1
            have F3 := F2.tr (P.1.sub (fun _ _ q => show Scy c _ _ from q.sc))
            have w1 : hI g3 (c + 5) N = nI (nvT b n s1) := by rw [F4.I (by unfold SN4; omega)]; exact v1
            have F5 : Fz (fun a k => (a = c + 5 ∨ a = c + 6 ∨ a = c + 7) ∧ k = N) g3 (uI g3 (c + 6) N (nI (nvT b n s2))) := Fz.rf.uI ⟨Or.inr (Or.inl rfl), rfl⟩
            have x1 : hI (uI g3 (c + 6) N (nI (nvT b n s2))) (c + 5) N = nI (nvT b n s1) := by rw [hI_uI_ne (by omega)]; exact w1
            have x2 : hI (uI g3 (c + 6) N (nI (nvT b n s2))) (c + 6) N = nI (nvT b n s2) := hI_uI_eq
            refine go_aloadn dX3_thingLine_57 rfl ?_
            refine sg_getR dX3_thingLine_58 fX3_29 rfl (rd_L rfl) hS hC ?_
            refine sg_getR dX3_thingLine_61 fX3_178 rfl (ct_L hc) hS (ct_r9 hS hc) ?_
            refine go_iloadn dX3_thingLine_64 rfl ?_
            refine go_aloadn dX3_thingLine_65 rfl ?_
            refine sg_getI dX3_thingLine_66 fX3_77 rfl (rd_L rfl) hS ?_
            rw [e5]
            refine sg_iastN (i := N) dX3_thingLine_69 (ct_9 hc) hS (by simp only [lit_nI, nI_add, pk_mul, Nat.add_assoc, Nat.zero_add, Nat.add_zero]) (by omega) ?_
            skip
            generalize uI g3 (c + 6) N (nI (nvT b n s2)) = g4 at *
            have hS := F5.St hS
            have R4 := R3.fz F5 (fun k => by omega) (fun k hk => by omega)
            have K4 := K3.th hNN F5
            have F4' := F3.tr (F5.sub (fun a k q => show Scy c a k by unfold Scy; omega))
            have ip := fun d => r_nextIsPerson (l := l) (d := d) hS R4 K4 (by omega)
            by_cases y3 : onF b n (nx b n s2) (cP (yC Y)) = 0
            · rw [if_pos y3]
              rw [y3, if_pos rfl] at ip
              obtain ⟨k4, -⟩ := on_2 y3
              refine go_aloadn dX3_thingLine_70 rfl ?_
              refine sg_rVi (M' := mX3_nextIsPerson) ([]) dX3_thingLine_71 lX3_181 vX3_nextIsPerson (rd_L rfl) (by decide) rfl hS (ip _) rfl (Nat.le_of_ble_eq_true rfl) (Nat.zero_le _) (Nat.zero_le _) (fun g5 P => ?_)
              refine go_if_ne (tgt := 79) dX3_thingLine_74 (by decide) (fun c74 => ?_) (fun c74 => absurd c74 (by decide))
              exact r_th79 ((P.2.1 rfl).1.St hS) (P.2.1 rfl).2 (K4.fz (P.2.1 rfl).1 rfl) (F4'.tr (P.1.sub (fun _ _ q => q.sc))) f0 hNN (by omega) hP (by rw [hNN]; exact hB) k4 (by rw [(P.2.1 rfl).1.I (by unfold SN4; omega)]; exact x1) (by rw [(P.2.1 rfl).1.I (by unfold SN4; omega)]; exact x2)
            · rw [if_neg y3, yFl_f, if_neg y3]
              refine go_aloadn dX3_thingLine_70 rfl ?_
              refine sg_rVi (M' := mX3_nextIsPerson) ([]) dX3_thingLine_71 lX3_181 vX3_nextIsPerson (rd_L rfl) (by decide) rfl hS (ip _) rfl (Nat.le_of_ble_eq_true rfl) (Nat.zero_le _) (Nat.zero_le _) (fun g5 P => ?_)
              rw [if_neg y3]
              refine go_if_ne (tgt := 79) dX3_thingLine_74 (by decide) (fun c74 => absurd rfl c74) (fun c74 => ?_)
              refine go_iconst (v := 0) dX3_thingLine_77 rfl ?_
              refine go_ireturn dX3_thingLine_78 rfl rfl (Nat.zero_le _) (Nat.zero_le _) ?_
              exact ⟨rfl, ck_pf F4' P y3⟩
          refine go_aloadn dX3_thingLine_45 rfl ?_
          refine go_iconst (v := 0) dX3_thingLine_46 rfl ?_
          refine go_bipush (v := 9) dX3_thingLine_47 rfl ?_
          refine sg_rVi (M' := mX3_nextIsWithin) ([.int (nI 0), .int (nI 9)]) dX3_thingLine_49 lX3_147 vX3_nextIsWithin (rd_L rfl) (by decide) rfl hS (wi _) rfl (Nat.le_of_ble_eq_true rfl) (Nat.zero_le _) (Nat.zero_le _) (fun g3 P => ?_)
          refine go_if_ne (tgt := 57) dX3_thingLine_52 (by decide) (fun c52 => ?_) (fun c52 => absurd c52 (by decide))
          exact fi2 g3 P
        · rw [if_neg y2, yFl_f, if_neg y2]
          refine go_aloadn dX3_thingLine_45 rfl ?_
          refine go_iconst (v := 0) dX3_thingLine_46 rfl ?_
          refine go_bipush (v := 9) dX3_thingLine_47 rfl ?_
          refine sg_rVi (M' := mX3_nextIsWithin) ([.int (nI 0), .int (nI 9)]) dX3_thingLine_49 lX3_147 vX3_nextIsWithin (rd_L rfl) (by decide) rfl hS (wi _) rfl (Nat.le_of_ble_eq_true rfl) (Nat.zero_le _) (Nat.zero_le _) (fun g3 P => ?_)
          rw [if_neg y2]
          refine go_if_ne (tgt := 57) dX3_thingLine_52 (by decide) (fun c52 => absurd rfl c52) (fun c52 => ?_)
          refine go_iconst (v := 0) dX3_thingLine_55 rfl ?_
          refine go_ireturn dX3_thingLine_56 rfl rfl (Nat.zero_le _) (Nat.zero_le _) ?_
          exact ⟨rfl, ck_pf F2 P y2⟩
      refine go_aloadn dX3_thingLine_0 rfl ?_
      refine sg_getR dX3_thingLine_1 fX3_29 rfl (rd_L rfl) hS hC ?_
      refine sg_getI dX3_thingLine_4 fX3_172 rfl (ct_L hc) hS ?_
      rw [e1]
      refine go_ist1 dX3_thingLine_7 rfl ?_
      refine go_iloadn dX3_thingLine_8 rfl ?_
      refine go_bipush (v := 10) dX3_thingLine_9 rfl ?_
      refine go_icmp_lt (tgt := 20) dX3_thingLine_11 (by decide) (fun c11 => ?_) (fun c11 => absurd (nI_lt (b := 10) (by omega) (by omega)) c11)
      refine go_aloadn dX3_thingLine_20 rfl ?_
      refine go_iconst (v := 1) dX3_thingLine_21 rfl ?_
      refine go_bipush (v := 30) dX3_thingLine_22 rfl ?_
      refine sg_rVi (M' := mX3_nextIsWithin) ([.int (nI 1), .int (nI 30)]) dX3_thingLine_24 lX3_147 vX3_nextIsWithin (rd_L rfl) (by decide) rfl hS (wi _) rfl (Nat.le_of_ble_eq_true rfl) (Nat.zero_le _) (Nat.zero_le _) (fun g P => ?_)
      refine go_if_ne (tgt := 32) dX3_thingLine_27 (by decide) (fun c27 => ?_) (fun c27 => absurd c27 (by decide))
      exact fin g P
    · rw [if_neg y, yFl_f, if_neg y]
      refine go_aloadn dX3_thingLine_0 rfl ?_
      refine sg_getR dX3_thingLine_1 fX3_29 rfl (rd_L rfl) hS hC ?_
      refine sg_getI dX3_thingLine_4 fX3_172 rfl (ct_L hc) hS ?_
      rw [e1]
      refine go_ist1 dX3_thingLine_7 rfl ?_
      refine go_iloadn dX3_thingLine_8 rfl ?_
      refine go_bipush (v := 10) dX3_thingLine_9 rfl ?_
      refine go_icmp_lt (tgt := 20) dX3_thingLine_11 (by decide) (fun c11 => ?_) (fun c11 => absurd (nI_lt (b := 10) (by omega) (by omega)) c11)
      refine go_aloadn dX3_thingLine_20 rfl ?_
      refine go_iconst (v := 1) dX3_thingLine_21 rfl ?_
      refine go_bipush (v := 30) dX3_thingLine_22 rfl ?_
      refine sg_rVi (M' := mX3_nextIsWithin) ([.int (nI 1), .int (nI 30)]) dX3_thingLine_24 lX3_147 vX3_nextIsWithin (rd_L rfl) (by decide) rfl hS (wi _) rfl (Nat.le_of_ble_eq_true rfl) (Nat.zero_le _) (Nat.zero_le _) (fun g P => ?_)
      rw [if_neg y]
      refine go_if_ne (tgt := 32) dX3_thingLine_27 (by decide) (fun c27 => absurd rfl c27) (fun c27 => ?_)
      refine go_iconst (v := 0) dX3_thingLine_30 rfl ?_
      refine go_ireturn dX3_thingLine_31 rfl rfl (Nat.zero_le _) (Nat.zero_le _) ?_
      exact ⟨rfl, ck_pf Fz.rf P y⟩
