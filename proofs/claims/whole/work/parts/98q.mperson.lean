/-! the model reads a person -/
def yPer3 (b : Nat → Nat) (n bl s : Nat) (R : Ry) : Ry := if nmF b n s 0 9 = 0 then yPer2 b n bl (nvT b n s) R (wkR b n (cL (yC R)) (6 * cP (yC R)) 6 0 (nx b n s) (tW (yT R))) else yFl R s (nmF b n s 0 9)
theorem Fz.ln {S : Nat → Nat → Prop} {h g : Hp} (F : Fz S h g) (hs : ∀ a k, S a k → SLn a k) : Fj SLn h g := F.j.sub hs
theorem q_rp141 {l : Launch} {d n bl v s i P : Nat} {b : Nat → Nat} {h g : Hp} {Y : Ry} {W : Nat → Int32} (hS : St g) (F : Fj SLn h g) (R : RM g b n s (0, 0)) (M : MY g (yWk Y W)) (hP : cP (yC Y) = P) (P8 : P < 8) (i6 : i ≤ 6) (f0 : (yF Y).1 = 0) (v1 : hI g 86 (49 + P) = nI v) (v2 : hI g 86 (41 + P) = 0) (v3 : hI g 89 P = nI bl) : Go l (rmOf (d + 4) (0, 0)) mX10_readsPerson (hN h) (Zm (0, 0) (fun v0 h1 => v0 = none ∧ LBm h h1 b n (yPer2 b n bl v Y (0, s, i, W))) noX) 141 [some (.ref 77), some (.int (nI bl)), some (.int (nI P)), some (.int (nI i)), some (.int 0)] [] g 0 0 := by
  have gd : hI g 77 13 = 0 := R.good.mpr rfl
  have e25 := M.1.2.1
  rw [show cP (yC (yWk Y W)) = P from hP] at e25
  have F1 : Fz (fun a k => (a = 84 ∧ k = P) ∨ (a = 77 ∧ k = 25)) g (uI (uI g 84 P (nI i)) 77 25 (nI (P + 1))) := (Fz.rf.uI (by omega)).uI (by omega)
  have w1 : hI (uI (uI g 84 P (nI i)) 77 25 (nI (P + 1))) 84 P = nI i := by rw [hI_uI_ne (by omega), hI_uI_eq]
  have w2 : hI (uI (uI g 84 P (nI i)) 77 25 (nI (P + 1))) 77 25 = nI (P + 1) := hI_uI_eq
  have post : ∀ g2, g2 = uI (uI g 84 P (nI i)) 77 25 (nI (P + 1)) → LBm h g2 b n (yPer2 b n bl v Y (0, s, i, W)) := by
    intro g2 hg
    rw [← hg] at F1 w1 w2
    refine ⟨F.tr (F1.ln (fun a k q => by unfold SLn; omega)), Or.inl ⟨yPer1 Y bl v (0, s, i, W), s, rfl, f0, R.fz F1 (fun k hk => by omega) (fun k => by omega), ?_⟩⟩
    obtain ⟨⟨m1, m2, m3, m4, m5, m6, m7⟩, m8, m9, m10, m11, m12, m13⟩ := M
    have e87 : hI g2 87 = hI g 87 := funext fun k => F1.I (by omega)
    refine ⟨⟨by rw [F1.I (by omega)]; exact m1, by rw [w2]; show _ = nI (cP (yC Y) + 1); rw [hP], by rw [F1.I (by omega)]; exact m3, by rw [F1.I (by omega)]; exact m4, by rw [F1.I (by omega)]; exact m5, by rw [F1.I (by omega)]; exact m6, by rw [F1.I (by omega)]; exact m7⟩, fun p hp => ?_, fun j hj => by rw [F1.I (by omega)]; exact m9 j hj, fun t ht => ?_, by rw [F1.I (by omega)]; exact m11, by rw [e87]; exact m12, by rw [e87]; exact m13⟩
    · have hp : p < P + 1 := by rw [← hP]; exact hp
      show hI g2 84 p = nI (updN (cWl (yC Y)) (cP (yC Y)) i p) ∧ hI g2 89 p = upd (cBl (yC Y)) (cP (yC Y)) (nI bl) p ∧ hI g2 86 (49 + p) = upd (tV (yT Y)) (cP (yC Y)) (nI v) p ∧ hI g2 86 (41 + p) = 0
      rw [hP]
      by_cases q : p = P
      · subst q
        rw [pk_us, pk_us, updN, if_pos rfl, w1, F1.I (by omega), F1.I (by omega), F1.I (by omega)]; exact ⟨rfl, v3, v1, v2⟩
      · rw [pk_un q, pk_un q, updN, if_neg q, F1.I (by omega), F1.I (by omega), F1.I (by omega), F1.I (by omega)]
        exact m8 p (by show p < cP (yC Y); omega)
    · rw [F1.I (by omega), F1.I (by omega), F1.I (by omega), F1.I (by omega), F1.I (by omega)]; exact m10 t ht
  have S1 : St (uI g 84 P (nI i)) := (Fz.rf.uI (S := fun _ _ => True) True.intro).St hS
  have ig := fun d => q_isGood (l := l) (d := d) S1
  rw [if_pos (by rw [hI_uI_ne (by omega)]; exact gd)] at ig
  refine go_aloadn dX10_readsPerson_141 rfl ?_
  refine sg_getR dX10_readsPerson_142 fX10_45 rfl (mo_L rfl) hS (mo_r35 hS rfl) ?_
  refine go_iloadn dX10_readsPerson_145 rfl ?_
  refine go_iloadn dX10_readsPerson_146 rfl ?_
  refine sg_iastN (i := P) dX10_readsPerson_147 (mo_35 rfl) hS (by simp only [lit_nI, nI_add, pk_mul, Nat.add_assoc, Nat.zero_add, Nat.add_zero]) (by omega) ?_
  have hS := S1
  refine go_aloadn dX10_readsPerson_148 rfl ?_
  refine sg_cVi (M' := mX10_isGood) ([]) dX10_readsPerson_149 lX10_161 vX10_isGood (mo_L rfl) (by decide) rfl hS (ig _) rfl (Nat.le_of_ble_eq_true rfl) (Nat.zero_le _) (Nat.zero_le _) ?_
  refine go_if_eq (tgt := 165) dX10_readsPerson_152 (by decide) (fun c152 => absurd c152 (by decide)) (fun c152 => ?_)
  refine go_aloadn dX10_readsPerson_155 rfl ?_
  refine go_dup dX10_readsPerson_156 rfl ?_
  refine sg_getI dX10_readsPerson_157 fX10_224 rfl (mo_L rfl) hS ?_
  refine go_iconst (v := 1) dX10_readsPerson_160 rfl ?_
  refine go_iadd dX10_readsPerson_161 ?_
  rw [hI_uI_ne (by omega), e25, nI_1]
  refine sg_putI dX10_readsPerson_162 fX10_224 rfl rfl (mo_L rfl) hS ?_
  refine go_return dX10_readsPerson_165 rfl (Nat.zero_le _) (Nat.zero_le _) ?_
  exact ⟨rfl, post _ rfl⟩
theorem q_rp43 {l : Launch} {d n bl v P : Nat} {b : Nat → Nat} {h : Hp} {Y : Ry} (hS0 : St h) (f0 : (yF Y).1 = 0) (hP : cP (yC Y) = P) (P8 : P < 8) (hL : 2 ≤ cL (yC Y) ∧ cL (yC Y) ≤ 6) (h3 : yP Y = 0 → cL (yC Y) = 3) (hN10 : cN (yC Y) ≤ 10) : ∀ (k i s : Nat) (W : Nat → Int32) (g : Hp), i + k = 6 → (i = 0 ∨ tkK b n s = 2) → RM g b n s (0, 0) → MY g (yWk Y W) → Fj SLn h g → hI g 86 (49 + P) = nI v → hI g 86 (41 + P) = 0 → hI g 89 P = nI bl → Go l (rmOf (d + 4) (0, 0)) mX10_readsPerson (hN h) (Zm (0, 0) (fun v0 h1 => v0 = none ∧ LBm h h1 b n (yPer2 b n bl v Y (wkR b n (cL (yC Y)) (6 * P) k i s W))) noX) 43 [some (.ref 77), some (.int (nI bl)), some (.int (nI P)), some (.int (nI i)), some (.int 1)] [] g 0 0 := by
  intro k
  induction k with
  | zero =>
    intro i s W g hk ht R M F v1 v2 v3
    have ei : i = 6 := by omega
    subst ei
    have ht : tkK b n s = 2 := ht.elim (fun q => absurd q (by decide)) id
    have hS := F.St hS0
    have gd : hI g 77 13 = 0 := R.good.mpr rfl
    have ig := fun d => q_isGood (l := l) (d := d) hS
    rw [if_pos gd] at ig
    have e18 : hI g 77 18 = 2 := by rw [R.2.1.2.1, ht]; rfl
    have e24 := M.1.1
    rw [show yP (yWk Y W) = yP Y from rfl, show cL (yC (yWk Y W)) = cL (yC Y) from rfl] at e24
    have Wr := R.wr (y := 2) (by decide) (by decide)
    rw [wrF, if_pos rfl] at Wr
    have wr := fun d => q_wrong (l := l) (d := d) (y := nI 2) hS
    generalize wrH g (nI 2) = g1 at *
    have S1 := Wr.2.St hS
    have e24' : hI g1 77 24 = if yP Y = 0 then -1 else nI (cL (yC Y)) := by rw [Wr.2.I (by unfold SGr; omega)]; exact e24
    have F1 : Fj SLn h g1 := F.tr (Wr.2.ln (fun _ _ q => q.ln))
    have go91 : ∀ m, m ≤ 100 → Go l (rmOf (d + 4) (0, 0)) mX10_readsPerson (hN h) (Zm (0, 0) (fun v0 h1 => v0 = none ∧ LBm h h1 b n (yPer2 b n bl v Y (wkR b n (cL (yC Y)) (6 * P) 0 6 s W))) noX) 91 [some (.ref 77), some (.int (nI bl)), some (.int (nI P)), some (.int (nI 6)), some (.int 1)] [.int (nI m), .ref 77] g1 0 0 := by
      intro m hm
      have io := fun d => q_isOneOf (l := l) (d := d) (m := m) S1 Wr.1 hm
      rw [if_neg (fun q => absurd q.1 (show ¬ (2 : Nat) = 0 by decide)), if_neg (fun q => absurd q.1 (show ¬ (2 : Nat) = 0 by decide))] at io
      have hS := S1
      refine sg_rVi (M' := mX10_isOneOf) ([.int (nI m)]) dX10_readsPerson_91 lX10_234 vX10_isOneOf (mo_L rfl) (by decide) rfl hS (io _) rfl (Nat.le_of_ble_eq_true rfl) (Nat.zero_le _) (Nat.zero_le _) (fun g2 G => ?_)
      refine go_if_ne (tgt := 98) dX10_readsPerson_94 (by decide) (fun c94 => absurd rfl c94) (fun c94 => ?_)
      refine go_return dX10_readsPerson_97 rfl (Nat.zero_le _) (Nat.zero_le _) ?_
      exact ⟨rfl, F1.tr (G.1.sub (fun _ _ q => q.ln)), Or.inr ⟨show ¬ (2 : Nat) = 0 by decide, _, G.2⟩⟩
    refine go_iload dX10_readsPerson_43 rfl ?_
    refine go_if_eq (tgt := 141) dX10_readsPerson_45 (by decide) (fun c45 => absurd c45 (by decide)) (fun c45 => ?_)
    refine go_aloadn dX10_readsPerson_48 rfl ?_
    refine sg_cVi (M' := mX10_isGood) ([]) dX10_readsPerson_49 lX10_161 vX10_isGood (mo_L rfl) (by decide) rfl hS (ig _) rfl (Nat.le_of_ble_eq_true rfl) (Nat.zero_le _) (Nat.zero_le _) ?_
    refine go_if_eq (tgt := 141) dX10_readsPerson_52 (by decide) (fun c52 => absurd c52 (by decide)) (fun c52 => ?_)
    refine go_iloadn dX10_readsPerson_55 rfl ?_
    refine go_bipush (v := 6) dX10_readsPerson_56 rfl ?_
    refine go_icmp_ne (tgt := 74) dX10_readsPerson_58 (by decide) (fun c58 => absurd rfl c58) (fun c58 => ?_)
    refine go_aloadn dX10_readsPerson_61 rfl ?_
    refine sg_getI dX10_readsPerson_62 fX10_135 rfl (mo_L rfl) hS ?_
    rw [e18]
    refine go_iconst (v := 2) dX10_readsPerson_65 rfl ?_
    refine go_icmp_ne (tgt := 74) dX10_readsPerson_66 (by decide) (fun c66 => absurd rfl c66) (fun c66 => ?_)
    refine go_aloadn dX10_readsPerson_69 rfl ?_
    refine go_iconst (v := 2) dX10_readsPerson_70 rfl ?_
    refine sg_cV0 (M' := mX10_wrong) ([.int (nI 2)]) dX10_readsPerson_71 lX10_168 vX10_wrong (mo_L rfl) (by decide) rfl hS (wr _) rfl (Nat.le_of_ble_eq_true rfl) (Nat.zero_le _) (Nat.zero_le _) ?_
    have hS := S1
    refine go_aloadn dX10_readsPerson_74 rfl ?_
    refine go_aloadn dX10_readsPerson_75 rfl ?_
    refine sg_getI dX10_readsPerson_76 fX10_231 rfl (mo_L rfl) hS ?_
    rw [e24']
    refine go_iconst (v := -1) dX10_readsPerson_79 rfl ?_
    refine go_icmp_ne (tgt := 87) dX10_readsPerson_80 (by decide) (fun c80 => ?_) (fun c80 => ?_)
    · refine go_aloadn dX10_readsPerson_87 rfl ?_
      refine sg_getI dX10_readsPerson_88 fX10_231 rfl (mo_L rfl) hS ?_
      first | (by_cases q : yP Y = 0; (rw [if_pos q] at c80; exact absurd rfl c80); (rw [e24', if_neg q]; exact go91 _ (by omega))) | exact go91 3 (by decide)
    · refine go_iconst (v := 3) dX10_readsPerson_83 rfl ?_
      refine go_goto (tgt := 91) dX10_readsPerson_84 (by decide) ?_
      first | (by_cases q : yP Y = 0; (rw [if_pos q] at c80; exact absurd rfl c80); (rw [e24', if_neg q]; exact go91 _ (by omega))) | exact go91 3 (by decide)
  | succ k ih =>
    intro i s W g hk ht R M F v1 v2 v3
    have hS := F.St hS0
    have i6 : i < 6 := by omega
    have gd : hI g 77 13 = 0 := R.good.mpr rfl
    have ig := fun d => q_isGood (l := l) (d := d) hS
    rw [if_pos gd] at ig
    have e24 := M.1.1
    rw [show yP (yWk Y W) = yP Y from rfl, show cL (yC (yWk Y W)) = cL (yC Y) from rfl] at e24
    have io := fun d => q_isOneOf (l := l) (d := d) (m := cL (yC Y)) hS R (by omega)
    have ew : wkR b n (cL (yC Y)) (6 * P) (k + 1) i s W = if onF b n s (cL (yC Y)) = 0 then (if tkK b n (nx b n s) = 2 then wkR b n (cL (yC Y)) (6 * P) k (i + 1) (nx b n s) (upd W (6 * P + i) (nI (nvT b n s))) else (0, nx b n s, i + 1, upd W (6 * P + i) (nI (nvT b n s)))) else (onF b n s (cL (yC Y)), s, i, W) := rfl
    rw [ew]
    generalize hRR : yPer2 b n bl v Y (if onF b n s (cL (yC Y)) = 0 then (if tkK b n (nx b n s) = 2 then wkR b n (cL (yC Y)) (6 * P) k (i + 1) (nx b n s) (upd W (6 * P + i) (nI (nvT b n s))) else (0, nx b n s, i + 1, upd W (6 * P + i) (nI (nvT b n s)))) else (onF b n s (cL (yC Y)), s, i, W)) = RR
    have go91 : Go l (rmOf (d + 4) (0, 0)) mX10_readsPerson (hN h) (Zm (0, 0) (fun v0 h1 => v0 = none ∧ LBm h h1 b n RR) noX) 91 [some (.ref 77), some (.int (nI bl)), some (.int (nI P)), some (.int (nI i)), some (.int 1)] [.int (nI (cL (yC Y))), .ref 77] g 0 0 := by
      rw [← hRR]
      by_cases y : onF b n s (cL (yC Y)) = 0
      · rw [if_pos y]
        rw [if_pos ⟨rfl, y⟩, if_neg (fun q => q.2 y)] at io
        obtain ⟨k2, vl⟩ := on_2 y
        have fin : ∀ g1, Fj SGr g g1 ∧ RM g1 b n s (0, 0) → Go l (rmOf (d + 4) (0, 0)) mX10_readsPerson (hN h) (Zm (0, 0) (fun v0 h1 => v0 = none ∧ LBm h h1 b n (yPer2 b n bl v Y (if tkK b n (nx b n s) = 2 then wkR b n (cL (yC Y)) (6 * P) k (i + 1) (nx b n s) (upd W (6 * P + i) (nI (nvT b n s))) else (0, nx b n s, i + 1, upd W (6 * P + i) (nI (nvT b n s)))))) noX) 98 [some (.ref 77), some (.int (nI bl)), some (.int (nI P)), some (.int (nI i)), some (.int 1)] [] g1 0 0 := by
          intro g1 G
          have hS := G.1.St hS
          have e21 := G.2.val
          rw [if_pos k2] at e21
          have M1 := M.gr G.1 (Y' := yWk Y W) rfl
          have F2 : Fz (fun a j => a = 86 ∧ j = 57 + 6 * P + i) g1 (uI g1 86 (57 + 6 * P + i) (nI (nvT b n s))) := Fz.rf.uI ⟨rfl, rfl⟩
          have w1 : hI (uI g1 86 (57 + 6 * P + i) (nI (nvT b n s))) 86 (57 + 6 * P + i) = nI (nvT b n s) := hI_uI_eq
          have fi2 : ∀ g2, g2 = uI g1 86 (57 + 6 * P + i) (nI (nvT b n s)) → Go l (rmOf (d + 4) (0, 0)) mX10_readsPerson (hN h) (Zm (0, 0) (fun v0 h1 => v0 = none ∧ LBm h h1 b n (yPer2 b n bl v Y (if tkK b n (nx b n s) = 2 then wkR b n (cL (yC Y)) (6 * P) k (i + 1) (nx b n s) (upd W (6 * P + i) (nI (nvT b n s))) else (0, nx b n s, i + 1, upd W (6 * P + i) (nI (nvT b n s)))))) noX) 119 [some (.ref 77), some (.int (nI bl)), some (.int (nI P)), some (.int (nI (i + 1))), some (.int 1)] [] g2 0 0 := by
            intro g2 hg
            rw [← hg] at F2 w1
            have hS := F2.St hS
            have R2 := G.2.fz F2 (fun k hk => by omega) (fun k => by omega)
            generalize hW : upd W (6 * P + i) (nI (nvT b n s)) = W2
            have M2 : MY g2 (yWk Y W2) := by
              obtain ⟨⟨m1, m2, m3, m4, m5, m6, m7⟩, m8, m9, m10, m11, m12, m13⟩ := M1
              have e87 : hI g2 87 = hI g1 87 := funext fun k => F2.I (by omega)
              refine ⟨⟨by rw [F2.I (by omega)]; exact m1, by rw [F2.I (by omega)]; exact m2, by rw [F2.I (by omega)]; exact m3, by rw [F2.I (by omega)]; exact m4, by rw [F2.I (by omega)]; exact m5, by rw [F2.I (by omega)]; exact m6, by rw [F2.I (by omega)]; exact m7⟩, fun p hp => ?_, fun j hj => ?_, fun t ht => ?_, by rw [F2.I (by omega)]; exact m11, by rw [e87]; exact m12, by rw [e87]; exact m13⟩
              · have hp' : p < P := by rw [← hP]; exact hp
                rw [F2.I (by omega), F2.I (by omega), F2.I (by omega), F2.I (by omega)]; exact m8 p hp
              · show hI g2 86 (57 + j) = W2 j
                rw [← hW]
                by_cases q : j = 6 * P + i
                · rw [q, pk_us, ← Nat.add_assoc]; exact w1
                · rw [pk_un q, F2.I (by omega)]; exact m9 j hj
              · have t10 : t < 10 ∨ 10 ≤ t := by omega
                by_cases c10 : cN (yC Y) ≤ 10
                · have ht' : t < cN (yC Y) := ht
                  rw [F2.I (by omega), F2.I (by omega), F2.I (by omega), F2.I (by omega), F2.I (by omega)]; exact m10 t ht
                · exact absurd hN10 c10
            have F3 : Fj SLn h g2 := (F.tr (G.1.sub (fun _ _ q => q.ln))).tr (F2.ln (fun a k q => by unfold SLn; omega))
            have x1 : hI g2 86 (49 + P) = nI v := by rw [F2.I (by omega), G.1.I (by unfold SGr; omega)]; exact v1
            have x2 : hI g2 86 (41 + P) = 0 := by rw [F2.I (by omega), G.1.I (by unfold SGr; omega)]; exact v2
            have x3 : hI g2 89 P = nI bl := by rw [F2.I (by omega), G.1.I (by unfold SGr; omega)]; exact v3
            by_cases z : tkK b n (nx b n s) = 2
            · rw [if_pos z]
              refine go_aloadn dX10_readsPerson_119 rfl ?_
              refine sg_rV0 (M' := mX10_goes) ([]) dX10_readsPerson_120 lX10_165 vX10_goes (mo_L rfl) (by decide) rfl hS (q_goesR hS R2) rfl (Nat.le_of_ble_eq_true rfl) (Nat.zero_le _) (Nat.zero_le _) (fun g3 G3 => ?_)
              have hS := G3.1.St hS
              refine go_aloadn dX10_readsPerson_123 rfl ?_
              refine sg_getI dX10_readsPerson_124 fX10_135 rfl (mo_L rfl) hS ?_
              rw [show hI g3 77 18 = 2 from by rw [G3.2.2.1.2.1, z]; rfl]
              refine go_iconst (v := 2) dX10_readsPerson_127 rfl ?_
              refine go_icmp_ne (tgt := 135) dX10_readsPerson_128 (by decide) (fun c128 => absurd rfl c128) (fun c128 => ?_)
              refine go_iconst (v := 1) dX10_readsPerson_131 rfl ?_
              refine go_goto (tgt := 136) dX10_readsPerson_132 (by decide) ?_
              refine go_ist4 dX10_readsPerson_136 rfl ?_
              refine go_goto (tgt := 43) dX10_readsPerson_138 (by decide) ?_
              exact ih (i + 1) (nx b n s) W2 g3 (by omega) (Or.inr z) G3.2 (M2.gr G3.1 rfl) (F3.tr (G3.1.sub (fun _ _ q => q.ln))) (by rw [G3.1.I (by unfold SGr; omega)]; exact x1) (by rw [G3.1.I (by unfold SGr; omega)]; exact x2) (by rw [G3.1.I (by unfold SGr; omega)]; exact x3)
            · rw [if_neg z]
              have k5 := tkK_lt (b := b) (n := n) (s := nx b n s)
              refine go_aloadn dX10_readsPerson_119 rfl ?_
              refine sg_rV0 (M' := mX10_goes) ([]) dX10_readsPerson_120 lX10_165 vX10_goes (mo_L rfl) (by decide) rfl hS (q_goesR hS R2) rfl (Nat.le_of_ble_eq_true rfl) (Nat.zero_le _) (Nat.zero_le _) (fun g3 G3 => ?_)
              have hS := G3.1.St hS
              refine go_aloadn dX10_readsPerson_123 rfl ?_
              refine sg_getI dX10_readsPerson_124 fX10_135 rfl (mo_L rfl) hS ?_
              rw [G3.2.2.1.2.1]
              refine go_iconst (v := 2) dX10_readsPerson_127 rfl ?_
              refine go_icmp_ne (tgt := 135) dX10_readsPerson_128 (by decide) (fun c128 => ?_) (fun c128 => absurd ((nI_eq (b := 2) (by omega) (by decide)).mp c128) z)
              refine go_iconst (v := 0) dX10_readsPerson_135 rfl ?_
              refine go_ist4 dX10_readsPerson_136 rfl ?_
              refine go_goto (tgt := 43) dX10_readsPerson_138 (by decide) ?_
              skip
              have out := q_rp141 (l := l) (d := d) hS (F3.tr (G3.1.sub (fun _ _ q => q.ln))) G3.2 (M2.gr G3.1 (Y' := yWk Y W2) rfl) hP P8 (show i + 1 ≤ 6 by omega) f0 (by rw [G3.1.I (by unfold SGr; omega)]; exact x1) (by rw [G3.1.I (by unfold SGr; omega)]; exact x2) (by rw [G3.1.I (by unfold SGr; omega)]; exact x3)
              refine go_iload dX10_readsPerson_43 rfl ?_
              refine go_if_eq (tgt := 141) dX10_readsPerson_45 (by decide) (fun c45 => ?_) (fun c45 => absurd rfl c45)
              exact out
          refine go_aloadn dX10_readsPerson_98 rfl ?_
          refine sg_getR dX10_readsPerson_99 fX10_51 rfl (mo_L rfl) hS (mo_r37 hS rfl) ?_
          refine go_bipush (v := 57) dX10_readsPerson_102 rfl ?_
          refine go_bipush (v := 6) dX10_readsPerson_104 rfl ?_
          refine go_iloadn dX10_readsPerson_106 rfl ?_
          refine go_imul dX10_readsPerson_107 ?_
          refine go_iadd dX10_readsPerson_108 ?_
          refine go_iloadn dX10_readsPerson_109 rfl ?_
          refine go_iadd dX10_readsPerson_110 ?_
          refine go_aloadn dX10_readsPerson_111 rfl ?_
          refine sg_getI dX10_readsPerson_112 fX10_129 rfl (mo_L rfl) hS ?_
          rw [e21]
          refine sg_iastN (i := 57 + 6 * P + i) dX10_readsPerson_115 (mo_37 rfl) hS (by simp only [lit_nI, nI_add, pk_mul, Nat.add_assoc, Nat.zero_add, Nat.add_zero]) (by omega) ?_
          refine go_iinc3 (c1 := 1) dX10_readsPerson_116 rfl rfl ?_
          rw [nI_1]; exact fi2 _ rfl
        refine sg_rVi (M' := mX10_isOneOf) ([.int (nI (cL (yC Y)))]) dX10_readsPerson_91 lX10_234 vX10_isOneOf (mo_L rfl) (by decide) rfl hS (io _) rfl (Nat.le_of_ble_eq_true rfl) (Nat.zero_le _) (Nat.zero_le _) (fun g1 G => ?_)
        refine go_if_ne (tgt := 98) dX10_readsPerson_94 (by decide) (fun c94 => ?_) (fun c94 => absurd c94 (by decide))
        exact fin g1 G
      · rw [if_neg y]
        rw [if_neg (fun q => y q.2), if_pos ⟨rfl, y⟩] at io
        have er : yPer2 b n bl v Y (onF b n s (cL (yC Y)), s, i, W) = yFl Y s (onF b n s (cL (yC Y))) := if_neg y
        rw [er]
        refine sg_rVi (M' := mX10_isOneOf) ([.int (nI (cL (yC Y)))]) dX10_readsPerson_91 lX10_234 vX10_isOneOf (mo_L rfl) (by decide) rfl hS (io _) rfl (Nat.le_of_ble_eq_true rfl) (Nat.zero_le _) (Nat.zero_le _) (fun g1 G => ?_)
        refine go_if_ne (tgt := 98) dX10_readsPerson_94 (by decide) (fun c94 => absurd rfl c94) (fun c94 => ?_)
        refine go_return dX10_readsPerson_97 rfl (Nat.zero_le _) (Nat.zero_le _) ?_
        exact ⟨rfl, F.tr (G.1.sub (fun _ _ q => q.ln)), Or.inr ⟨y, _, G.2⟩⟩
    refine go_iload dX10_readsPerson_43 rfl ?_
    refine go_if_eq (tgt := 141) dX10_readsPerson_45 (by decide) (fun c45 => absurd c45 (by decide)) (fun c45 => ?_)
    refine go_aloadn dX10_readsPerson_48 rfl ?_
    refine sg_cVi (M' := mX10_isGood) ([]) dX10_readsPerson_49 lX10_161 vX10_isGood (mo_L rfl) (by decide) rfl hS (ig _) rfl (Nat.le_of_ble_eq_true rfl) (Nat.zero_le _) (Nat.zero_le _) ?_
    refine go_if_eq (tgt := 141) dX10_readsPerson_52 (by decide) (fun c52 => absurd c52 (by decide)) (fun c52 => ?_)
    refine go_iloadn dX10_readsPerson_55 rfl ?_
    refine go_bipush (v := 6) dX10_readsPerson_56 rfl ?_
    refine go_icmp_ne (tgt := 74) dX10_readsPerson_58 (by decide) (fun c58 => ?_) (fun c58 => absurd ((nI_eq (b := 6) (by omega) (by decide)).mp c58) (by omega))
    refine go_aloadn dX10_readsPerson_74 rfl ?_
    refine go_aloadn dX10_readsPerson_75 rfl ?_
    refine sg_getI dX10_readsPerson_76 fX10_231 rfl (mo_L rfl) hS ?_
    rw [e24]
    refine go_iconst (v := -1) dX10_readsPerson_79 rfl ?_
    refine go_icmp_ne (tgt := 87) dX10_readsPerson_80 (by decide) (fun c80 => ?_) (fun c80 => ?_)
    · refine go_aloadn dX10_readsPerson_87 rfl ?_
      refine sg_getI dX10_readsPerson_88 fX10_231 rfl (mo_L rfl) hS ?_
      first | (by_cases q : yP Y = 0; (rw [if_pos q] at c80; exact absurd rfl c80); (rw [e24, if_neg q]; exact go91)) | (by_cases q : yP Y = 0; (rw [h3 q] at go91; exact go91); (rw [if_neg q] at c80; exact absurd c80 (nI_m1 (by omega))))
    · refine go_iconst (v := 3) dX10_readsPerson_83 rfl ?_
      refine go_goto (tgt := 91) dX10_readsPerson_84 (by decide) ?_
      first | (by_cases q : yP Y = 0; (rw [if_pos q] at c80; exact absurd rfl c80); (rw [e24, if_neg q]; exact go91)) | (by_cases q : yP Y = 0; (rw [h3 q] at go91; exact go91); (rw [if_neg q] at c80; exact absurd c80 (nI_m1 (by omega))))
