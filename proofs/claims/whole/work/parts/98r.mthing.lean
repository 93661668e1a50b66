/-! the model reads a person, a thing -/
theorem nar_b {x : Nat} (h : x ≤ 1) : vp_nar .boolean (nI x) = nI x := by
  rcases Nat.le_one_iff_eq_zero_or_eq_one.mp h with q | q <;> rw [q] <;> rfl
theorem q_readsPerson {l : Launch} {d n bl s : Nat} {b : Nat → Nat} {h : Hp} {Y : Ry} (hS : St h) (R : RM h b n s (0, 0)) (M : MY h Y) (hb : bl ≤ 1) (f0 : (yF Y).1 = 0) (P8 : cP (yC Y) < 8) (hL : 2 ≤ cL (yC Y) ∧ cL (yC Y) ≤ 6) (h3 : yP Y = 0 → cL (yC Y) = 3) (hN10 : cN (yC Y) ≤ 10) : Ey l (d + 4) mX10_readsPerson [.ref 77, .int (nI bl)] h none (fun g => LBm h g b n (yPer3 b n bl s Y)) := by
  refine run_lv [some (.ref 77), some (.int (nI bl)), none, none, none] (go := ?_)
  have e25 := M.1.2.1
  have hS0 := hS
  have nu := fun d => q_number (l := l) (d := d) (lo := 0) (hi := 9) hS R (by decide) (by decide)
  generalize hP : cP (yC Y) = P at *
  unfold yPer3
  generalize hx : (if (0, 0).1 = 0 ∧ tkK b n s = 2 then nI (nvT b n s) else 0) = x at nu
  have main : ∀ g, Fj SGr h g → ∀ f s1, RM g b n s1 f → Go l (rmOf (d + 4) (0, 0)) mX10_readsPerson (hN h) (Zm (0, 0) (fun v0 h1 => v0 = none ∧ LBm h h1 b n (if nmF b n s 0 9 = 0 then yPer2 b n bl (nvT b n s) Y (wkR b n (cL (yC Y)) (6 * cP (yC Y)) 6 0 (nx b n s) (tW (yT Y))) else yFl Y s (nmF b n s 0 9))) noX) 20 [some (.ref 77), some (.int (nI bl)), some (.int (nI P)), none, none] [.int x, .int (49 + nI P), .ref 86] g 0 0 → True := fun _ _ _ _ _ _ => True.intro
  clear main
  have go20 : ∀ g, (Fj SGr h g ∧ RM g b n (if (0, 0).1 = 0 ∧ nmF b n s 0 9 = 0 then nx b n s else s) (if (0, 0).1 = 0 ∧ ¬ nmF b n s 0 9 = 0 then (nmF b n s 0 9, s) else (0, 0))) → Go l (rmOf (d + 4) (0, 0)) mX10_readsPerson (hN h) (Zm (0, 0) (fun v0 h1 => v0 = none ∧ LBm h h1 b n (if nmF b n s 0 9 = 0 then yPer2 b n bl (nvT b n s) Y (wkR b n (cL (yC Y)) (6 * cP (yC Y)) 6 0 (nx b n s) (tW (yT Y))) else yFl Y s (nmF b n s 0 9))) noX) 20 [some (.ref 77), some (.int (nI bl)), some (.int (nI P)), none, none] [.int x, .int (49 + nI P), .ref 86] g 0 0 := by
    intro g G
    have hS := G.1.St hS
    have M1 := M.gr G.1 (Y' := Y) rfl
    have F1 : Fz (fun a k => (a = 86 ∧ (k = 49 + P ∨ k = 41 + P)) ∨ (a = 89 ∧ k = P)) g (uI (uI (uI g 86 (49 + P) x) 86 (41 + P) 0) 89 P (nI bl)) := ((Fz.rf.uI (by omega)).uI (by omega)).uI (by omega)
    have w1 : hI (uI (uI (uI g 86 (49 + P) x) 86 (41 + P) 0) 89 P (nI bl)) 86 (49 + P) = x := by repeat first | rw [hI_uI_ne (by omega)] | rw [hI_uI_eq]
    have w2 : hI (uI (uI (uI g 86 (49 + P) x) 86 (41 + P) 0) 89 P (nI bl)) 86 (41 + P) = 0 := by repeat first | rw [hI_uI_ne (by omega)] | rw [hI_uI_eq]
    have w3 : hI (uI (uI (uI g 86 (49 + P) x) 86 (41 + P) 0) 89 P (nI bl)) 89 P = nI bl := hI_uI_eq
    have fin : ∀ g2, g2 = uI (uI (uI g 86 (49 + P) x) 86 (41 + P) 0) 89 P (nI bl) → Go l (rmOf (d + 4) (0, 0)) mX10_readsPerson (hN h) (Zm (0, 0) (fun v0 h1 => v0 = none ∧ LBm h h1 b n (if nmF b n s 0 9 = 0 then yPer2 b n bl (nvT b n s) Y (wkR b n (cL (yC Y)) (6 * cP (yC Y)) 6 0 (nx b n s) (tW (yT Y))) else yFl Y s (nmF b n s 0 9))) noX) 43 [some (.ref 77), some (.int (nI bl)), some (.int (nI P)), some (.int (nI 0)), some (.int 1)] [] g2 0 0 := by
      intro g2 hg
      rw [← hg] at F1 w1 w2 w3
      have S2 := F1.St hS
      have F2 : Fj SLn h g2 := (G.1.sub (fun _ _ q => q.ln)).tr (F1.ln (fun a k q => by unfold SLn; omega))
      have R2 := G.2.fz F1 (fun k hk => by omega) (fun k => by omega)
      by_cases y : nmF b n s 0 9 = 0
      · rw [if_pos y]
        rw [if_pos ⟨rfl, y⟩, if_neg (fun q => q.2 y)] at R2
        obtain ⟨k2, -, -⟩ := nm_2 y
        rw [if_pos ⟨rfl, k2⟩] at hx
        have M2 : MY g2 (yWk Y (tW (yT Y))) := by
          obtain ⟨⟨m1, m2, m3, m4, m5, m6, m7⟩, m8, m9, m10, m11, m12, m13⟩ := M1
          have e87 : hI g2 87 = hI g 87 := funext fun k => F1.I (by omega)
          refine ⟨⟨by rw [F1.I (by omega)]; exact m1, by rw [F1.I (by omega)]; exact m2, by rw [F1.I (by omega)]; exact m3, by rw [F1.I (by omega)]; exact m4, by rw [F1.I (by omega)]; exact m5, by rw [F1.I (by omega)]; exact m6, by rw [F1.I (by omega)]; exact m7⟩, fun p hp => ?_, fun j hj => by rw [F1.I (by omega)]; exact m9 j hj, fun t ht => ?_, by rw [F1.I (by omega)]; exact m11, by rw [e87]; exact m12, by rw [e87]; exact m13⟩
          · have hp' : p < P := by rw [← hP]; exact hp
            rw [F1.I (by omega), F1.I (by omega), F1.I (by omega), F1.I (by omega)]; exact m8 p hp
          · have ht' : t < cN (yC Y) := ht
            rw [F1.I (by omega), F1.I (by omega), F1.I (by omega), F1.I (by omega), F1.I (by omega)]; exact m10 t ht
        have := q_rp43 (l := l) (d := d) (n := n) (bl := bl) (v := nvT b n s) (P := P) (b := b) hS0 f0 hP P8 hL h3 hN10 6 0 (nx b n s) (tW (yT Y)) g2 rfl (Or.inl rfl) R2 M2 F2 (by rw [w1, ← hx]) w2 w3
        rw [hP]
        exact this
      · rw [if_neg y]
        rw [if_neg (fun q => y q.2), if_pos ⟨rfl, y⟩] at R2
        have bad : ¬ hI g2 77 13 = 0 := fun q => absurd (R2.good.mp q) y
        have ig := fun d => q_isGood (l := l) (d := d) S2
        rw [if_neg bad] at ig
        have S3 : St (uI g2 84 P (nI 0)) := (Fz.rf.uI (S := fun _ _ => True) True.intro).St S2
        have F3 : Fz (fun a k => a = 84) g2 (uI g2 84 P (nI 0)) := Fz.rf.uI rfl
        have R3 := R2.fz F3 (fun k hk => by omega) (fun k => by omega)
        have ig3 := fun d => q_isGood (l := l) (d := d) S3
        rw [if_neg (by rw [hI_uI_ne (by omega)]; exact bad)] at ig3
        have hS := S2
        refine go_iload dX10_readsPerson_43 rfl ?_
        refine go_if_eq (tgt := 141) dX10_readsPerson_45 (by decide) (fun c45 => absurd c45 (by decide)) (fun c45 => ?_)
        refine go_aloadn dX10_readsPerson_48 rfl ?_
        refine sg_cVi (M' := mX10_isGood) ([]) dX10_readsPerson_49 lX10_161 vX10_isGood (mo_L rfl) (by decide) rfl hS (ig _) rfl (Nat.le_of_ble_eq_true rfl) (Nat.zero_le _) (Nat.zero_le _) ?_
        refine go_if_eq (tgt := 141) dX10_readsPerson_52 (by decide) (fun c52 => ?_) (fun c52 => absurd rfl c52)
        refine go_aloadn dX10_readsPerson_141 rfl ?_
        refine sg_getR dX10_readsPerson_142 fX10_45 rfl (mo_L rfl) hS (mo_r35 hS rfl) ?_
        refine go_iloadn dX10_readsPerson_145 rfl ?_
        refine go_iloadn dX10_readsPerson_146 rfl ?_
        refine sg_iastN (i := P) dX10_readsPerson_147 (mo_35 rfl) hS (by simp only [lit_nI, nI_add, pk_mul, Nat.add_assoc, Nat.zero_add, Nat.add_zero]) (by omega) ?_
        have hS := S3
        refine go_aloadn dX10_readsPerson_148 rfl ?_
        refine sg_cVi (M' := mX10_isGood) ([]) dX10_readsPerson_149 lX10_161 vX10_isGood (mo_L rfl) (by decide) rfl hS (ig3 _) rfl (Nat.le_of_ble_eq_true rfl) (Nat.zero_le _) (Nat.zero_le _) ?_
        refine go_if_eq (tgt := 165) dX10_readsPerson_152 (by decide) (fun c152 => ?_) (fun c152 => absurd rfl c152)
        refine go_return dX10_readsPerson_165 rfl (Nat.zero_le _) (Nat.zero_le _) ?_
        exact ⟨rfl, F2.tr (F3.ln (fun a k q => by unfold SLn; omega)), Or.inr ⟨y, _, R3⟩⟩
    refine sg_iastN (i := 49 + P) dX10_readsPerson_20 (mo_37 rfl) hS (by simp only [lit_nI, nI_add, pk_mul, Nat.add_assoc, Nat.zero_add, Nat.add_zero]) (by omega) ?_
    refine go_aloadn dX10_readsPerson_21 rfl ?_
    refine sg_getR dX10_readsPerson_22 fX10_51 rfl (mo_L rfl) hS (mo_r37 hS rfl) ?_
    refine go_bipush (v := 41) dX10_readsPerson_25 rfl ?_
    refine go_iloadn dX10_readsPerson_27 rfl ?_
    refine go_iadd dX10_readsPerson_28 ?_
    refine go_iconst (v := 0) dX10_readsPerson_29 rfl ?_
    refine sg_iastN (i := 41 + P) dX10_readsPerson_30 (mo_37 rfl) hS (by simp only [lit_nI, nI_add, pk_mul, Nat.add_assoc, Nat.zero_add, Nat.add_zero]) (by omega) ?_
    refine go_aloadn dX10_readsPerson_31 rfl ?_
    refine sg_getR dX10_readsPerson_32 fX10_60 rfl (mo_L rfl) hS (mo_r40 hS rfl) ?_
    refine go_iloadn dX10_readsPerson_35 rfl ?_
    refine go_iloadn dX10_readsPerson_36 rfl ?_
    refine sg_zastN (i := P) dX10_readsPerson_37 (mo_40 rfl) hS (by simp only [lit_nI, nI_add, pk_mul, Nat.add_assoc, Nat.zero_add, Nat.add_zero]) (by omega) ?_
    refine go_iconst (v := 0) dX10_readsPerson_38 rfl ?_
    refine go_ist3 dX10_readsPerson_39 rfl ?_
    refine go_iconst (v := 1) dX10_readsPerson_40 rfl ?_
    refine go_ist4 dX10_readsPerson_41 rfl ?_
    rw [nar_b hb]; exact fin _ rfl
  refine go_aloadn dX10_readsPerson_0 rfl ?_
  refine sg_getI dX10_readsPerson_1 fX10_224 rfl (mo_L rfl) hS ?_
  rw [e25]
  refine go_ist2 dX10_readsPerson_4 rfl ?_
  refine go_aloadn dX10_readsPerson_5 rfl ?_
  refine sg_getR dX10_readsPerson_6 fX10_51 rfl (mo_L rfl) hS (mo_r37 hS rfl) ?_
  refine go_bipush (v := 49) dX10_readsPerson_9 rfl ?_
  refine go_iloadn dX10_readsPerson_11 rfl ?_
  refine go_iadd dX10_readsPerson_12 ?_
  refine go_aloadn dX10_readsPerson_13 rfl ?_
  refine go_iconst (v := 0) dX10_readsPerson_14 rfl ?_
  refine go_bipush (v := 9) dX10_readsPerson_15 rfl ?_
  refine sg_rVi (M' := mX10_number) ([.int (nI 0), .int (nI 9)]) dX10_readsPerson_17 lX10_227 vX10_number (mo_L rfl) (by decide) rfl hS (nu _) rfl (Nat.le_of_ble_eq_true rfl) (Nat.zero_le _) (Nat.zero_le _) (fun g G => ?_)
  exact go20 g G
/-- a thing, from its weight on -/
def yThing3 (b : Nat → Nat) (n s : Nat) (R : Ry) : Ry :=
  if nmF b n s 1 30 = 0 then
    (if nmF b n (nx b n s) 0 9 = 0 then
      (if onF b n (nx b n (nx b n s)) (cP (yC R)) = 0 then yTh2 b n (nvT b n s) (nvT b n (nx b n s)) (nx b n (nx b n s)) R
      else yFl R (nx b n (nx b n s)) (onF b n (nx b n (nx b n s)) (cP (yC R))))
    else yFl R (nx b n s) (nmF b n (nx b n s) 0 9))
  else yFl R s (nmF b n s 1 30)
