/-! a line of the model: all of it -/
theorem q_line {l : Launch} {d n : Nat} {b : Nat → Nat} {h : Hp} {Y : Ry} (hS : St h) (R : RM h b n (yS Y) (0, 0)) (M : MY h Y) (I : YI n Y) (f0 : (yF Y).1 = 0) : Ey l (d + 7) mX10_line [.ref 77] h none (fun g => LNm h g b n (yLine b n Y)) := by
  refine run_lv [some (.ref 77), none] (go := ?_)
  have hS0 := hS
  obtain ⟨⟨m24, m25, m26, m27, m28, m29, m30⟩, m8, m9, m10, m11, m12, m13⟩ := M
  have M : MY h Y := ⟨⟨m24, m25, m26, m27, m28, m29, m30⟩, m8, m9, m10, m11, m12, m13⟩
  have iS := I.1.1
  have iB := I.1.2.1
  obtain ⟨iW1, iW2⟩ := I.2.1
  have iC := I.2.2.2.2.2.1
  have iX := I.2.2.2.2.2.2
  have kw := fun d => q_knownWord (l := l) (d := d) hS R
  have kl := kwN_le (b := b) (n := n) (s := yS Y)
  have sn : kwN b n (yS Y) < 20 → yS Y < n := fun q => by
    have w := (kwN_iff (b := b) (n := n) (s := yS Y) q).mp rfl
    exact tk3 (b := b) (n := n) (s := yS Y) (by rw [w.1]; decide)
  have bgY := fun d (x1 x2 x3 : Int32) h1 h2 h3 => q_begY (l := l) (d := d) (x1 := x1) (x2 := x2) (x3 := x3) hS R h1 h2 h3
  have o0 : (0 : Int32) = 0 ∨ (0 : Int32) = 1 := Or.inl rfl
  have o1 : (1 : Int32) = 0 ∨ (1 : Int32) = 1 := Or.inr rfl
  unfold yLine
  by_cases k1 : kwN b n (yS Y) = 9
  · rw [if_neg (by omega), k1] at kw
    rw [if_pos k1]
    unfold yPlaces
    by_cases c1 : 0 < cP (yC Y)
    · rw [if_pos c1]
      by_cases c2 : yP Y = 0
      · rw [if_pos c2] at m24
        have bg := fun d => bgY d 0 1 0 o0 o1 o0
        rw [if_pos (by decide), if_pos (by decide), if_neg (by decide), if_pos (by decide)] at bg
        refine go_aloadn dX10_line_0 rfl ?_
        refine sg_cVi (M' := mX10_knownWord) ([]) dX10_line_1 lX10_186 vX10_knownWord (mo_L rfl) (by decide) rfl hS (kw _) rfl (Nat.le_of_ble_eq_true rfl) (Nat.zero_le _) (Nat.zero_le _) ?_
        refine go_ist1 dX10_line_4 rfl ?_
        refine go_iloadn dX10_line_5 rfl ?_
        refine go_bipush (v := 9) dX10_line_6 rfl ?_
        refine go_icmp_ne (tgt := 58) dX10_line_8 (by decide) (fun c8 => absurd rfl c8) (fun c8 => ?_)
        refine go_aloadn dX10_line_11 rfl ?_
        refine go_iconst (v := 0) dX10_line_12 rfl ?_
        refine go_aloadn dX10_line_13 rfl ?_
        refine sg_getI dX10_line_14 fX10_224 rfl (mo_L rfl) hS ?_
        rw [m25]
        refine go_if_le (tgt := 24) dX10_line_17 (by decide) (fun c17 => absurd c17 (Int32.not_le.mpr (nI_lt (a := 0) c1 (by omega)))) (fun c17 => ?_)
        refine go_iconst (v := 1) dX10_line_20 rfl ?_
        refine go_goto (tgt := 25) dX10_line_21 (by decide) ?_
        refine go_aloadn dX10_line_25 rfl ?_
        refine sg_getI dX10_line_26 fX10_231 rfl (mo_L rfl) hS ?_
        rw [m24]
        refine go_iconst (v := -1) dX10_line_29 rfl ?_
        refine go_icmp_eq (tgt := 37) dX10_line_30 (by decide) (fun c30 => ?_) (fun c30 => absurd rfl c30)
        refine go_iconst (v := 0) dX10_line_37 rfl ?_
        refine sg_rVi (M' := mX10_begins) ([.int 0, .int 1, .int 0]) dX10_line_38 lX10_240 vX10_begins (mo_L rfl) (by decide) rfl hS (bg _) rfl (Nat.le_of_ble_eq_true rfl) (Nat.zero_le _) (Nat.zero_le _) (fun g G => ?_)
        refine go_if_eq (tgt := 286) dX10_line_41 (by decide) (fun c41 => ?_) (fun c41 => absurd rfl c41)
        exact q_ln286 hS0 (lc_f G.1 G.2 (by decide))
      · rw [if_neg c2] at m24
        have bg := fun d => bgY d 0 1 1 o0 o1 o1
        rw [if_pos (by decide), if_pos (by decide), if_neg (by decide), if_pos (by decide)] at bg
        refine go_aloadn dX10_line_0 rfl ?_
        refine sg_cVi (M' := mX10_knownWord) ([]) dX10_line_1 lX10_186 vX10_knownWord (mo_L rfl) (by decide) rfl hS (kw _) rfl (Nat.le_of_ble_eq_true rfl) (Nat.zero_le _) (Nat.zero_le _) ?_
        refine go_ist1 dX10_line_4 rfl ?_
        refine go_iloadn dX10_line_5 rfl ?_
        refine go_bipush (v := 9) dX10_line_6 rfl ?_
        refine go_icmp_ne (tgt := 58) dX10_line_8 (by decide) (fun c8 => absurd rfl c8) (fun c8 => ?_)
        refine go_aloadn dX10_line_11 rfl ?_
        refine go_iconst (v := 0) dX10_line_12 rfl ?_
        refine go_aloadn dX10_line_13 rfl ?_
        refine sg_getI dX10_line_14 fX10_224 rfl (mo_L rfl) hS ?_
        rw [m25]
        refine go_if_le (tgt := 24) dX10_line_17 (by decide) (fun c17 => absurd c17 (Int32.not_le.mpr (nI_lt (a := 0) c1 (by omega)))) (fun c17 => ?_)
        refine go_iconst (v := 1) dX10_line_20 rfl ?_
        refine go_goto (tgt := 25) dX10_line_21 (by decide) ?_
        refine go_aloadn dX10_line_25 rfl ?_
        refine sg_getI dX10_line_26 fX10_231 rfl (mo_L rfl) hS ?_
        rw [m24]
        refine go_iconst (v := -1) dX10_line_29 rfl ?_
        refine go_icmp_eq (tgt := 37) dX10_line_30 (by decide) (fun c30 => absurd c30 (nI_m1 (by omega))) (fun c30 => ?_)
        refine go_iconst (v := 1) dX10_line_33 rfl ?_
        refine go_goto (tgt := 38) dX10_line_34 (by decide) ?_
        refine sg_rVi (M' := mX10_begins) ([.int 0, .int 1, .int 1]) dX10_line_38 lX10_240 vX10_begins (mo_L rfl) (by decide) rfl hS (bg _) rfl (Nat.le_of_ble_eq_true rfl) (Nat.zero_le _) (Nat.zero_le _) (fun g G => ?_)
        refine go_if_eq (tgt := 286) dX10_line_41 (by decide) (fun c41 => ?_) (fun c41 => absurd rfl c41)
        exact q_ln286 hS0 (lc_f G.1 G.2 (by decide))
    · rw [if_neg c1]
      have m25' : hI h 77 25 = 0 := by rw [m25, show cP (yC Y) = 0 by omega]; rfl
      by_cases c2 : yP Y = 1
      · rw [if_pos c2]
        rw [if_neg (by omega)] at m24
        have bg := fun d => bgY d 0 0 1 o0 o0 o1
        rw [if_pos (by decide), if_pos (by decide), if_neg (by decide), if_neg (by decide), if_pos (by decide)] at bg
        refine go_aloadn dX10_line_0 rfl ?_
        refine sg_cVi (M' := mX10_knownWord) ([]) dX10_line_1 lX10_186 vX10_knownWord (mo_L rfl) (by decide) rfl hS (kw _) rfl (Nat.le_of_ble_eq_true rfl) (Nat.zero_le _) (Nat.zero_le _) ?_
        refine go_ist1 dX10_line_4 rfl ?_
        refine go_iloadn dX10_line_5 rfl ?_
        refine go_bipush (v := 9) dX10_line_6 rfl ?_
        refine go_icmp_ne (tgt := 58) dX10_line_8 (by decide) (fun c8 => absurd rfl c8) (fun c8 => ?_)
        refine go_aloadn dX10_line_11 rfl ?_
        refine go_iconst (v := 0) dX10_line_12 rfl ?_
        refine go_aloadn dX10_line_13 rfl ?_
        refine sg_getI dX10_line_14 fX10_224 rfl (mo_L rfl) hS ?_
        rw [m25']
        refine go_if_le (tgt := 24) dX10_line_17 (by decide) (fun c17 => ?_) (fun c17 => absurd (Int32.le_refl _) c17)
        refine go_iconst (v := 0) dX10_line_24 rfl ?_
        refine go_aloadn dX10_line_25 rfl ?_
        refine sg_getI dX10_line_26 fX10_231 rfl (mo_L rfl) hS ?_
        rw [m24]
        refine go_iconst (v := -1) dX10_line_29 rfl ?_
        refine go_icmp_eq (tgt := 37) dX10_line_30 (by decide) (fun c30 => absurd c30 (nI_m1 (by omega))) (fun c30 => ?_)
        refine go_iconst (v := 1) dX10_line_33 rfl ?_
        refine go_goto (tgt := 38) dX10_line_34 (by decide) ?_
        refine sg_rVi (M' := mX10_begins) ([.int 0, .int 0, .int 1]) dX10_line_38 lX10_240 vX10_begins (mo_L rfl) (by decide) rfl hS (bg _) rfl (Nat.le_of_ble_eq_true rfl) (Nat.zero_le _) (Nat.zero_le _) (fun g G => ?_)
        refine go_if_eq (tgt := 286) dX10_line_41 (by decide) (fun c41 => ?_) (fun c41 => absurd rfl c41)
        exact q_ln286 hS0 (lc_f G.1 G.2 (by decide))
      · rw [if_neg c2]
        rw [if_pos (by omega)] at m24
        have bg := fun d => bgY d 0 0 0 o0 o0 o0
        rw [if_neg (by decide), if_neg (by decide), if_neg (by decide), if_neg (by decide), if_neg (by decide)] at bg
        generalize hRR : (if nmF b n (nx b n (yS Y)) 2 6 = 0 then yEnd b n (Y.1, (1, yM Y), ((cN (yC Y), cP (yC Y), nvT b n (nx b n (yS Y)), cM (yC Y)), (yC Y).2), Y.2.2.2) (nx b n (nx b n (yS Y))) else yFl Y (nx b n (yS Y)) (nmF b n (nx b n (yS Y)) 2 6)) = RR
        have go44 : ∀ g, Fj SGr h g ∧ RM g b n (nx b n (yS Y)) (0, 0) → Go l (rmOf (d + 7) (0, 0)) mX10_line (hN h) (Zm (0, 0) (fun v0 h1 => v0 = none ∧ LNm h h1 b n RR) noX) 44 [some (.ref 77), some (.int (nI 9))] [] g 0 0 := by
          intro g G
          have hS := G.1.St hS
          have M1 := M.gr G.1 (Y' := Y) rfl
          have nu := fun d => q_number (l := l) (d := d) (lo := 2) (hi := 6) hS G.2 (by decide) (by decide)
          generalize nx b n (yS Y) = t at *
          by_cases y : nmF b n t 2 6 = 0
          · rw [if_pos y] at hRR
            obtain ⟨k2, -, -⟩ := nm_2 y
            rw [if_pos ⟨rfl, k2⟩, if_pos ⟨rfl, y⟩, if_neg (fun q => q.2 y)] at nu
            have post : ∀ g1, Fj SGr g g1 ∧ RM g1 b n (nx b n t) (0, 0) → LCm h (uI g1 77 24 (nI (nvT b n t))) b n RR := by
              intro g1 G1
              have F2 : Fz (fun a k => a = 77 ∧ k = 24) g1 (uI g1 77 24 (nI (nvT b n t))) := Fz.rf.uI ⟨rfl, rfl⟩
              have w1 : hI (uI g1 77 24 (nI (nvT b n t))) 77 24 = nI (nvT b n t) := hI_uI_eq
              generalize uI g1 77 24 (nI (nvT b n t)) = g2 at *
              have M2 := M1.gr G1.1 (Y' := Y) rfl
              rw [← hRR]
              refine Or.inl ⟨((G.1.tr G1.1).sub (fun _ _ q => q.ln)).tr (F2.ln (fun a k q => by unfold SLn; omega)), Or.inl ⟨_, _, rfl, f0, G1.2.fz F2 (fun k hk => by omega) (fun k => by omega), ?_⟩⟩
              obtain ⟨⟨q1, q2, q3, q4, q5, q6, q7⟩, q8, q9, q10, q11, q12, q13⟩ := M2
              have e87 : hI g2 87 = hI g1 87 := funext fun k => F2.I (by omega)
              exact ⟨⟨by rw [w1]; rfl, by rw [F2.I (by omega)]; exact q2, by rw [F2.I (by omega)]; exact q3, by rw [F2.I (by omega)]; exact q4, by rw [F2.I (by omega)]; exact q5, by rw [F2.I (by omega)]; exact q6, by rw [F2.I (by omega)]; exact q7⟩, fun p hp => by rw [F2.I (by omega), F2.I (by omega), F2.I (by omega), F2.I (by omega)]; exact q8 p hp, fun j hj => by rw [F2.I (by omega)]; exact q9 j hj, fun t ht => by rw [F2.I (by omega), F2.I (by omega), F2.I (by omega), F2.I (by omega), F2.I (by omega)]; exact q10 t ht, by rw [F2.I (by omega)]; exact q11, by rw [e87]; exact q12, by rw [e87]; exact q13⟩
            refine go_aloadn dX10_line_44 rfl ?_
            refine go_aloadn dX10_line_45 rfl ?_
            refine go_iconst (v := 2) dX10_line_46 rfl ?_
            refine go_bipush (v := 6) dX10_line_47 rfl ?_
            refine sg_rVi (M' := mX10_number) ([.int (nI 2), .int (nI 6)]) dX10_line_49 lX10_227 vX10_number (mo_L rfl) (by decide) rfl hS (nu _) rfl (Nat.le_of_ble_eq_true rfl) (Nat.zero_le _) (Nat.zero_le _) (fun g1 G1 => ?_)
            have hS := G1.1.St hS
            refine sg_putI dX10_line_52 fX10_231 rfl rfl (mo_L rfl) hS ?_
            refine go_goto (tgt := 286) dX10_line_55 (by decide) ?_
            exact q_ln286 hS0 (post g1 G1)
          · rw [if_neg y] at hRR
            generalize (if (0, 0).1 = 0 ∧ tkK b n t = 2 then nI (nvT b n t) else 0) = X at nu
            rw [if_neg (fun q => y q.2), if_pos ⟨rfl, y⟩] at nu
            have post : ∀ g1, Fj SGr g g1 ∧ RM g1 b n t (nmF b n t 2 6, t) → LCm h (uI g1 77 24 X) b n RR := by
              intro g1 G1
              have F2 : Fz (fun a k => a = 77 ∧ k = 24) g1 (uI g1 77 24 X) := Fz.rf.uI ⟨rfl, rfl⟩
              rw [← hRR]
              exact Or.inl ⟨((G.1.tr G1.1).sub (fun _ _ q => q.ln)).tr (F2.ln (fun a k q => by unfold SLn; omega)), Or.inr ⟨y, _, G1.2.fz F2 (fun k hk => by omega) (fun k => by omega)⟩⟩
            refine go_aloadn dX10_line_44 rfl ?_
            refine go_aloadn dX10_line_45 rfl ?_
            refine go_iconst (v := 2) dX10_line_46 rfl ?_
            refine go_bipush (v := 6) dX10_line_47 rfl ?_
            refine sg_rVi (M' := mX10_number) ([.int (nI 2), .int (nI 6)]) dX10_line_49 lX10_227 vX10_number (mo_L rfl) (by decide) rfl hS (nu _) rfl (Nat.le_of_ble_eq_true rfl) (Nat.zero_le _) (Nat.zero_le _) (fun g1 G1 => ?_)
            have hS := G1.1.St hS
            refine sg_putI dX10_line_52 fX10_231 rfl rfl (mo_L rfl) hS ?_
            refine go_goto (tgt := 286) dX10_line_55 (by decide) ?_
            exact q_ln286 hS0 (post g1 G1)
        refine go_aloadn dX10_line_0 rfl ?_
        refine sg_cVi (M' := mX10_knownWord) ([]) dX10_line_1 lX10_186 vX10_knownWord (mo_L rfl) (by decide) rfl hS (kw _) rfl (Nat.le_of_ble_eq_true rfl) (Nat.zero_le _) (Nat.zero_le _) ?_
        refine go_ist1 dX10_line_4 rfl ?_
        refine go_iloadn dX10_line_5 rfl ?_
        refine go_bipush (v := 9) dX10_line_6 rfl ?_
        refine go_icmp_ne (tgt := 58) dX10_line_8 (by decide) (fun c8 => absurd rfl c8) (fun c8 => ?_)
        refine go_aloadn dX10_line_11 rfl ?_
        refine go_iconst (v := 0) dX10_line_12 rfl ?_
        refine go_aloadn dX10_line_13 rfl ?_
        refine sg_getI dX10_line_14 fX10_224 rfl (mo_L rfl) hS ?_
        rw [m25']
        refine go_if_le (tgt := 24) dX10_line_17 (by decide) (fun c17 => ?_) (fun c17 => absurd (Int32.le_refl _) c17)
        refine go_iconst (v := 0) dX10_line_24 rfl ?_
        refine go_aloadn dX10_line_25 rfl ?_
        refine sg_getI dX10_line_26 fX10_231 rfl (mo_L rfl) hS ?_
        rw [m24]
        refine go_iconst (v := -1) dX10_line_29 rfl ?_
        refine go_icmp_eq (tgt := 37) dX10_line_30 (by decide) (fun c30 => ?_) (fun c30 => absurd rfl c30)
        refine go_iconst (v := 0) dX10_line_37 rfl ?_
        refine sg_rVi (M' := mX10_begins) ([.int 0, .int 0, .int 0]) dX10_line_38 lX10_240 vX10_begins (mo_L rfl) (by decide) rfl hS (bg _) rfl (Nat.le_of_ble_eq_true rfl) (Nat.zero_le _) (Nat.zero_le _) (fun g G => ?_)
        refine go_if_eq (tgt := 286) dX10_line_41 (by decide) (fun c41 => absurd c41 (by decide)) (fun c41 => ?_)
        exact go44 g G
  · rw [if_neg k1]
    have kv : ∀ x, x < 20 → ¬ kwN b n (yS Y) = x → ¬ (if kwN b n (yS Y) = 20 then (-1 : Int32) else nI (kwN b n (yS Y))) = nI x := fun x hx hn => by
      by_cases q : kwN b n (yS Y) = 20
      · rw [if_pos q]; exact fun e => nI_m1 (by omega) e.symm
      · rw [if_neg q]; exact fun e => hn ((nI_eq (by omega) (by omega)).mp e)
    have n9 := kv 9 (by decide) k1
    -- person, blind
    have per : ∀ bl kk, (bl = 0 ∧ kk = 10) ∨ (bl = 1 ∧ kk = 11) → Go l (rmOf (d + 7) (0, 0)) mX10_line (hN h) (Zm (0, 0) (fun v0 h1 => v0 = none ∧ LNm h h1 b n (yPerson b n bl Y)) noX) 70 [some (.ref 77), some (.int (nI kk))] [] h 0 0 := by
      intro bl kk hbk
      unfold yPerson
      by_cases c1 : 8 ≤ cP (yC Y)
      · rw [if_pos c1]
        have m25' : hI h 77 25 = 8 := by rw [m25, show cP (yC Y) = 8 by omega]; rfl
        have bg := fun d => bgY d 1 0 0 o1 o0 o0
        rw [if_pos (by decide), if_pos (by decide), if_pos (by decide)] at bg
        refine go_aloadn dX10_line_70 rfl ?_
        refine go_aloadn dX10_line_71 rfl ?_
        refine sg_getI dX10_line_72 fX10_224 rfl (mo_L rfl) hS ?_
        rw [m25']
        refine go_bipush (v := 8) dX10_line_75 rfl ?_
        refine go_icmp_ne (tgt := 84) dX10_line_77 (by decide) (fun c77 => absurd rfl c77) (fun c77 => ?_)
        refine go_iconst (v := 1) dX10_line_80 rfl ?_
        refine go_goto (tgt := 85) dX10_line_81 (by decide) ?_
        refine go_iconst (v := 0) dX10_line_85 rfl ?_
        refine go_iconst (v := 0) dX10_line_86 rfl ?_
        refine sg_rVi (M' := mX10_begins) ([.int 1, .int 0, .int 0]) dX10_line_87 lX10_240 vX10_begins (mo_L rfl) (by decide) rfl hS (bg _) rfl (Nat.le_of_ble_eq_true rfl) (Nat.zero_le _) (Nat.zero_le _) (fun g G => ?_)
        refine go_if_eq (tgt := 286) dX10_line_90 (by decide) (fun c90 => ?_) (fun c90 => absurd rfl c90)
        exact q_ln286 hS0 (lc_f G.1 G.2 (by decide))
      · rw [if_neg c1]
        have bg := fun d => bgY d 0 0 0 o0 o0 o0
        rw [if_neg (by decide), if_neg (by decide), if_neg (by decide), if_neg (by decide), if_neg (by decide)] at bg
        have go105 : ∀ g, Fj SGr h g ∧ RM g b n (nx b n (yS Y)) (0, 0) → Go l (rmOf (d + 7) (0, 0)) mX10_line (hN h) (Zm (0, 0) (fun v0 h1 => v0 = none ∧ LNm h h1 b n (yPer3 b n bl (nx b n (yS Y)) Y)) noX) 105 [some (.ref 77), some (.int (nI kk))] [.int (nI bl), .ref 77] g 0 0 := by
          intro g G
          have hS := G.1.St hS
          have M1 := M.gr G.1 (Y' := Y) rfl
          have rp := fun d => q_readsPerson (l := l) (d := d) (bl := bl) hS G.2 M1 (by omega) f0 (by omega) ⟨iW1.2.2.1, iW1.2.2.2.1⟩ iC.1 iB.1
          refine sg_rV0 (M' := mX10_readsPerson) ([.int (nI bl)]) dX10_line_105 lX10_244 vX10_readsPerson (mo_L rfl) (by decide) rfl hS (rp _) rfl (Nat.le_of_ble_eq_true rfl) (Nat.zero_le _) (Nat.zero_le _) (fun g2 G2 => ?_)
          refine go_goto (tgt := 286) dX10_line_108 (by decide) ?_
          exact q_ln286 hS0 (Or.inl ⟨(G.1.sub (fun _ _ q => q.ln)).tr G2.1, G2.2⟩)
        rcases hbk with ⟨rfl, rfl⟩ | ⟨rfl, rfl⟩
        · refine go_aloadn dX10_line_70 rfl ?_
          refine go_aloadn dX10_line_71 rfl ?_
          refine sg_getI dX10_line_72 fX10_224 rfl (mo_L rfl) hS ?_
          rw [m25]
          refine go_bipush (v := 8) dX10_line_75 rfl ?_
          refine go_icmp_ne (tgt := 84) dX10_line_77 (by decide) (fun c77 => ?_) (fun c77 => absurd ((nI_eq (b := 8) (by omega) (by decide)).mp c77) (by omega))
          refine go_iconst (v := 0) dX10_line_84 rfl ?_
          refine go_iconst (v := 0) dX10_line_85 rfl ?_
          refine go_iconst (v := 0) dX10_line_86 rfl ?_
          refine sg_rVi (M' := mX10_begins) ([.int 0, .int 0, .int 0]) dX10_line_87 lX10_240 vX10_begins (mo_L rfl) (by decide) rfl hS (bg _) rfl (Nat.le_of_ble_eq_true rfl) (Nat.zero_le _) (Nat.zero_le _) (fun g G => ?_)
          refine go_if_eq (tgt := 286) dX10_line_90 (by decide) (fun c90 => absurd c90 (by decide)) (fun c90 => ?_)
          refine go_aloadn dX10_line_93 rfl ?_
          refine go_iloadn dX10_line_94 rfl ?_
          refine go_bipush (v := 11) dX10_line_95 rfl ?_
          refine go_icmp_ne (tgt := 104) dX10_line_97 (by decide) (fun c97 => ?_) (fun c97 => absurd c97 (by decide))
          refine go_iconst (v := 0) dX10_line_104 rfl ?_
          exact go105 g G
        · refine go_aloadn dX10_line_70 rfl ?_
          refine go_aloadn dX10_line_71 rfl ?_
          refine sg_getI dX10_line_72 fX10_224 rfl (mo_L rfl) hS ?_
          rw [m25]
          refine go_bipush (v := 8) dX10_line_75 rfl ?_
          refine go_icmp_ne (tgt := 84) dX10_line_77 (by decide) (fun c77 => ?_) (fun c77 => absurd ((nI_eq (b := 8) (by omega) (by decide)).mp c77) (by omega))
          refine go_iconst (v := 0) dX10_line_84 rfl ?_
          refine go_iconst (v := 0) dX10_line_85 rfl ?_
          refine go_iconst (v := 0) dX10_line_86 rfl ?_
          refine sg_rVi (M' := mX10_begins) ([.int 0, .int 0, .int 0]) dX10_line_87 lX10_240 vX10_begins (mo_L rfl) (by decide) rfl hS (bg _) rfl (Nat.le_of_ble_eq_true rfl) (Nat.zero_le _) (Nat.zero_le _) (fun g G => ?_)
          refine go_if_eq (tgt := 286) dX10_line_90 (by decide) (fun c90 => absurd c90 (by decide)) (fun c90 => ?_)
          refine go_aloadn dX10_line_93 rfl ?_
          refine go_iloadn dX10_line_94 rfl ?_
          refine go_bipush (v := 11) dX10_line_95 rfl ?_
          refine go_icmp_ne (tgt := 104) dX10_line_97 (by decide) (fun c97 => absurd rfl c97) (fun c97 => ?_)
          refine go_iconst (v := 1) dX10_line_100 rfl ?_
          refine go_goto (tgt := 105) dX10_line_101 (by decide) ?_
          exact go105 g G
    by_cases k2 : kwN b n (yS Y) = 10
    · rw [if_pos k2]
      have p := per 0 10 (Or.inl ⟨rfl, rfl⟩)
      rw [if_neg (by omega), k2] at kw n9
      refine go_aloadn dX10_line_0 rfl ?_
      refine sg_cVi (M' := mX10_knownWord) ([]) dX10_line_1 lX10_186 vX10_knownWord (mo_L rfl) (by decide) rfl hS (kw _) rfl (Nat.le_of_ble_eq_true rfl) (Nat.zero_le _) (Nat.zero_le _) ?_
      refine go_ist1 dX10_line_4 rfl ?_
      refine go_iloadn dX10_line_5 rfl ?_
      refine go_bipush (v := 9) dX10_line_6 rfl ?_
      refine go_icmp_ne (tgt := 58) dX10_line_8 (by decide) (fun c8 => ?_) (fun c8 => absurd c8 n9)
      refine go_iloadn dX10_line_58 rfl ?_
      refine go_bipush (v := 10) dX10_line_59 rfl ?_
      refine go_icmp_eq (tgt := 70) dX10_line_61 (by decide) (fun c61 => ?_) (fun c61 => absurd rfl c61)
      exact p
    · rw [if_neg k2]
      have n10 := kv 10 (by decide) k2
      by_cases k3 : kwN b n (yS Y) = 11
      · rw [if_pos k3]
        have p := per 1 11 (Or.inr ⟨rfl, rfl⟩)
        rw [if_neg (by omega), k3] at kw n9 n10
        refine go_aloadn dX10_line_0 rfl ?_
        refine sg_cVi (M' := mX10_knownWord) ([]) dX10_line_1 lX10_186 vX10_knownWord (mo_L rfl) (by decide) rfl hS (kw _) rfl (Nat.le_of_ble_eq_true rfl) (Nat.zero_le _) (Nat.zero_le _) ?_
        refine go_ist1 dX10_line_4 rfl ?_
        refine go_iloadn dX10_line_5 rfl ?_
        refine go_bipush (v := 9) dX10_line_6 rfl ?_
        refine go_icmp_ne (tgt := 58) dX10_line_8 (by decide) (fun c8 => ?_) (fun c8 => absurd c8 n9)
        refine go_iloadn dX10_line_58 rfl ?_
        refine go_bipush (v := 10) dX10_line_59 rfl ?_
        refine go_icmp_eq (tgt := 70) dX10_line_61 (by decide) (fun c61 => absurd c61 n10) (fun c61 => ?_)
        refine go_iloadn dX10_line_64 rfl ?_
        refine go_bipush (v := 11) dX10_line_65 rfl ?_
        refine go_icmp_ne (tgt := 111) dX10_line_67 (by decide) (fun c67 => absurd rfl c67) (fun c67 => ?_)
        exact p
      · rw [if_neg k3]
        have n11 := kv 11 (by decide) k3
        generalize hkv : (if kwN b n (yS Y) = 20 then (-1 : Int32) else nI (kwN b n (yS Y))) = kvv at *
        generalize hRR : (if kwN b n (yS Y) = 12 then yThing b n Y else if kwN b n (yS Y) = 14 then yTerm b n Y else if kwN b n (yS Y) = 15 then yRule b n 1 Y else if kwN b n (yS Y) = 16 then yRule b n 0 Y else yFl Y (yS Y) 1) = RR
        have go111 : Go l (rmOf (d + 7) (0, 0)) mX10_line (hN h) (Zm (0, 0) (fun v0 h1 => v0 = none ∧ LNm h h1 b n RR) noX) 111 [some (.ref 77), some (.int kvv)] [] h 0 0 := by
          by_cases k4 : kwN b n (yS Y) = 12
          · rw [if_pos k4] at hRR
            rw [if_neg (by omega), k4] at hkv
            rw [← hkv, ← hRR]
            unfold yThing
            by_cases c1 : 10 ≤ cN (yC Y)
            · rw [if_pos c1]
              have m26' : hI h 77 26 = 10 := by rw [m26, show cN (yC Y) = 10 by omega]; rfl
              have bg := fun d => bgY d 1 0 0 o1 o0 o0
              rw [if_pos (by decide), if_pos (by decide), if_pos (by decide)] at bg
              refine go_iloadn dX10_line_111 rfl ?_
              refine go_bipush (v := 12) dX10_line_112 rfl ?_
              refine go_icmp_ne (tgt := 147) dX10_line_114 (by decide) (fun c114 => absurd rfl c114) (fun c114 => ?_)
              refine go_aloadn dX10_line_117 rfl ?_
              refine go_aloadn dX10_line_118 rfl ?_
              refine sg_getI dX10_line_119 fX10_237 rfl (mo_L rfl) hS ?_
              rw [m26']
              refine go_bipush (v := 10) dX10_line_122 rfl ?_
              refine go_icmp_ne (tgt := 131) dX10_line_124 (by decide) (fun c124 => absurd rfl c124) (fun c124 => ?_)
              refine go_iconst (v := 1) dX10_line_127 rfl ?_
              refine go_goto (tgt := 132) dX10_line_128 (by decide) ?_
              refine go_iconst (v := 0) dX10_line_132 rfl ?_
              refine go_iconst (v := 0) dX10_line_133 rfl ?_
              refine sg_rVi (M' := mX10_begins) ([.int 1, .int 0, .int 0]) dX10_line_134 lX10_240 vX10_begins (mo_L rfl) (by decide) rfl hS (bg _) rfl (Nat.le_of_ble_eq_true rfl) (Nat.zero_le _) (Nat.zero_le _) (fun g G => ?_)
              refine go_if_eq (tgt := 286) dX10_line_137 (by decide) (fun c137 => ?_) (fun c137 => absurd rfl c137)
              exact q_ln286 hS0 (lc_f G.1 G.2 (by decide))
            · rw [if_neg c1]
              have bg := fun d => bgY d 0 0 0 o0 o0 o0
              rw [if_neg (by decide), if_neg (by decide), if_neg (by decide), if_neg (by decide), if_neg (by decide)] at bg
              have go140 : ∀ g, Fj SGr h g ∧ RM g b n (nx b n (yS Y)) (0, 0) → Go l (rmOf (d + 7) (0, 0)) mX10_line (hN h) (Zm (0, 0) (fun v0 h1 => v0 = none ∧ LNm h h1 b n (yThing3 b n (nx b n (yS Y)) Y)) noX) 140 [some (.ref 77), some (.int (nI 12))] [] g 0 0 := by
                intro g G
                have hS := G.1.St hS
                have M1 := M.gr G.1 (Y' := Y) rfl
                have rp := fun d => q_readsThing (l := l) (d := d) hS G.2 M1 f0 (by omega) (by omega)
                refine go_aloadn dX10_line_140 rfl ?_
                refine sg_rV0 (M' := mX10_readsThing) ([]) dX10_line_141 lX10_247 vX10_readsThing (mo_L rfl) (by decide) rfl hS (rp _) rfl (Nat.le_of_ble_eq_true rfl) (Nat.zero_le _) (Nat.zero_le _) (fun g2 G2 => ?_)
                refine go_goto (tgt := 286) dX10_line_144 (by decide) ?_
                exact q_ln286 hS0 (Or.inl ⟨(G.1.sub (fun _ _ q => q.ln)).tr G2.1, G2.2⟩)
              refine go_iloadn dX10_line_111 rfl ?_
              refine go_bipush (v := 12) dX10_line_112 rfl ?_
              refine go_icmp_ne (tgt := 147) dX10_line_114 (by decide) (fun c114 => absurd rfl c114) (fun c114 => ?_)
              refine go_aloadn dX10_line_117 rfl ?_
              refine go_aloadn dX10_line_118 rfl ?_
              refine sg_getI dX10_line_119 fX10_237 rfl (mo_L rfl) hS ?_
              rw [m26]
              refine go_bipush (v := 10) dX10_line_122 rfl ?_
              refine go_icmp_ne (tgt := 131) dX10_line_124 (by decide) (fun c124 => ?_) (fun c124 => absurd ((nI_eq (b := 10) (by omega) (by decide)).mp c124) (by omega))
              refine go_iconst (v := 0) dX10_line_131 rfl ?_
              refine go_iconst (v := 0) dX10_line_132 rfl ?_
              refine go_iconst (v := 0) dX10_line_133 rfl ?_
              refine sg_rVi (M' := mX10_begins) ([.int 0, .int 0, .int 0]) dX10_line_134 lX10_240 vX10_begins (mo_L rfl) (by decide) rfl hS (bg _) rfl (Nat.le_of_ble_eq_true rfl) (Nat.zero_le _) (Nat.zero_le _) (fun g G => ?_)
              refine go_if_eq (tgt := 286) dX10_line_137 (by decide) (fun c137 => absurd c137 (by decide)) (fun c137 => ?_)
              exact go140 g G
          · rw [if_neg k4] at hRR
            have n12 := kv 12 (by decide) k4
            by_cases k5 : kwN b n (yS Y) = 14
            · rw [if_pos k5] at hRR
              rw [if_neg (by omega), k5] at hkv
              rw [← hkv] at n12 ⊢
              rw [← hRR]
              unfold yTerm
              by_cases c1 : yM Y = 1
              · rw [if_pos c1]
                rw [if_neg (by omega)] at m27
                have bg := fun d => bgY d 0 0 1 o0 o0 o1
                rw [if_pos (by decide), if_pos (by decide), if_neg (by decide), if_neg (by decide), if_pos (by decide)] at bg
                refine go_iloadn dX10_line_111 rfl ?_
                refine go_bipush (v := 12) dX10_line_112 rfl ?_
                refine go_icmp_ne (tgt := 147) dX10_line_114 (by decide) (fun c114 => ?_) (fun c114 => absurd c114 n12)
                refine go_iloadn dX10_line_147 rfl ?_
                refine go_bipush (v := 14) dX10_line_148 rfl ?_
                refine go_icmp_ne (tgt := 189) dX10_line_150 (by decide) (fun c150 => absurd rfl c150) (fun c150 => ?_)
                refine go_aloadn dX10_line_153 rfl ?_
                refine go_iconst (v := 0) dX10_line_154 rfl ?_
                refine go_iconst (v := 0) dX10_line_155 rfl ?_
                refine go_aloadn dX10_line_156 rfl ?_
                refine sg_getI dX10_line_157 fX10_250 rfl (mo_L rfl) hS ?_
                rw [m27]
                refine go_iconst (v := -1) dX10_line_160 rfl ?_
                refine go_icmp_eq (tgt := 168) dX10_line_161 (by decide) (fun c161 => absurd c161 (nI_m1 (by omega))) (fun c161 => ?_)
                refine go_iconst (v := 1) dX10_line_164 rfl ?_
                refine go_goto (tgt := 169) dX10_line_165 (by decide) ?_
                refine sg_rVi (M' := mX10_begins) ([.int 0, .int 0, .int 1]) dX10_line_169 lX10_240 vX10_begins (mo_L rfl) (by decide) rfl hS (bg _) rfl (Nat.le_of_ble_eq_true rfl) (Nat.zero_le _) (Nat.zero_le _) (fun g G => ?_)
                refine go_if_eq (tgt := 286) dX10_line_172 (by decide) (fun c172 => ?_) (fun c172 => absurd rfl c172)
                exact q_ln286 hS0 (lc_f G.1 G.2 (by decide))
              · rw [if_neg c1]
                rw [if_pos (by omega)] at m27
                have bg := fun d => bgY d 0 0 0 o0 o0 o0
                rw [if_neg (by decide), if_neg (by decide), if_neg (by decide), if_neg (by decide), if_neg (by decide)] at bg
                generalize hR2 : (if nmF b n (nx b n (yS Y)) 1 99 = 0 then yEnd b n (Y.1, (yP Y, 1), ((cN (yC Y), cP (yC Y), cL (yC Y), nvT b n (nx b n (yS Y))), (yC Y).2), Y.2.2.2) (nx b n (nx b n (yS Y))) else yFl Y (nx b n (yS Y)) (nmF b n (nx b n (yS Y)) 1 99)) = R2
                have go175 : ∀ g, Fj SGr h g ∧ RM g b n (nx b n (yS Y)) (0, 0) → Go l (rmOf (d + 7) (0, 0)) mX10_line (hN h) (Zm (0, 0) (fun v0 h1 => v0 = none ∧ LNm h h1 b n R2) noX) 175 [some (.ref 77), some (.int (nI 14))] [] g 0 0 := by
                  intro g G
                  have hS := G.1.St hS
                  have M1 := M.gr G.1 (Y' := Y) rfl
                  have nu := fun d => q_number (l := l) (d := d) (lo := 1) (hi := 99) hS G.2 (by decide) (by decide)
                  generalize nx b n (yS Y) = t at *
                  by_cases y : nmF b n t 1 99 = 0
                  · rw [if_pos y] at hR2
                    obtain ⟨k2, -, -⟩ := nm_2 y
                    rw [if_pos ⟨rfl, k2⟩, if_pos ⟨rfl, y⟩, if_neg (fun q => q.2 y)] at nu
                    have post : ∀ g1, Fj SGr g g1 ∧ RM g1 b n (nx b n t) (0, 0) → LCm h (uI g1 77 27 (nI (nvT b n t))) b n R2 := by
                      intro g1 G1
                      have F2 : Fz (fun a k => a = 77 ∧ k = 27) g1 (uI g1 77 27 (nI (nvT b n t))) := Fz.rf.uI ⟨rfl, rfl⟩
                      have w1 : hI (uI g1 77 27 (nI (nvT b n t))) 77 27 = nI (nvT b n t) := hI_uI_eq
                      generalize uI g1 77 27 (nI (nvT b n t)) = g2 at *
                      have M2 := M1.gr G1.1 (Y' := Y) rfl
                      rw [← hR2]
                      refine Or.inl ⟨((G.1.tr G1.1).sub (fun _ _ q => q.ln)).tr (F2.ln (fun a k q => by unfold SLn; omega)), Or.inl ⟨_, _, rfl, f0, G1.2.fz F2 (fun k hk => by omega) (fun k => by omega), ?_⟩⟩
                      obtain ⟨⟨q1, q2, q3, q4, q5, q6, q7⟩, q8, q9, q10, q11, q12, q13⟩ := M2
                      have e87 : hI g2 87 = hI g1 87 := funext fun k => F2.I (by omega)
                      exact ⟨⟨by rw [F2.I (by omega)]; exact q1, by rw [F2.I (by omega)]; exact q2, by rw [F2.I (by omega)]; exact q3, by rw [w1]; rfl, by rw [F2.I (by omega)]; exact q5, by rw [F2.I (by omega)]; exact q6, by rw [F2.I (by omega)]; exact q7⟩, fun p hp => by rw [F2.I (by omega), F2.I (by omega), F2.I (by omega), F2.I (by omega)]; exact q8 p hp, fun j hj => by rw [F2.I (by omega)]; exact q9 j hj, fun t ht => by rw [F2.I (by omega), F2.I (by omega), F2.I (by omega), F2.I (by omega), F2.I (by omega)]; exact q10 t ht, by rw [F2.I (by omega)]; exact q11, by rw [e87]; exact q12, by rw [e87]; exact q13⟩
                    refine go_aloadn dX10_line_175 rfl ?_
                    refine go_aloadn dX10_line_176 rfl ?_
                    refine go_iconst (v := 1) dX10_line_177 rfl ?_
                    refine go_bipush (v := 99) dX10_line_178 rfl ?_
                    refine sg_rVi (M' := mX10_number) ([.int (nI 1), .int (nI 99)]) dX10_line_180 lX10_227 vX10_number (mo_L rfl) (by decide) rfl hS (nu _) rfl (Nat.le_of_ble_eq_true rfl) (Nat.zero_le _) (Nat.zero_le _) (fun g1 G1 => ?_)
                    have hS := G1.1.St hS
                    refine sg_putI dX10_line_183 fX10_250 rfl rfl (mo_L rfl) hS ?_
                    refine go_goto (tgt := 286) dX10_line_186 (by decide) ?_
                    exact q_ln286 hS0 (post g1 G1)
                  · rw [if_neg y] at hR2
                    generalize (if (0, 0).1 = 0 ∧ tkK b n t = 2 then nI (nvT b n t) else 0) = X at nu
                    rw [if_neg (fun q => y q.2), if_pos ⟨rfl, y⟩] at nu
                    have post : ∀ g1, Fj SGr g g1 ∧ RM g1 b n t (nmF b n t 1 99, t) → LCm h (uI g1 77 27 X) b n R2 := by
                      intro g1 G1
                      have F2 : Fz (fun a k => a = 77 ∧ k = 27) g1 (uI g1 77 27 X) := Fz.rf.uI ⟨rfl, rfl⟩
                      rw [← hR2]
                      exact Or.inl ⟨((G.1.tr G1.1).sub (fun _ _ q => q.ln)).tr (F2.ln (fun a k q => by unfold SLn; omega)), Or.inr ⟨y, _, G1.2.fz F2 (fun k hk => by omega) (fun k => by omega)⟩⟩
                    refine go_aloadn dX10_line_175 rfl ?_
                    refine go_aloadn dX10_line_176 rfl ?_
                    refine go_iconst (v := 1) dX10_line_177 rfl ?_
                    refine go_bipush (v := 99) dX10_line_178 rfl ?_
                    refine sg_rVi (M' := mX10_number) ([.int (nI 1), .int (nI 99)]) dX10_line_180 lX10_227 vX10_number (mo_L rfl) (by decide) rfl hS (nu _) rfl (Nat.le_of_ble_eq_true rfl) (Nat.zero_le _) (Nat.zero_le _) (fun g1 G1 => ?_)
                    have hS := G1.1.St hS
                    refine sg_putI dX10_line_183 fX10_250 rfl rfl (mo_L rfl) hS ?_
                    refine go_goto (tgt := 286) dX10_line_186 (by decide) ?_
                    exact q_ln286 hS0 (post g1 G1)
                refine go_iloadn dX10_line_111 rfl ?_
                refine go_bipush (v := 12) dX10_line_112 rfl ?_
                refine go_icmp_ne (tgt := 147) dX10_line_114 (by decide) (fun c114 => ?_) (fun c114 => absurd c114 n12)
                refine go_iloadn dX10_line_147 rfl ?_
                refine go_bipush (v := 14) dX10_line_148 rfl ?_
                refine go_icmp_ne (tgt := 189) dX10_line_150 (by decide) (fun c150 => absurd rfl c150) (fun c150 => ?_)
                refine go_aloadn dX10_line_153 rfl ?_
                refine go_iconst (v := 0) dX10_line_154 rfl ?_
                refine go_iconst (v := 0) dX10_line_155 rfl ?_
                refine go_aloadn dX10_line_156 rfl ?_
                refine sg_getI dX10_line_157 fX10_250 rfl (mo_L rfl) hS ?_
                rw [m27]
                refine go_iconst (v := -1) dX10_line_160 rfl ?_
                refine go_icmp_eq (tgt := 168) dX10_line_161 (by decide) (fun c161 => ?_) (fun c161 => absurd rfl c161)
                refine go_iconst (v := 0) dX10_line_168 rfl ?_
                refine sg_rVi (M' := mX10_begins) ([.int 0, .int 0, .int 0]) dX10_line_169 lX10_240 vX10_begins (mo_L rfl) (by decide) rfl hS (bg _) rfl (Nat.le_of_ble_eq_true rfl) (Nat.zero_le _) (Nat.zero_le _) (fun g G => ?_)
                refine go_if_eq (tgt := 286) dX10_line_172 (by decide) (fun c172 => absurd c172 (by decide)) (fun c172 => ?_)
                exact go175 g G
            · rw [if_neg k5] at hRR
              have n14 := kv 14 (by decide) k5
              -- rules
              have rul : ∀ sh kk, (sh = 1 ∧ kk = 15) ∨ (sh = 0 ∧ kk = 16) → kwN b n (yS Y) = kk → (¬ ((sh = 1 ∧ ¬ (cSh (yC Y)).1 = 0) ∨ (¬ sh = 1 ∧ ¬ (cRe (yC Y)).1 = 0))) → ∀ g, Fj SGr h g ∧ RM g b n (nx b n (yS Y)) (0, 0) → (∀ d, Ey l (d + 6) mX10_expression [.ref 77, .int (nI (if sh = 1 then 0 else 5)), .int (nI (if sh = 1 then 6 else 8))] (uI g 77 (if sh = 1 then 28 else 29) (nI (yK Y).2)) none (fun g2 => LCm h g2 b n (yRule b n sh Y))) := by
                intro sh kk hsk hkk ht g G d
                have sn' := sn (by omega)
                have ng := nx_gt (b := b) sn'
                have F1 : Fz (fun a k => a = 77 ∧ k = (if sh = 1 then 28 else 29)) g (uI g 77 (if sh = 1 then 28 else 29) (nI (yK Y).2)) := Fz.rf.uI ⟨rfl, rfl⟩
                have w1 : hI (uI g 77 (if sh = 1 then 28 else 29) (nI (yK Y).2)) 77 (if sh = 1 then 28 else 29) = nI (yK Y).2 := hI_uI_eq
                have M1 := M.gr G.1 (Y' := Y) rfl
                have i28 : (if sh = 1 then 28 else 29) = 28 ∨ (if sh = 1 then 28 else 29) = 29 := by split <;> omega
                generalize hii : (if sh = 1 then 28 else 29) = ii at *
                generalize uI g 77 ii (nI (yK Y).2) = g1 at *
                have S1 := F1.St (G.1.St hS)
                have R1 := G.2.fz F1 (fun k hk => by omega) (fun k => by omega)
                have e30 : hI g1 77 30 = nI (yK Y).2 := by rw [F1.I (by omega)]; exact M1.1.2.2.2.2.2.2
                refine (q_expression (d := d) (A := ruA sh) S1 (by omega) ru_A R1 iS.2.1 e30 (by have := iS.2.2.2; omega)).mono (fun g2 E => ?_)
                obtain ⟨F2, E⟩ := E
                have Fl : Fj SLn h g2 := ((G.1.sub (fun _ _ q => q.ln)).tr (F1.ln (fun a k q => by unfold SLn; omega))).tr (F2.sub (fun a k q => by unfold Sxe Sxm SGr at q; unfold SLn; omega))
                refine lc_rule I f0 sn' (by omega) ht Fl E (fun p p0 h30 hp => ?_)
                obtain ⟨⟨q1, q2, q3, q4, q5, q6, q7⟩, q8, q9, q10, q11, q12, q13⟩ := M1
                have eI : ∀ a k, ¬ Sxe (yK Y).2 a k → ¬ (a = 77 ∧ k = ii) → hI g2 a k = hI g a k := fun a k z1 z2 => (F2.I z1).trans (F1.I z2)
                have eP : ∀ a pp, a + mpF pp pp.1 + 1 ≤ (yK Y).2 → PM (hI g 87) a pp → PM (hI g2 87) a pp := fun a pp hle H => H.low hle (fun k hk => eI _ _ (by unfold Sxe Sxm SGr; omega) (by omega))
                have x24 := eI 77 24 (by unfold Sxe Sxm SGr; omega) (by omega)
                have x25 := eI 77 25 (by unfold Sxe Sxm SGr; omega) (by omega)
                have x26 := eI 77 26 (by unfold Sxe Sxm SGr; omega) (by omega)
                have x27 := eI 77 27 (by unfold Sxe Sxm SGr; omega) (by omega)
                have xii : hI g2 77 ii = nI (yK Y).2 := (F2.I (by unfold Sxe Sxm SGr; omega)).trans w1
                have y8 : ∀ p, p < cP (yC Y) → hI g2 84 p = nI (cWl (yC Y) p) ∧ hI g2 89 p = cBl (yC Y) p ∧ hI g2 86 (49 + p) = tV (yT Y) p ∧ hI g2 86 (41 + p) = 0 := fun p hp => by
                  rw [eI _ _ (by unfold Sxe Sxm SGr; omega) (by omega), eI _ _ (by unfold Sxe Sxm SGr; omega) (by omega), eI _ _ (by unfold Sxe Sxm SGr; omega) (by omega), eI _ _ (by unfold Sxe Sxm SGr; omega) (by omega)]; exact q8 p hp
                have y9 : ∀ i, i < 48 → hI g2 86 (57 + i) = tW (yT Y) i := fun i hi => by rw [eI _ _ (by unfold Sxe Sxm SGr; omega) (by omega)]; exact q9 i hi
                have y10 : ∀ t, t < cN (yC Y) → hI g2 85 t = cWt (yC Y) t ∧ hI g2 86 (31 + t) = tX (yT Y) t ∧ hI g2 86 (1 + t) = tO (yT Y) t ∧ hI g2 86 (11 + t) = tB (yT Y) t ∧ hI g2 86 (21 + t) = 0 := fun t ht => by
                  rw [eI _ _ (by unfold Sxe Sxm SGr; omega) (by omega), eI _ _ (by unfold Sxe Sxm SGr; omega) (by omega), eI _ _ (by unfold Sxe Sxm SGr; omega) (by omega), eI _ _ (by unfold Sxe Sxm SGr; omega) (by omega), eI _ _ (by unfold Sxe Sxm SGr; omega) (by omega)]; exact q10 t ht
                have y11 : hI g2 86 0 = 0 := by rw [eI _ _ (by unfold Sxe Sxm SGr; omega) (by omega)]; exact q11
                unfold yRu1
                rcases hsk with ⟨e1, e2⟩ | ⟨e1, e2⟩
                · rw [if_pos e1] at hii ⊢
                  subst hii
                  have x29 := eI 77 29 (by unfold Sxe Sxm SGr; omega) (by omega)
                  refine ⟨⟨by rw [x24]; exact q1, by rw [x25]; exact q2, by rw [x26]; exact q3, by rw [x27]; exact q4, by rw [xii]; exact (if_neg p0).symm, by rw [x29]; exact q6, h30⟩, y8, y9, y10, y11, fun _ => hp, fun z => eP _ _ (iX.2 z) (q13 z)⟩
                · rw [if_neg (by omega)] at hii ⊢
                  subst hii
                  have x28 := eI 77 28 (by unfold Sxe Sxm SGr; omega) (by omega)
                  refine ⟨⟨by rw [x24]; exact q1, by rw [x25]; exact q2, by rw [x26]; exact q3, by rw [x27]; exact q4, by rw [x28]; exact q5, by rw [xii]; exact (if_neg p0).symm, h30⟩, y8, y9, y10, y11, fun z => eP _ _ (iX.1 z) (q12 z), fun _ => hp⟩
              by_cases k6 : kwN b n (yS Y) = 15
              · rw [if_pos k6] at hRR
                rw [if_neg (by omega), k6] at hkv
                rw [← hkv] at n12 n14 ⊢
                by_cases c1 : (cSh (yC Y)).1 = 0
                · rw [if_pos c1] at m28
                  have bg := fun d => bgY d 0 0 0 o0 o0 o0
                  rw [if_neg (by decide), if_neg (by decide), if_neg (by decide), if_neg (by decide), if_neg (by decide)] at bg
                  have go217 : ∀ g, Fj SGr h g ∧ RM g b n (nx b n (yS Y)) (0, 0) → Go l (rmOf (d + 7) (0, 0)) mX10_line (hN h) (Zm (0, 0) (fun v0 h1 => v0 = none ∧ LNm h h1 b n RR) noX) 217 [some (.ref 77), some (.int (nI 15))] [] g 0 0 := by
                    intro g G
                    have hS := G.1.St hS
                    have ex := rul 1 15 (Or.inl ⟨rfl, rfl⟩) k6 (by omega) g G
                    rw [if_pos rfl, if_pos rfl, if_pos rfl, hRR] at ex
                    have e30 : hI g 77 30 = nI (yK Y).2 := (M.gr G.1 (Y' := Y) rfl).1.2.2.2.2.2.2
                    refine go_aloadn dX10_line_217 rfl ?_
                    refine go_aloadn dX10_line_218 rfl ?_
                    refine sg_getI dX10_line_219 fX10_171 rfl (mo_L rfl) hS ?_
                    rw [e30]
                    refine sg_putI dX10_line_222 fX10_253 rfl rfl (mo_L rfl) hS ?_
                    refine go_aloadn dX10_line_225 rfl ?_
                    refine go_iconst (v := 0) dX10_line_226 rfl ?_
                    refine go_bipush (v := 6) dX10_line_227 rfl ?_
                    refine sg_rV0 (M' := mX10_expression) ([.int (nI 0), .int (nI 6)]) dX10_line_229 lX10_256 vX10_expression (mo_L rfl) (by decide) rfl hS (ex _) rfl (Nat.le_of_ble_eq_true rfl) (Nat.zero_le _) (Nat.zero_le _) (fun g2 E => ?_)
                    refine go_goto (tgt := 286) dX10_line_232 (by decide) ?_
                    exact q_ln286 hS0 E
                  refine go_iloadn dX10_line_111 rfl ?_
                  refine go_bipush (v := 12) dX10_line_112 rfl ?_
                  refine go_icmp_ne (tgt := 147) dX10_line_114 (by decide) (fun c114 => ?_) (fun c114 => absurd c114 n12)
                  refine go_iloadn dX10_line_147 rfl ?_
                  refine go_bipush (v := 14) dX10_line_148 rfl ?_
                  refine go_icmp_ne (tgt := 189) dX10_line_150 (by decide) (fun c150 => ?_) (fun c150 => absurd c150 n14)
                  refine go_iloadn dX10_line_189 rfl ?_
                  refine go_bipush (v := 15) dX10_line_190 rfl ?_
                  refine go_icmp_ne (tgt := 235) dX10_line_192 (by decide) (fun c192 => absurd rfl c192) (fun c192 => ?_)
                  refine go_aloadn dX10_line_195 rfl ?_
                  refine go_iconst (v := 0) dX10_line_196 rfl ?_
                  refine go_iconst (v := 0) dX10_line_197 rfl ?_
                  refine go_aloadn dX10_line_198 rfl ?_
                  refine sg_getI dX10_line_199 fX10_253 rfl (mo_L rfl) hS ?_
                  rw [m28]
                  refine go_iconst (v := -1) dX10_line_202 rfl ?_
                  refine go_icmp_eq (tgt := 210) dX10_line_203 (by decide) (fun c203 => ?_) (fun c203 => absurd rfl c203)
                  refine go_iconst (v := 0) dX10_line_210 rfl ?_
                  refine sg_rVi (M' := mX10_begins) ([.int 0, .int 0, .int 0]) dX10_line_211 lX10_240 vX10_begins (mo_L rfl) (by decide) rfl hS (bg _) rfl (Nat.le_of_ble_eq_true rfl) (Nat.zero_le _) (Nat.zero_le _) (fun g G => ?_)
                  refine go_if_eq (tgt := 286) dX10_line_214 (by decide) (fun c214 => absurd c214 (by decide)) (fun c214 => ?_)
                  exact go217 g G
                · have eRR : RR = yFl Y (yS Y) 5 := by rw [← hRR]; unfold yRule; rw [if_pos (Or.inl ⟨rfl, c1⟩)]
                  rw [eRR]
                  rw [if_neg c1] at m28
                  have a28 := iX.1 c1
                  have bg := fun d => bgY d 0 0 1 o0 o0 o1
                  rw [if_pos (by decide), if_pos (by decide), if_neg (by decide), if_neg (by decide), if_pos (by decide)] at bg
                  refine go_iloadn dX10_line_111 rfl ?_
                  refine go_bipush (v := 12) dX10_line_112 rfl ?_
                  refine go_icmp_ne (tgt := 147) dX10_line_114 (by decide) (fun c114 => ?_) (fun c114 => absurd c114 n12)
                  refine go_iloadn dX10_line_147 rfl ?_
                  refine go_bipush (v := 14) dX10_line_148 rfl ?_
                  refine go_icmp_ne (tgt := 189) dX10_line_150 (by decide) (fun c150 => ?_) (fun c150 => absurd c150 n14)
                  refine go_iloadn dX10_line_189 rfl ?_
                  refine go_bipush (v := 15) dX10_line_190 rfl ?_
                  refine go_icmp_ne (tgt := 235) dX10_line_192 (by decide) (fun c192 => absurd rfl c192) (fun c192 => ?_)
                  refine go_aloadn dX10_line_195 rfl ?_
                  refine go_iconst (v := 0) dX10_line_196 rfl ?_
                  refine go_iconst (v := 0) dX10_line_197 rfl ?_
                  refine go_aloadn dX10_line_198 rfl ?_
                  refine sg_getI dX10_line_199 fX10_253 rfl (mo_L rfl) hS ?_
                  rw [m28]
                  refine go_iconst (v := -1) dX10_line_202 rfl ?_
                  refine go_icmp_eq (tgt := 210) dX10_line_203 (by decide) (fun c203 => absurd c203 (nI_m1 (by omega))) (fun c203 => ?_)
                  refine go_iconst (v := 1) dX10_line_206 rfl ?_
                  refine go_goto (tgt := 211) dX10_line_207 (by decide) ?_
                  refine sg_rVi (M' := mX10_begins) ([.int 0, .int 0, .int 1]) dX10_line_211 lX10_240 vX10_begins (mo_L rfl) (by decide) rfl hS (bg _) rfl (Nat.le_of_ble_eq_true rfl) (Nat.zero_le _) (Nat.zero_le _) (fun g G => ?_)
                  refine go_if_eq (tgt := 286) dX10_line_214 (by decide) (fun c214 => ?_) (fun c214 => absurd rfl c214)
                  exact q_ln286 hS0 (lc_f G.1 G.2 (by decide))
              · rw [if_neg k6] at hRR
                have n15 := kv 15 (by decide) k6
                by_cases k7 : kwN b n (yS Y) = 16
                · rw [if_pos k7] at hRR
                  rw [if_neg (by omega), k7] at hkv
                  rw [← hkv] at n12 n14 n15 ⊢
                  by_cases c1 : (cRe (yC Y)).1 = 0
                  · rw [if_pos c1] at m29
                    have bg := fun d => bgY d 0 0 0 o0 o0 o0
                    rw [if_neg (by decide), if_neg (by decide), if_neg (by decide), if_neg (by decide), if_neg (by decide)] at bg
                    have go263 : ∀ g, Fj SGr h g ∧ RM g b n (nx b n (yS Y)) (0, 0) → Go l (rmOf (d + 7) (0, 0)) mX10_line (hN h) (Zm (0, 0) (fun v0 h1 => v0 = none ∧ LNm h h1 b n RR) noX) 263 [some (.ref 77), some (.int (nI 16))] [] g 0 0 := by
                      intro g G
                      have hS := G.1.St hS
                      have ex := rul 0 16 (Or.inr ⟨rfl, rfl⟩) k7 (by omega) g G
                      rw [if_neg (by decide), if_neg (by decide), if_neg (by decide), hRR] at ex
                      have e30 : hI g 77 30 = nI (yK Y).2 := (M.gr G.1 (Y' := Y) rfl).1.2.2.2.2.2.2
                      refine go_aloadn dX10_line_263 rfl ?_
                      refine go_aloadn dX10_line_264 rfl ?_
                      refine sg_getI dX10_line_265 fX10_171 rfl (mo_L rfl) hS ?_
                      rw [e30]
                      refine sg_putI dX10_line_268 fX10_260 rfl rfl (mo_L rfl) hS ?_
                      refine go_aloadn dX10_line_271 rfl ?_
                      refine go_iconst (v := 5) dX10_line_272 rfl ?_
                      refine go_bipush (v := 8) dX10_line_273 rfl ?_
                      refine sg_rV0 (M' := mX10_expression) ([.int (nI 5), .int (nI 8)]) dX10_line_275 lX10_256 vX10_expression (mo_L rfl) (by decide) rfl hS (ex _) rfl (Nat.le_of_ble_eq_true rfl) (Nat.zero_le _) (Nat.zero_le _) (fun g2 E => ?_)
                      refine go_goto (tgt := 286) dX10_line_278 (by decide) ?_
                      exact q_ln286 hS0 E
                    refine go_iloadn dX10_line_111 rfl ?_
                    refine go_bipush (v := 12) dX10_line_112 rfl ?_
                    refine go_icmp_ne (tgt := 147) dX10_line_114 (by decide) (fun c114 => ?_) (fun c114 => absurd c114 n12)
                    refine go_iloadn dX10_line_147 rfl ?_
                    refine go_bipush (v := 14) dX10_line_148 rfl ?_
                    refine go_icmp_ne (tgt := 189) dX10_line_150 (by decide) (fun c150 => ?_) (fun c150 => absurd c150 n14)
                    refine go_iloadn dX10_line_189 rfl ?_
                    refine go_bipush (v := 15) dX10_line_190 rfl ?_
                    refine go_icmp_ne (tgt := 235) dX10_line_192 (by decide) (fun c192 => ?_) (fun c192 => absurd c192 n15)
                    refine go_iloadn dX10_line_235 rfl ?_
                    refine go_bipush (v := 16) dX10_line_236 rfl ?_
                    refine go_icmp_ne (tgt := 281) dX10_line_238 (by decide) (fun c238 => absurd rfl c238) (fun c238 => ?_)
                    refine go_aloadn dX10_line_241 rfl ?_
                    refine go_iconst (v := 0) dX10_line_242 rfl ?_
                    refine go_iconst (v := 0) dX10_line_243 rfl ?_
                    refine go_aloadn dX10_line_244 rfl ?_
                    refine sg_getI dX10_line_245 fX10_260 rfl (mo_L rfl) hS ?_
                    rw [m29]
                    refine go_iconst (v := -1) dX10_line_248 rfl ?_
                    refine go_icmp_eq (tgt := 256) dX10_line_249 (by decide) (fun c249 => ?_) (fun c249 => absurd rfl c249)
                    refine go_iconst (v := 0) dX10_line_256 rfl ?_
                    refine sg_rVi (M' := mX10_begins) ([.int 0, .int 0, .int 0]) dX10_line_257 lX10_240 vX10_begins (mo_L rfl) (by decide) rfl hS (bg _) rfl (Nat.le_of_ble_eq_true rfl) (Nat.zero_le _) (Nat.zero_le _) (fun g G => ?_)
                    refine go_if_eq (tgt := 286) dX10_line_260 (by decide) (fun c260 => absurd c260 (by decide)) (fun c260 => ?_)
                    exact go263 g G
                  · have eRR : RR = yFl Y (yS Y) 5 := by rw [← hRR]; unfold yRule; rw [if_pos (Or.inr ⟨by decide, c1⟩)]
                    rw [eRR]
                    rw [if_neg c1] at m29
                    have a29 := iX.2 c1
                    have bg := fun d => bgY d 0 0 1 o0 o0 o1
                    rw [if_pos (by decide), if_pos (by decide), if_neg (by decide), if_neg (by decide), if_pos (by decide)] at bg
                    refine go_iloadn dX10_line_111 rfl ?_
                    refine go_bipush (v := 12) dX10_line_112 rfl ?_
                    refine go_icmp_ne (tgt := 147) dX10_line_114 (by decide) (fun c114 => ?_) (fun c114 => absurd c114 n12)
                    refine go_iloadn dX10_line_147 rfl ?_
                    refine go_bipush (v := 14) dX10_line_148 rfl ?_
                    refine go_icmp_ne (tgt := 189) dX10_line_150 (by decide) (fun c150 => ?_) (fun c150 => absurd c150 n14)
                    refine go_iloadn dX10_line_189 rfl ?_
                    refine go_bipush (v := 15) dX10_line_190 rfl ?_
                    refine go_icmp_ne (tgt := 235) dX10_line_192 (by decide) (fun c192 => ?_) (fun c192 => absurd c192 n15)
                    refine go_iloadn dX10_line_235 rfl ?_
                    refine go_bipush (v := 16) dX10_line_236 rfl ?_
                    refine go_icmp_ne (tgt := 281) dX10_line_238 (by decide) (fun c238 => absurd rfl c238) (fun c238 => ?_)
                    refine go_aloadn dX10_line_241 rfl ?_
                    refine go_iconst (v := 0) dX10_line_242 rfl ?_
                    refine go_iconst (v := 0) dX10_line_243 rfl ?_
                    refine go_aloadn dX10_line_244 rfl ?_
                    refine sg_getI dX10_line_245 fX10_260 rfl (mo_L rfl) hS ?_
                    rw [m29]
                    refine go_iconst (v := -1) dX10_line_248 rfl ?_
                    refine go_icmp_eq (tgt := 256) dX10_line_249 (by decide) (fun c249 => absurd c249 (nI_m1 (by omega))) (fun c249 => ?_)
                    refine go_iconst (v := 1) dX10_line_252 rfl ?_
                    refine go_goto (tgt := 257) dX10_line_253 (by decide) ?_
                    refine sg_rVi (M' := mX10_begins) ([.int 0, .int 0, .int 1]) dX10_line_257 lX10_240 vX10_begins (mo_L rfl) (by decide) rfl hS (bg _) rfl (Nat.le_of_ble_eq_true rfl) (Nat.zero_le _) (Nat.zero_le _) (fun g G => ?_)
                    refine go_if_eq (tgt := 286) dX10_line_260 (by decide) (fun c260 => ?_) (fun c260 => absurd rfl c260)
                    exact q_ln286 hS0 (lc_f G.1 G.2 (by decide))
                · rw [if_neg k7] at hRR
                  have n16 := kv 16 (by decide) k7
                  have W := R.wr (y := 1) (by decide) (by decide)
                  rw [wrF, if_pos rfl] at W
                  rw [← hRR]
                  refine go_iloadn dX10_line_111 rfl ?_
                  refine go_bipush (v := 12) dX10_line_112 rfl ?_
                  refine go_icmp_ne (tgt := 147) dX10_line_114 (by decide) (fun c114 => ?_) (fun c114 => absurd c114 n12)
                  refine go_iloadn dX10_line_147 rfl ?_
                  refine go_bipush (v := 14) dX10_line_148 rfl ?_
                  refine go_icmp_ne (tgt := 189) dX10_line_150 (by decide) (fun c150 => ?_) (fun c150 => absurd c150 n14)
                  refine go_iloadn dX10_line_189 rfl ?_
                  refine go_bipush (v := 15) dX10_line_190 rfl ?_
                  refine go_icmp_ne (tgt := 235) dX10_line_192 (by decide) (fun c192 => ?_) (fun c192 => absurd c192 n15)
                  refine go_iloadn dX10_line_235 rfl ?_
                  refine go_bipush (v := 16) dX10_line_236 rfl ?_
                  refine go_icmp_ne (tgt := 281) dX10_line_238 (by decide) (fun c238 => ?_) (fun c238 => absurd c238 n16)
                  refine go_aloadn dX10_line_281 rfl ?_
                  refine go_iconst (v := 1) dX10_line_282 rfl ?_
                  refine sg_cV0 (M' := mX10_wrong) ([.int (nI 1)]) dX10_line_283 lX10_168 vX10_wrong (mo_L rfl) (by decide) rfl hS (q_wrong hS) rfl (Nat.le_of_ble_eq_true rfl) (Nat.zero_le _) (Nat.zero_le _) ?_
                  exact q_ln286 hS0 (lc_f W.2.j W.1 (by decide))
        refine go_aloadn dX10_line_0 rfl ?_
        refine sg_cVi (M' := mX10_knownWord) ([]) dX10_line_1 lX10_186 vX10_knownWord (mo_L rfl) (by decide) rfl hS (kw _) rfl (Nat.le_of_ble_eq_true rfl) (Nat.zero_le _) (Nat.zero_le _) ?_
        refine go_ist1 dX10_line_4 rfl ?_
        refine go_iloadn dX10_line_5 rfl ?_
        refine go_bipush (v := 9) dX10_line_6 rfl ?_
        refine go_icmp_ne (tgt := 58) dX10_line_8 (by decide) (fun c8 => ?_) (fun c8 => absurd c8 n9)
        refine go_iloadn dX10_line_58 rfl ?_
        refine go_bipush (v := 10) dX10_line_59 rfl ?_
        refine go_icmp_eq (tgt := 70) dX10_line_61 (by decide) (fun c61 => absurd c61 n10) (fun c61 => ?_)
        refine go_iloadn dX10_line_64 rfl ?_
        refine go_bipush (v := 11) dX10_line_65 rfl ?_
        refine go_icmp_ne (tgt := 111) dX10_line_67 (by decide) (fun c67 => ?_) (fun c67 => absurd c67 n11)
        exact go111
