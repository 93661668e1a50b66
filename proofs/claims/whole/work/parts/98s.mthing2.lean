/-! the model reads a thing -/
def Sth (N a k : Nat) : Prop := (a = 85 ∧ k = N) ∨ (a = 86 ∧ (k = 31 + N ∨ k = 11 + N ∨ k = 21 + N ∨ k = 1 + N))
theorem MY.th {h g : Hp} {N : Nat} {Y : Ry} (M : MY h Y) (hN' : cN (yC Y) = N) (N10 : N < 10) (P8 : cP (yC Y) ≤ 8) (F : Fz (Sth N) h g) : MY g Y := by
  obtain ⟨⟨m1, m2, m3, m4, m5, m6, m7⟩, m8, m9, m10, m11, m12, m13⟩ := M
  have e87 : hI g 87 = hI h 87 := funext fun k => F.I (by unfold Sth; omega)
  refine ⟨⟨by rw [F.I (by unfold Sth; omega)]; exact m1, by rw [F.I (by unfold Sth; omega)]; exact m2, by rw [F.I (by unfold Sth; omega)]; exact m3, by rw [F.I (by unfold Sth; omega)]; exact m4, by rw [F.I (by unfold Sth; omega)]; exact m5, by rw [F.I (by unfold Sth; omega)]; exact m6, by rw [F.I (by unfold Sth; omega)]; exact m7⟩, fun p hp => ?_, fun j hj => by rw [F.I (by unfold Sth; omega)]; exact m9 j hj, fun t ht => ?_, by rw [F.I (by unfold Sth; omega)]; exact m11, by rw [e87]; exact m12, by rw [e87]; exact m13⟩
  · rw [F.I (by unfold Sth; omega), F.I (by unfold Sth; omega), F.I (by unfold Sth; omega), F.I (by unfold Sth; omega)]; exact m8 p hp
  · have ht' : t < N := by rw [← hN']; exact ht
    rw [F.I (by unfold Sth; omega), F.I (by unfold Sth; omega), F.I (by unfold Sth; omega), F.I (by unfold Sth; omega), F.I (by unfold Sth; omega)]; exact m10 t ht
theorem q_rt152 {l : Launch} {d n w x o s N : Nat} {v : Int32} {b : Nat → Nat} {h g : Hp} {Y : Ry} (hS : St g) (F : Fj SLn h g) (R : RM g b n s (0, 0)) (M : MY g Y) (hN' : cN (yC Y) = N) (N10 : N < 10) (f0 : (yF Y).1 = 0) (v1 : hI g 85 N = nI w) (v2 : hI g 86 (31 + N) = nI x) (v3 : hI g 86 (1 + N) = nI o) (v4 : hI g 86 (11 + N) = v) (v5 : hI g 86 (21 + N) = 0) : Go l (rmOf (d + 4) (0, 0)) mX10_readsThing (hN h) (Zm (0, 0) (fun v0 h1 => v0 = none ∧ LBm h h1 b n (yEnd b n (yTh1 Y w x o v) s)) noX) 152 [some (.ref 77), some (.int (nI N))] [] g 0 0 := by
  have gd : hI g 77 13 = 0 := R.good.mpr rfl
  have ig := fun d => q_isGood (l := l) (d := d) hS
  rw [if_pos gd] at ig
  have e26 := M.1.2.2.1
  rw [hN'] at e26
  have F1 : Fz (fun a k => a = 77 ∧ k = 26) g (uI g 77 26 (nI (N + 1))) := Fz.rf.uI ⟨rfl, rfl⟩
  have w2 : hI (uI g 77 26 (nI (N + 1))) 77 26 = nI (N + 1) := hI_uI_eq
  have post : ∀ g2, g2 = uI g 77 26 (nI (N + 1)) → LBm h g2 b n (yEnd b n (yTh1 Y w x o v) s) := by
    intro g2 hg
    rw [← hg] at F1 w2
    refine ⟨F.tr (F1.ln (fun a k q => by unfold SLn; omega)), Or.inl ⟨yTh1 Y w x o v, s, rfl, f0, R.fz F1 (fun k hk => by omega) (fun k => by omega), ?_⟩⟩
    obtain ⟨⟨m1, m2, m3, m4, m5, m6, m7⟩, m8, m9, m10, m11, m12, m13⟩ := M
    have e87 : hI g2 87 = hI g 87 := funext fun k => F1.I (by omega)
    refine ⟨⟨by rw [F1.I (by omega)]; exact m1, by rw [F1.I (by omega)]; exact m2, by rw [w2]; show _ = nI (cN (yC Y) + 1); rw [hN'], by rw [F1.I (by omega)]; exact m4, by rw [F1.I (by omega)]; exact m5, by rw [F1.I (by omega)]; exact m6, by rw [F1.I (by omega)]; exact m7⟩, fun p hp => ?_, fun j hj => by rw [F1.I (by omega)]; exact m9 j hj, fun t ht => ?_, by rw [F1.I (by omega)]; exact m11, by rw [e87]; exact m12, by rw [e87]; exact m13⟩
    · rw [F1.I (by omega), F1.I (by omega), F1.I (by omega), F1.I (by omega)]; exact m8 p hp
    · have ht : t < N + 1 := by rw [← hN']; exact ht
      show hI g2 85 t = upd (cWt (yC Y)) (cN (yC Y)) (nI w) t ∧ hI g2 86 (31 + t) = upd (tX (yT Y)) (cN (yC Y)) (nI x) t ∧ hI g2 86 (1 + t) = upd (tO (yT Y)) (cN (yC Y)) (nI o) t ∧ hI g2 86 (11 + t) = upd (tB (yT Y)) (cN (yC Y)) v t ∧ hI g2 86 (21 + t) = 0
      rw [hN', F1.I (by omega), F1.I (by omega), F1.I (by omega), F1.I (by omega), F1.I (by omega)]
      by_cases q : t = N
      · subst q
        rw [pk_us, pk_us, pk_us, pk_us]; exact ⟨v1, v2, v3, v4, v5⟩
      · rw [pk_un q, pk_un q, pk_un q, pk_un q]
        exact m10 t (by show t < cN (yC Y); omega)
  refine go_aloadn dX10_readsThing_152 rfl ?_
  refine sg_cVi (M' := mX10_isGood) ([]) dX10_readsThing_153 lX10_161 vX10_isGood (mo_L rfl) (by decide) rfl hS (ig _) rfl (Nat.le_of_ble_eq_true rfl) (Nat.zero_le _) (Nat.zero_le _) ?_
  refine go_if_eq (tgt := 169) dX10_readsThing_156 (by decide) (fun c156 => absurd c156 (by decide)) (fun c156 => ?_)
  refine go_aloadn dX10_readsThing_159 rfl ?_
  refine go_dup dX10_readsThing_160 rfl ?_
  refine sg_getI dX10_readsThing_161 fX10_237 rfl (mo_L rfl) hS ?_
  refine go_iconst (v := 1) dX10_readsThing_164 rfl ?_
  refine go_iadd dX10_readsThing_165 ?_
  rw [e26, nI_1]
  refine sg_putI dX10_readsThing_166 fX10_237 rfl rfl (mo_L rfl) hS ?_
  refine go_return dX10_readsThing_169 rfl (Nat.zero_le _) (Nat.zero_le _) ?_
  exact ⟨rfl, post _ rfl⟩
theorem q_rt66 {l : Launch} {d n w x s N : Nat} {b : Nat → Nat} {h g : Hp} {Y : Ry} (hS : St g) (F : Fj SLn h g) (R : RM g b n s (0, 0)) (M : MY g Y) (hN' : cN (yC Y) = N) (N10 : N < 10) (P8 : cP (yC Y) ≤ 8) (f0 : (yF Y).1 = 0) (k2 : tkK b n s = 2) (v1 : hI g 85 N = nI w) (v2 : hI g 86 (31 + N) = nI x) (v4 : hI g 86 (11 + N) = -1) (v5 : hI g 86 (21 + N) = 0) : Go l (rmOf (d + 4) (0, 0)) mX10_readsThing (hN h) (Zm (0, 0) (fun v0 h1 => v0 = none ∧ LBm h h1 b n (yTh2 b n w x s Y)) noX) 66 [some (.ref 77), some (.int (nI N))] [] g 0 0 := by
  have e21 := R.val
  rw [if_pos k2] at e21
  have nl := nvT_lt k2
  have F1 : Fz (Sth N) g (uI g 86 (1 + N) (nI (nvT b n s))) := Fz.rf.uI (by unfold Sth; omega)
  have F1' : Fz (fun a k => a = 86 ∧ k = 1 + N) g (uI g 86 (1 + N) (nI (nvT b n s))) := Fz.rf.uI ⟨rfl, rfl⟩
  have v3 : hI (uI g 86 (1 + N) (nI (nvT b n s))) 86 (1 + N) = nI (nvT b n s) := hI_uI_eq
  have fin : ∀ g1, g1 = uI g 86 (1 + N) (nI (nvT b n s)) → Go l (rmOf (d + 4) (0, 0)) mX10_readsThing (hN h) (Zm (0, 0) (fun v0 h1 => v0 = none ∧ LBm h h1 b n (yTh2 b n w x s Y)) noX) 78 [some (.ref 77), some (.int (nI N))] [] g1 0 0 := by
    intro g1 hg
    rw [← hg] at F1 F1' v3
    have hS := F1.St hS
    have R1 := R.fz F1 (fun k hk => by unfold Sth; omega) (fun k => by unfold Sth; omega)
    have M1 := M.th hN' N10 P8 F1
    have Fl1 : Fj SLn h g1 := F.tr (F1.ln (fun a k q => by unfold Sth at q; unfold SLn; omega))
    refine go_aloadn dX10_readsThing_78 rfl ?_
    refine sg_rV0 (M' := mX10_goes) ([]) dX10_readsThing_79 lX10_165 vX10_goes (mo_L rfl) (by decide) rfl hS (q_goesR hS R1) rfl (Nat.le_of_ble_eq_true rfl) (Nat.zero_le _) (Nat.zero_le _) (fun g2 G => ?_)
    skip
    have S2 := G.1.St hS
    have M2 := M1.gr G.1 (Y' := Y) rfl
    have Fl2 : Fj SLn h g2 := Fl1.tr (G.1.sub (fun _ _ q => q.ln))
    have x1 : hI g2 85 N = nI w := by rw [G.1.I (by unfold SGr; omega), F1'.I (by omega)]; exact v1
    have x2 : hI g2 86 (31 + N) = nI x := by rw [G.1.I (by unfold SGr; omega), F1'.I (by omega)]; exact v2
    have x3 : hI g2 86 (1 + N) = nI (nvT b n s) := by rw [G.1.I (by unfold SGr; omega)]; exact v3
    have x4 : hI g2 86 (11 + N) = -1 := by rw [G.1.I (by unfold SGr; omega), F1'.I (by omega)]; exact v4
    have x5 : hI g2 86 (21 + N) = 0 := by rw [G.1.I (by unfold SGr; omega), F1'.I (by omega)]; exact v5
    have kw := fun d => q_knownWord (l := l) (d := d) S2 G.2
    have kl := kwN_le (b := b) (n := n) (s := nx b n s)
    have hS := S2
    unfold yTh2
    by_cases z : kwN b n (nx b n s) = 13
    · rw [if_pos z]
      rw [if_neg (by omega), z] at kw
      generalize hRR : (if onF b n (nx b n (nx b n s)) (cP (yC Y)) = 0 then (if nvT b n (nx b n (nx b n s)) = nvT b n s then yFl Y (nx b n (nx b n s)) 4 else yEnd b n (yTh1 Y w x (nvT b n s) (nI (nvT b n (nx b n (nx b n s))))) (nx b n (nx b n (nx b n s)))) else yFl Y (nx b n (nx b n s)) (onF b n (nx b n (nx b n s)) (cP (yC Y)))) = RR
      have go95 : ∀ g3, Fj SGr g2 g3 ∧ RM g3 b n (nx b n (nx b n s)) (0, 0) → Go l (rmOf (d + 4) (0, 0)) mX10_readsThing (hN h) (Zm (0, 0) (fun v0 h1 => v0 = none ∧ LBm h h1 b n RR) noX) 95 [some (.ref 77), some (.int (nI N))] [] g3 0 0 := by
        intro g3 G3
        rw [← hRR]
        clear hRR
        have S3 := G3.1.St hS
        have M3 := M2.gr G3.1 (Y' := Y) rfl
        have Fl3 : Fj SLn h g3 := Fl2.tr (G3.1.sub (fun _ _ q => q.ln))
        generalize nx b n (nx b n s) = t at *
        have io := fun d => q_isOneOf (l := l) (d := d) (m := cP (yC Y)) S3 G3.2 (by omega)
        have e25 := M3.1.2.1
        have hS := S3
        by_cases y : onF b n t (cP (yC Y)) = 0
        · rw [if_pos y]
          rw [if_pos ⟨rfl, y⟩, if_neg (fun q => q.2 y)] at io
          obtain ⟨t2, tl⟩ := on_2 y
          have go107 : ∀ g4, Fj SGr g3 g4 ∧ RM g4 b n t (0, 0) → Go l (rmOf (d + 4) (0, 0)) mX10_readsThing (hN h) (Zm (0, 0) (fun v0 h1 => v0 = none ∧ LBm h h1 b n (if nvT b n t = nvT b n s then yFl Y t 4 else yEnd b n (yTh1 Y w x (nvT b n s) (nI (nvT b n t))) (nx b n t))) noX) 107 [some (.ref 77), some (.int (nI N))] [] g4 0 0 := by
            intro g4 G4
            have S4 := G4.1.St hS
            have M4 := M3.gr G4.1 (Y' := Y) rfl
            have Fl4 : Fj SLn h g4 := Fl3.tr (G4.1.sub (fun _ _ q => q.ln))
            have e21 := G4.2.val
            rw [if_pos t2] at e21
            have tl4 := nvT_lt t2
            have z1 : hI g4 85 N = nI w := by rw [G4.1.I (by unfold SGr; omega), G3.1.I (by unfold SGr; omega)]; exact x1
            have z2 : hI g4 86 (31 + N) = nI x := by rw [G4.1.I (by unfold SGr; omega), G3.1.I (by unfold SGr; omega)]; exact x2
            have z3 : hI g4 86 (1 + N) = nI (nvT b n s) := by rw [G4.1.I (by unfold SGr; omega), G3.1.I (by unfold SGr; omega)]; exact x3
            have z5 : hI g4 86 (21 + N) = 0 := by rw [G4.1.I (by unfold SGr; omega), G3.1.I (by unfold SGr; omega)]; exact x5
            have hS := S4
            have gd : hI g4 77 13 = 0 := G4.2.good.mpr rfl
            have ig := fun d => q_isGood (l := l) (d := d) S4
            rw [if_pos gd] at ig
            by_cases e : nvT b n t = nvT b n s
            · rw [if_pos e]
              have W := G4.2.wr (y := 4) (by decide) (by decide)
              rw [wrF, if_pos rfl] at W
              have wr := fun d => q_wrong (l := l) (d := d) (y := nI 4) S4
              generalize wrH g4 (nI 4) = g5 at *
              have S5 := W.2.St S4
              have ig5 := fun d => q_isGood (l := l) (d := d) S5
              rw [if_neg (fun q => absurd (W.1.good.mp q) (show ¬ (4 : Nat) = 0 by decide))] at ig5
              refine go_aloadn dX10_readsThing_107 rfl ?_
              refine sg_getI dX10_readsThing_108 fX10_129 rfl (mo_L rfl) hS ?_
              rw [e21]
              refine go_aloadn dX10_readsThing_111 rfl ?_
              refine sg_getR dX10_readsThing_112 fX10_51 rfl (mo_L rfl) hS (mo_r37 hS rfl) ?_
              refine go_iconst (v := 1) dX10_readsThing_115 rfl ?_
              refine go_iloadn dX10_readsThing_116 rfl ?_
              refine go_iadd dX10_readsThing_117 ?_
              refine sg_ialdN (i := 1 + N) (x := nI (nvT b n s)) dX10_readsThing_118 (mo_37 rfl) hS (by simp only [lit_nI, nI_add, pk_mul, Nat.add_assoc, Nat.zero_add, Nat.add_zero]) (by omega) (z3) ?_
              refine go_icmp_ne (tgt := 127) dX10_readsThing_119 (by decide) (fun c119 => absurd (by rw [e]) c119) (fun c119 => ?_)
              refine go_aloadn dX10_readsThing_122 rfl ?_
              refine go_iconst (v := 4) dX10_readsThing_123 rfl ?_
              refine sg_cV0 (M' := mX10_wrong) ([.int (nI 4)]) dX10_readsThing_124 lX10_168 vX10_wrong (mo_L rfl) (by decide) rfl hS (wr _) rfl (Nat.le_of_ble_eq_true rfl) (Nat.zero_le _) (Nat.zero_le _) ?_
              have hS := S5
              refine go_aloadn dX10_readsThing_127 rfl ?_
              refine sg_cVi (M' := mX10_isGood) ([]) dX10_readsThing_128 lX10_161 vX10_isGood (mo_L rfl) (by decide) rfl hS (ig5 _) rfl (Nat.le_of_ble_eq_true rfl) (Nat.zero_le _) (Nat.zero_le _) ?_
              refine go_if_ne (tgt := 135) dX10_readsThing_131 (by decide) (fun c131 => absurd rfl c131) (fun c131 => ?_)
              refine go_return dX10_readsThing_134 rfl (Nat.zero_le _) (Nat.zero_le _) ?_
              exact ⟨rfl, Fl4.tr (W.2.ln (fun _ _ q => q.ln)), Or.inr ⟨show ¬ (4 : Nat) = 0 by decide, _, W.1⟩⟩
            · rw [if_neg e]
              have F5 : Fz (Sth N) g4 (uI g4 86 (11 + N) (nI (nvT b n t))) := Fz.rf.uI (by unfold Sth; omega)
              have F5' : Fz (fun a k => a = 86 ∧ k = 11 + N) g4 (uI g4 86 (11 + N) (nI (nvT b n t))) := Fz.rf.uI ⟨rfl, rfl⟩
              have u1 : hI (uI g4 86 (11 + N) (nI (nvT b n t))) 86 (11 + N) = nI (nvT b n t) := hI_uI_eq
              have fi2 : ∀ g5, g5 = uI g4 86 (11 + N) (nI (nvT b n t)) → Go l (rmOf (d + 4) (0, 0)) mX10_readsThing (hN h) (Zm (0, 0) (fun v0 h1 => v0 = none ∧ LBm h h1 b n (yEnd b n (yTh1 Y w x (nvT b n s) (nI (nvT b n t))) (nx b n t))) noX) 148 [some (.ref 77), some (.int (nI N))] [] g5 0 0 := by
                intro g5 hg
                rw [← hg] at F5 F5' u1
                have hS := F5.St S4
                have R5 := G4.2.fz F5 (fun k hk => by unfold Sth; omega) (fun k => by unfold Sth; omega)
                have M5 := M4.th hN' N10 P8 F5
                have Fl5 : Fj SLn h g5 := Fl4.tr (F5.ln (fun a k q => by unfold Sth at q; unfold SLn; omega))
                refine go_aloadn dX10_readsThing_148 rfl ?_
                refine sg_rV0 (M' := mX10_goes) ([]) dX10_readsThing_149 lX10_165 vX10_goes (mo_L rfl) (by decide) rfl hS (q_goesR hS R5) rfl (Nat.le_of_ble_eq_true rfl) (Nat.zero_le _) (Nat.zero_le _) (fun g6 G6 => ?_)
                exact q_rt152 (G6.1.St hS) (Fl5.tr (G6.1.sub (fun _ _ q => q.ln))) G6.2 (M5.gr G6.1 rfl) hN' N10 f0 (by rw [G6.1.I (by unfold SGr; omega), F5'.I (by omega)]; exact z1) (by rw [G6.1.I (by unfold SGr; omega), F5'.I (by omega)]; exact z2) (by rw [G6.1.I (by unfold SGr; omega), F5'.I (by omega)]; exact z3) (by rw [G6.1.I (by unfold SGr; omega)]; exact u1) (by rw [G6.1.I (by unfold SGr; omega), F5'.I (by omega)]; exact z5)
              refine go_aloadn dX10_readsThing_107 rfl ?_
              refine sg_getI dX10_readsThing_108 fX10_129 rfl (mo_L rfl) hS ?_
              rw [e21]
              refine go_aloadn dX10_readsThing_111 rfl ?_
              refine sg_getR dX10_readsThing_112 fX10_51 rfl (mo_L rfl) hS (mo_r37 hS rfl) ?_
              refine go_iconst (v := 1) dX10_readsThing_115 rfl ?_
              refine go_iloadn dX10_readsThing_116 rfl ?_
              refine go_iadd dX10_readsThing_117 ?_
              refine sg_ialdN (i := 1 + N) (x := nI (nvT b n s)) dX10_readsThing_118 (mo_37 rfl) hS (by simp only [lit_nI, nI_add, pk_mul, Nat.add_assoc, Nat.zero_add, Nat.add_zero]) (by omega) (z3) ?_
              refine go_icmp_ne (tgt := 127) dX10_readsThing_119 (by decide) (fun c119 => ?_) (fun c119 => absurd ((nI_eq (by omega) (by omega)).mp c119) e)
              refine go_aloadn dX10_readsThing_127 rfl ?_
              refine sg_cVi (M' := mX10_isGood) ([]) dX10_readsThing_128 lX10_161 vX10_isGood (mo_L rfl) (by decide) rfl hS (ig _) rfl (Nat.le_of_ble_eq_true rfl) (Nat.zero_le _) (Nat.zero_le _) ?_
              refine go_if_ne (tgt := 135) dX10_readsThing_131 (by decide) (fun c131 => ?_) (fun c131 => absurd c131 (by decide))
              refine go_aloadn dX10_readsThing_135 rfl ?_
              refine sg_getR dX10_readsThing_136 fX10_51 rfl (mo_L rfl) hS (mo_r37 hS rfl) ?_
              refine go_bipush (v := 11) dX10_readsThing_139 rfl ?_
              refine go_iloadn dX10_readsThing_141 rfl ?_
              refine go_iadd dX10_readsThing_142 ?_
              refine go_aloadn dX10_readsThing_143 rfl ?_
              refine sg_getI dX10_readsThing_144 fX10_129 rfl (mo_L rfl) hS ?_
              rw [e21]
              refine sg_iastN (i := 11 + N) dX10_readsThing_147 (mo_37 rfl) hS (by simp only [lit_nI, nI_add, pk_mul, Nat.add_assoc, Nat.zero_add, Nat.add_zero]) (by omega) ?_
              exact fi2 _ rfl
          refine go_aloadn dX10_readsThing_95 rfl ?_
          refine go_aloadn dX10_readsThing_96 rfl ?_
          refine sg_getI dX10_readsThing_97 fX10_224 rfl (mo_L rfl) hS ?_
          rw [e25]
          refine sg_rVi (M' := mX10_isOneOf) ([.int (nI (cP (yC Y)))]) dX10_readsThing_100 lX10_234 vX10_isOneOf (mo_L rfl) (by decide) rfl hS (io _) rfl (Nat.le_of_ble_eq_true rfl) (Nat.zero_le _) (Nat.zero_le _) (fun g4 G4 => ?_)
          refine go_if_ne (tgt := 107) dX10_readsThing_103 (by decide) (fun c103 => ?_) (fun c103 => absurd c103 (by decide))
          exact go107 g4 G4
        · rw [if_neg y]
          rw [if_neg (fun q => y q.2), if_pos ⟨rfl, y⟩] at io
          refine go_aloadn dX10_readsThing_95 rfl ?_
          refine go_aloadn dX10_readsThing_96 rfl ?_
          refine sg_getI dX10_readsThing_97 fX10_224 rfl (mo_L rfl) hS ?_
          rw [e25]
          refine sg_rVi (M' := mX10_isOneOf) ([.int (nI (cP (yC Y)))]) dX10_readsThing_100 lX10_234 vX10_isOneOf (mo_L rfl) (by decide) rfl hS (io _) rfl (Nat.le_of_ble_eq_true rfl) (Nat.zero_le _) (Nat.zero_le _) (fun g4 G4 => ?_)
          refine go_if_ne (tgt := 107) dX10_readsThing_103 (by decide) (fun c103 => absurd rfl c103) (fun c103 => ?_)
          refine go_return dX10_readsThing_106 rfl (Nat.zero_le _) (Nat.zero_le _) ?_
          exact ⟨rfl, Fl3.tr (G4.1.sub (fun _ _ q => q.ln)), Or.inr ⟨y, _, G4.2⟩⟩
      refine go_aloadn dX10_readsThing_82 rfl ?_
      refine sg_cVi (M' := mX10_knownWord) ([]) dX10_readsThing_83 lX10_186 vX10_knownWord (mo_L rfl) (by decide) rfl hS (kw _) rfl (Nat.le_of_ble_eq_true rfl) (Nat.zero_le _) (Nat.zero_le _) ?_
      refine go_bipush (v := 13) dX10_readsThing_86 rfl ?_
      refine go_icmp_ne (tgt := 152) dX10_readsThing_88 (by decide) (fun c88 => absurd rfl c88) (fun c88 => ?_)
      refine go_aloadn dX10_readsThing_91 rfl ?_
      refine sg_rV0 (M' := mX10_goes) ([]) dX10_readsThing_92 lX10_165 vX10_goes (mo_L rfl) (by decide) rfl hS (q_goesR hS G.2) rfl (Nat.le_of_ble_eq_true rfl) (Nat.zero_le _) (Nat.zero_le _) (fun g3 G3 => ?_)
      exact go95 g3 G3
    · rw [if_neg z]
      have k13 : ¬ (if kwN b n (nx b n s) = 20 then (-1 : Int32) else nI (kwN b n (nx b n s))) = 13 := by
        by_cases q : kwN b n (nx b n s) = 20
        · rw [if_pos q]; decide
        · rw [if_neg q]; exact fun e => z ((nI_eq (b := 13) (by omega) (by decide)).mp e)
      refine go_aloadn dX10_readsThing_82 rfl ?_
      refine sg_cVi (M' := mX10_knownWord) ([]) dX10_readsThing_83 lX10_186 vX10_knownWord (mo_L rfl) (by decide) rfl hS (kw _) rfl (Nat.le_of_ble_eq_true rfl) (Nat.zero_le _) (Nat.zero_le _) ?_
      refine go_bipush (v := 13) dX10_readsThing_86 rfl ?_
      refine go_icmp_ne (tgt := 152) dX10_readsThing_88 (by decide) (fun c88 => ?_) (fun c88 => absurd c88 k13)
      exact q_rt152 hS Fl2 G.2 M2 hN' N10 f0 x1 x2 x3 x4 x5
  refine go_aloadn dX10_readsThing_66 rfl ?_
  refine sg_getR dX10_readsThing_67 fX10_51 rfl (mo_L rfl) hS (mo_r37 hS rfl) ?_
  refine go_iconst (v := 1) dX10_readsThing_70 rfl ?_
  refine go_iloadn dX10_readsThing_71 rfl ?_
  refine go_iadd dX10_readsThing_72 ?_
  refine go_aloadn dX10_readsThing_73 rfl ?_
  refine sg_getI dX10_readsThing_74 fX10_129 rfl (mo_L rfl) hS ?_
  rw [e21]
  refine sg_iastN (i := 1 + N) dX10_readsThing_77 (mo_37 rfl) hS (by simp only [lit_nI, nI_add, pk_mul, Nat.add_assoc, Nat.zero_add, Nat.add_zero]) (by omega) ?_
  exact fin _ rfl
theorem q_readsThing {l : Launch} {d n s : Nat} {b : Nat → Nat} {h : Hp} {Y : Ry} (hS : St h) (R : RM h b n s (0, 0)) (M : MY h Y) (f0 : (yF Y).1 = 0) (N10 : cN (yC Y) < 10) (P8 : cP (yC Y) ≤ 8) : Ey l (d + 4) mX10_readsThing [.ref 77] h none (fun g => LBm h g b n (yThing3 b n s Y)) := by
  refine run_lv [some (.ref 77), none] (go := ?_)
  have e26 := M.1.2.2.1
  generalize hN' : cN (yC Y) = N at *
  have nu := fun d => q_number (l := l) (d := d) (lo := 1) (hi := 30) hS R (by decide) (by decide)
  generalize hx1 : (if (0, 0).1 = 0 ∧ tkK b n s = 2 then nI (nvT b n s) else 0) = X1 at nu
  generalize hs1 : (if (0, 0).1 = 0 ∧ nmF b n s 1 30 = 0 then nx b n s else s) = s1 at nu
  generalize hf1 : (if (0, 0).1 = 0 ∧ ¬ nmF b n s 1 30 = 0 then (nmF b n s 1 30, s) else (0, 0)) = f1 at nu
  have go17 : ∀ g1, Fj SGr h g1 ∧ RM g1 b n s1 f1 → Go l (rmOf (d + 4) (0, 0)) mX10_readsThing (hN h) (Zm (0, 0) (fun v0 h1 => v0 = none ∧ LBm h h1 b n (yThing3 b n s Y)) noX) 17 [some (.ref 77), some (.int (nI N))] [.int X1, .int (nI N), .ref 85] g1 0 0 := by
    intro g1 G1
    have S1 := G1.1.St hS
    have M1 := M.gr G1.1 (Y' := Y) rfl
    have F2 : Fz (Sth N) g1 (uI g1 85 N X1) := Fz.rf.uI (by unfold Sth; omega)
    have u1 : hI (uI g1 85 N X1) 85 N = X1 := hI_uI_eq
    have hS := S1
    refine sg_iastN (i := N) dX10_readsThing_17 (mo_36 rfl) hS (by simp only [lit_nI, nI_add, pk_mul, Nat.add_assoc, Nat.zero_add, Nat.add_zero]) (by omega) ?_
    skip
    generalize uI g1 85 N X1 = g2 at *
    have S2 := F2.St S1
    have R2 := G1.2.fz F2 (fun k hk => by unfold Sth; omega) (fun k => by unfold Sth; omega)
    have M2 := M1.th hN' N10 P8 F2
    have Fl2 : Fj SLn h g2 := (G1.1.sub (fun _ _ q => q.ln)).tr (F2.ln (fun a k q => by unfold Sth at q; unfold SLn; omega))
    have nu2 := fun d => q_number (l := l) (d := d) (lo := 0) (hi := 9) S2 R2 (by decide) (by decide)
    generalize hx2 : (if f1.1 = 0 ∧ tkK b n s1 = 2 then nI (nvT b n s1) else 0) = X2 at nu2
    generalize hs2 : (if f1.1 = 0 ∧ nmF b n s1 0 9 = 0 then nx b n s1 else s1) = s2 at nu2
    generalize hf2 : (if f1.1 = 0 ∧ ¬ nmF b n s1 0 9 = 0 then (nmF b n s1 0 9, s1) else f1) = f2 at nu2
    have go33 : ∀ g3, Fj SGr g2 g3 ∧ RM g3 b n s2 f2 → Go l (rmOf (d + 4) (0, 0)) mX10_readsThing (hN h) (Zm (0, 0) (fun v0 h1 => v0 = none ∧ LBm h h1 b n (yThing3 b n s Y)) noX) 33 [some (.ref 77), some (.int (nI N))] [.int X2, .int (31 + nI N), .ref 86] g3 0 0 := by
      intro g3 G3
      have S3 := G3.1.St S2
      have M3 := M2.gr G3.1 (Y' := Y) rfl
      have F4 : Fz (fun a k => a = 86 ∧ (k = 31 + N ∨ k = 11 + N ∨ k = 21 + N)) g3 (uI (uI (uI g3 86 (31 + N) X2) 86 (11 + N) (-1)) 86 (21 + N) 0) := ((Fz.rf.uI (by omega)).uI (by omega)).uI (by omega)
      have w1 : hI (uI (uI (uI g3 86 (31 + N) X2) 86 (11 + N) (-1)) 86 (21 + N) 0) 86 (31 + N) = X2 := by repeat first | rw [hI_uI_ne (by omega)] | rw [hI_uI_eq]
      have w2 : hI (uI (uI (uI g3 86 (31 + N) X2) 86 (11 + N) (-1)) 86 (21 + N) 0) 86 (11 + N) = -1 := by repeat first | rw [hI_uI_ne (by omega)] | rw [hI_uI_eq]
      have w3 : hI (uI (uI (uI g3 86 (31 + N) X2) 86 (11 + N) (-1)) 86 (21 + N) 0) 86 (21 + N) = 0 := hI_uI_eq
      have hS := S3
      refine sg_iastN (i := 31 + N) dX10_readsThing_33 (mo_37 rfl) hS (by simp only [lit_nI, nI_add, pk_mul, Nat.add_assoc, Nat.zero_add, Nat.add_zero]) (by omega) ?_
      refine go_aloadn dX10_readsThing_34 rfl ?_
      refine sg_getR dX10_readsThing_35 fX10_51 rfl (mo_L rfl) hS (mo_r37 hS rfl) ?_
      refine go_bipush (v := 11) dX10_readsThing_38 rfl ?_
      refine go_iloadn dX10_readsThing_40 rfl ?_
      refine go_iadd dX10_readsThing_41 ?_
      refine go_iconst (v := -1) dX10_readsThing_42 rfl ?_
      refine sg_iastN (i := 11 + N) dX10_readsThing_43 (mo_37 rfl) hS (by simp only [lit_nI, nI_add, pk_mul, Nat.add_assoc, Nat.zero_add, Nat.add_zero]) (by omega) ?_
      refine go_aloadn dX10_readsThing_44 rfl ?_
      refine sg_getR dX10_readsThing_45 fX10_51 rfl (mo_L rfl) hS (mo_r37 hS rfl) ?_
      refine go_bipush (v := 21) dX10_readsThing_48 rfl ?_
      refine go_iloadn dX10_readsThing_50 rfl ?_
      refine go_iadd dX10_readsThing_51 ?_
      refine go_iconst (v := 0) dX10_readsThing_52 rfl ?_
      refine sg_iastN (i := 21 + N) dX10_readsThing_53 (mo_37 rfl) hS (by simp only [lit_nI, nI_add, pk_mul, Nat.add_assoc, Nat.zero_add, Nat.add_zero]) (by omega) ?_
      skip
      generalize uI (uI (uI g3 86 (31 + N) X2) 86 (11 + N) (-1)) 86 (21 + N) 0 = g4 at *
      have S4 := F4.St S3
      have R4 := G3.2.fz F4 (fun k hk => by omega) (fun k => by omega)
      have M4 := M3.th hN' N10 P8 (F4.sub (fun a k q => by unfold Sth; omega))
      have Fl4 : Fj SLn h g4 := (Fl2.tr (G3.1.sub (fun _ _ q => q.ln))).tr (F4.ln (fun a k q => by unfold SLn; omega))
      have io := fun d => q_isOneOf (l := l) (d := d) (m := cP (yC Y)) S4 R4 (by omega)
      have e25 := M4.1.2.1
      have x1 : hI g4 85 N = X1 := by rw [F4.I (by omega), G3.1.I (by unfold SGr; omega)]; exact u1
      have hS := S4
      -- all faults end here
      have bad : ∀ RR : Ry, ¬ f2.1 = 0 ∨ ¬ onF b n s2 (cP (yC Y)) = 0 → yThing3 b n s Y = RR → (if f2.1 = 0 ∧ ¬ onF b n s2 (cP (yC Y)) = 0 then (onF b n s2 (cP (yC Y)), s2) else f2) = yF RR → ¬ (yF RR).1 = 0 → Go l (rmOf (d + 4) (0, 0)) mX10_readsThing (hN h) (Zm (0, 0) (fun v0 h1 => v0 = none ∧ LBm h h1 b n (yThing3 b n s Y)) noX) 54 [some (.ref 77), some (.int (nI N))] [] g4 0 0 := by
        intro RR hz hR hF hn
        rw [hR]
        rw [if_neg (fun q => hz.elim (fun z => z q.1) (fun z => z q.2)), hF] at io
        refine go_aloadn dX10_readsThing_54 rfl ?_
        refine go_aloadn dX10_readsThing_55 rfl ?_
        refine sg_getI dX10_readsThing_56 fX10_224 rfl (mo_L rfl) hS ?_
        rw [e25]
        refine sg_rVi (M' := mX10_isOneOf) ([.int (nI (cP (yC Y)))]) dX10_readsThing_59 lX10_234 vX10_isOneOf (mo_L rfl) (by decide) rfl hS (io _) rfl (Nat.le_of_ble_eq_true rfl) (Nat.zero_le _) (Nat.zero_le _) (fun g5 G5 => ?_)
        refine go_if_ne (tgt := 66) dX10_readsThing_62 (by decide) (fun c62 => absurd rfl c62) (fun c62 => ?_)
        refine go_return dX10_readsThing_65 rfl (Nat.zero_le _) (Nat.zero_le _) ?_
        exact ⟨rfl, Fl4.tr (G5.1.sub (fun _ _ q => q.ln)), Or.inr ⟨hn, _, G5.2⟩⟩
      by_cases n1 : nmF b n s 1 30 = 0
      · rw [if_pos ⟨rfl, n1⟩] at hs1
        rw [if_neg (fun q => q.2 n1)] at hf1
        obtain ⟨k2, -, -⟩ := nm_2 n1
        rw [if_pos ⟨rfl, k2⟩] at hx1
        have f10 : f1.1 = 0 := by rw [← hf1]
        by_cases n2 : nmF b n s1 0 9 = 0
        · rw [if_pos ⟨f10, n2⟩] at hs2
          rw [if_neg (fun q => q.2 n2)] at hf2
          obtain ⟨k3, -, -⟩ := nm_2 n2
          rw [if_pos ⟨f10, k3⟩] at hx2
          have f20 : f2.1 = 0 := by rw [← hf2]; exact f10
          have n2' : nmF b n (nx b n s) 0 9 = 0 := by rw [hs1]; exact n2
          by_cases n3 : onF b n s2 (cP (yC Y)) = 0
          · rw [if_pos ⟨f20, n3⟩, if_neg (fun q => q.2 n3), ← hf2, ← hf1] at io
            obtain ⟨k4, -⟩ := on_2 n3
            have ey : yThing3 b n s Y = yTh2 b n (nvT b n s) (nvT b n s1) s2 Y := by
              unfold yThing3
              rw [if_pos n1, hs1, if_pos n2, hs2, if_pos n3]
            rw [ey]
            refine go_aloadn dX10_readsThing_54 rfl ?_
            refine go_aloadn dX10_readsThing_55 rfl ?_
            refine sg_getI dX10_readsThing_56 fX10_224 rfl (mo_L rfl) hS ?_
            rw [e25]
            refine sg_rVi (M' := mX10_isOneOf) ([.int (nI (cP (yC Y)))]) dX10_readsThing_59 lX10_234 vX10_isOneOf (mo_L rfl) (by decide) rfl hS (io _) rfl (Nat.le_of_ble_eq_true rfl) (Nat.zero_le _) (Nat.zero_le _) (fun g5 G5 => ?_)
            refine go_if_ne (tgt := 66) dX10_readsThing_62 (by decide) (fun c62 => ?_) (fun c62 => absurd c62 (by decide))
            exact q_rt66 (G5.1.St hS) (Fl4.tr (G5.1.sub (fun _ _ q => q.ln))) G5.2 (M4.gr G5.1 rfl) hN' N10 P8 f0 k4 (by rw [G5.1.I (by unfold SGr; omega), x1, hx1]) (by rw [G5.1.I (by unfold SGr; omega), w1, hx2]) (by rw [G5.1.I (by unfold SGr; omega)]; exact w2) (by rw [G5.1.I (by unfold SGr; omega)]; exact w3)
          · refine bad (yFl Y s2 (onF b n s2 (cP (yC Y)))) (Or.inr n3) ?_ (by rw [if_pos ⟨f20, n3⟩]; rfl) n3
            unfold yThing3
            rw [if_pos n1, hs1, if_pos n2, hs2, if_neg n3]
        · rw [if_neg (fun q => n2 q.2)] at hs2
          rw [if_pos ⟨f10, n2⟩] at hf2
          have f20 : ¬ f2.1 = 0 := by rw [← hf2]; exact n2
          refine bad (yFl Y s1 (nmF b n s1 0 9)) (Or.inl f20) ?_ (by rw [if_neg (fun q => f20 q.1), ← hf2]; rfl) n2
          unfold yThing3
          rw [if_pos n1, hs1, if_neg n2]
      · rw [if_neg (fun q => n1 q.2)] at hs1
        rw [if_pos ⟨rfl, n1⟩] at hf1
        have f10 : ¬ f1.1 = 0 := by rw [← hf1]; exact n1
        rw [if_neg (fun q => f10 q.1)] at hf2
        have f20 : ¬ f2.1 = 0 := by rw [← hf2]; exact f10
        refine bad (yFl Y s (nmF b n s 1 30)) (Or.inl f20) ?_ (by rw [if_neg (fun q => f20 q.1), ← hf2, ← hf1]; rfl) n1
        unfold yThing3
        rw [if_neg n1]
    have hS := S2
    refine go_aloadn dX10_readsThing_18 rfl ?_
    refine sg_getR dX10_readsThing_19 fX10_51 rfl (mo_L rfl) hS (mo_r37 hS rfl) ?_
    refine go_bipush (v := 31) dX10_readsThing_22 rfl ?_
    refine go_iloadn dX10_readsThing_24 rfl ?_
    refine go_iadd dX10_readsThing_25 ?_
    refine go_aloadn dX10_readsThing_26 rfl ?_
    refine go_iconst (v := 0) dX10_readsThing_27 rfl ?_
    refine go_bipush (v := 9) dX10_readsThing_28 rfl ?_
    refine sg_rVi (M' := mX10_number) ([.int (nI 0), .int (nI 9)]) dX10_readsThing_30 lX10_227 vX10_number (mo_L rfl) (by decide) rfl hS (nu2 _) rfl (Nat.le_of_ble_eq_true rfl) (Nat.zero_le _) (Nat.zero_le _) (fun g3 G3 => ?_)
    exact go33 g3 G3
  refine go_aloadn dX10_readsThing_0 rfl ?_
  refine sg_getI dX10_readsThing_1 fX10_237 rfl (mo_L rfl) hS ?_
  rw [e26]
  refine go_ist1 dX10_readsThing_4 rfl ?_
  refine go_aloadn dX10_readsThing_5 rfl ?_
  refine sg_getR dX10_readsThing_6 fX10_48 rfl (mo_L rfl) hS (mo_r36 hS rfl) ?_
  refine go_iloadn dX10_readsThing_9 rfl ?_
  refine go_aloadn dX10_readsThing_10 rfl ?_
  refine go_iconst (v := 1) dX10_readsThing_11 rfl ?_
  refine go_bipush (v := 30) dX10_readsThing_12 rfl ?_
  refine sg_rVi (M' := mX10_number) ([.int (nI 1), .int (nI 30)]) dX10_readsThing_14 lX10_227 vX10_number (mo_L rfl) (by decide) rfl hS (nu _) rfl (Nat.le_of_ble_eq_true rfl) (Nat.zero_le _) (Nat.zero_le _) (fun g1 G1 => ?_)
  exact go17 g1 G1
