/-! lines of the class: a person's walk -/
theorem r_per64 {l : Launch} {d n c P bl v : Nat} {b : Nat → Nat} {h : Hp} {Y : Ry} (hS0 : St h) (f0 : (yF Y).1 = 0) (hP : cP (yC Y) = P) (P8 : P < 8) (hL : cL (yC Y) ≤ 100) : ∀ (k i s : Nat) (W : Nat → Int32) (g : Hp), i + k = 6 → (i = 0 ∨ tkK b n s = 2) → RC g b n s → KY g c (yWk Y W) → Fz (Scy c) h g → hI g (c + 1) P = nI v → hI g (c + 2) P = nI bl → Go l (rmOf (d + 8) (0, 0)) mX3_personLine (hN h) (Zm (0, 0) (fun v0 h1 => v0 = some (.int (if (yF (yPer2 b n bl v Y (wkR b n (cL (yC Y)) (6 * P) k i s W))).1 = 0 then 1 else 0)) ∧ CK h h1 c b n (yPer2 b n bl v Y (wkR b n (cL (yC Y)) (6 * P) k i s W))) noX) 64 [some (.ref 3), some (.int (nI bl)), some (.int (nI P)), some (.int (nI i)), some (.int (nI i))] [] g 0 0 := by
  intro k
  induction k with
  | zero =>
    intro i s W g hk ht R K F v1 v2
    have ei : i = 6 := by omega
    subst ei
    have ht : tkK b n s = 2 := ht.elim (fun q => absurd q (by decide)) id
    have hS := F.St hS0
    have hc := K.1.2
    have hC := K.1.1
    have e2 : hI g 3 2 = 2 := by rw [R.2.1, ht]; rfl
    have fp := fun d => r_isFitPlace (l := l) (d := d) (i := 6) hS R hc hC K.2.2.1.1 hL (Nat.le_refl _)
    have ef : fpF b n s 6 (cL (yC (yWk Y W))) = 2 := by
      unfold fpF ftF
      rw [if_pos ht]
      split
      · rw [if_neg (by decide)]
      · rw [if_pos rfl, if_pos (Nat.le_refl _)]
    rw [ef, if_neg (by decide)] at fp
    rw [show yPer2 b n bl v Y (wkR b n (cL (yC Y)) (6 * P) 0 6 s W) = yFl Y s 2 from rfl, yFl_f, if_neg (by decide)]
    refine go_iload dX3_personLine_64 rfl ?_
    refine go_bipush (v := 6) dX3_personLine_66 rfl ?_
    refine go_icmp_gt (tgt := 125) dX3_personLine_68 (by decide) (fun c68 => absurd c68 (by decide)) (fun c68 => ?_)
    refine go_iload dX3_personLine_71 rfl ?_
    refine go_if_eq (tgt := 84) dX3_personLine_73 (by decide) (fun c73 => absurd c73 (by decide)) (fun c73 => ?_)
    refine go_aloadn dX3_personLine_76 rfl ?_
    refine sg_getI dX3_personLine_77 fX3_57 rfl (rd_L rfl) hS ?_
    rw [e2]
    refine go_iconst (v := 2) dX3_personLine_80 rfl ?_
    refine go_icmp_ne (tgt := 125) dX3_personLine_81 (by decide) (fun c81 => absurd rfl c81) (fun c81 => ?_)
    refine go_aloadn dX3_personLine_84 rfl ?_
    refine go_iloadn dX3_personLine_85 rfl ?_
    refine sg_cVi (M' := mX3_isFitPlace) ([.int (nI 6)]) dX3_personLine_86 lX3_163 vX3_isFitPlace (rd_L rfl) (by decide) rfl hS (fp _) rfl (Nat.le_of_ble_eq_true rfl) (Nat.zero_le _) (Nat.zero_le _) ?_
    refine go_if_ne (tgt := 94) dX3_personLine_89 (by decide) (fun c89 => absurd rfl c89) (fun c89 => ?_)
    refine go_iconst (v := 0) dX3_personLine_92 rfl ?_
    refine go_ireturn dX3_personLine_93 rfl rfl (Nat.zero_le _) (Nat.zero_le _) ?_
    exact ⟨rfl, ck_fl F (by decide)⟩
  | succ k ih =>
    intro i s W g hk ht R K F v1 v2
    have hS := F.St hS0
    have hc := K.1.2
    have hC := K.1.1
    have hc' := at_c hc
    have i6 : i < 6 := by omega
    have fp := fun d => r_isFitPlace (l := l) (d := d) (i := i) hS R hc hC K.2.2.1.1 hL (by omega)
    have ef : fpF b n s i (cL (yC (yWk Y W))) = onF b n s (cL (yC Y)) := by
      obtain ⟨o1, o2⟩ := on_ft (b := b) (n := n) (s := s) (m := cL (yC Y))
      unfold fpF
      by_cases q : ftF b n s = 0
      · rw [if_pos q, if_neg (by omega), (o2 q).2]; rfl
      · rw [if_neg q, o1 q]
    rw [ef] at fp
    have ew : wkR b n (cL (yC Y)) (6 * P) (k + 1) i s W = if onF b n s (cL (yC Y)) = 0 then (if tkK b n (nx b n s) = 2 then wkR b n (cL (yC Y)) (6 * P) k (i + 1) (nx b n s) (upd W (6 * P + i) (nI (nvT b n s))) else (0, nx b n s, i + 1, upd W (6 * P + i) (nI (nvT b n s)))) else (onF b n s (cL (yC Y)), s, i, W) := rfl
    rw [ew]
    by_cases y : onF b n s (cL (yC Y)) = 0
    · rw [if_pos y]
      rw [y, if_pos rfl, show fuH g s 0 = g from if_pos rfl] at fp
      have k2 : tkK b n s = 2 := by
        unfold onF at y
        by_cases q : tkK b n s = 2
        · exact q
        · rw [if_neg q] at y; exact absurd y (by decide)
      have e2 : hI g 3 2 = 2 := by rw [R.2.1, k2]; rfl
      have e5 := (R.2.2.2.2.2 k2).1
      have F5 : Fz (fun a j => a = c + 4 ∧ j = 6 * P + i) g (uI g (c + 4) (6 * P + i) (nI (nvT b n s))) := Fz.rf.uI ⟨rfl, rfl⟩
      have v5 : hI (uI g (c + 4) (6 * P + i) (nI (nvT b n s))) (c + 4) (6 * P + i) = nI (nvT b n s) := hI_uI_eq
      have fin : ∀ g2, g2 = uI g (c + 4) (6 * P + i) (nI (nvT b n s)) → Go l (rmOf (d + 8) (0, 0)) mX3_personLine (hN h) (Zm (0, 0) (fun v0 h1 => v0 = some (.int (if (yF (yPer2 b n bl v Y (if tkK b n (nx b n s) = 2 then wkR b n (cL (yC Y)) (6 * P) k (i + 1) (nx b n s) (upd W (6 * P + i) (nI (nvT b n s))) else (0, nx b n s, i + 1, upd W (6 * P + i) (nI (nvT b n s)))))).1 = 0 then 1 else 0)) ∧ CK h h1 c b n (yPer2 b n bl v Y (if tkK b n (nx b n s) = 2 then wkR b n (cL (yC Y)) (6 * P) k (i + 1) (nx b n s) (upd W (6 * P + i) (nI (nvT b n s))) else (0, nx b n s, i + 1, upd W (6 * P + i) (nI (nvT b n s)))))) noX) 115 [some (.ref 3), some (.int (nI bl)), some (.int (nI P)), some (.int (nI (i + 1))), some (.int (nI i))] [] g2 0 0 := by
        intro g2 hg
        rw [← hg] at F5 v5
        clear hg
        have hS := F5.St hS
        have R2 := R.fz F5 (fun k => by omega) (fun k hk => by omega)
        generalize hW : upd W (6 * P + i) (nI (nvT b n s)) = W2
        have K2 : KY g2 c (yWk Y W2) := by
          obtain ⟨⟨k1, k2⟩, ⟨k3, k4, k5, k6, k7, k8⟩, ⟨k9, k9a, k9b, k9c, k9d⟩, k10, k11, k12, k13, ⟨k14, k14a, k14b, k14c⟩, k15, k16⟩ := K
          refine ⟨⟨by rw [F5.1]; exact k1, k2⟩, ⟨by rw [F5.I (by omega)]; exact k3, k4, by rw [F5.I (by omega)]; exact k5, k6, by rw [F5.I (by omega)]; exact k7, by rw [F5.I (by omega)]; exact k8⟩, ⟨by rw [F5.I (by omega)]; exact k9, by rw [F5.I (by omega)]; exact k9a, by rw [F5.I (by omega)]; exact k9b, by rw [F5.I (by omega)]; exact k9c, by rw [F5.I (by omega)]; exact k9d⟩, ?_, ?_, ?_, ?_, ⟨by rw [F5.I (by omega)]; exact k14, by rw [F5.I (by omega)]; exact k14a, by rw [F5.I (by omega)]; exact k14b, by rw [F5.I (by omega)]; exact k14c⟩, ?_, ?_⟩
          · intro p hp; rw [F5.I (by omega), F5.I (by omega), F5.I (by omega)]; exact k10 p hp
          · intro p hp
            show hI g2 (c + 4) p = W2 p
            rw [← hW]
            by_cases q : p = 6 * P + i
            · rw [q, pk_us]; exact v5
            · rw [pk_un q, F5.I (by omega)]; exact k11 p hp
          · intro p hp; rw [F5.I (by omega), F5.I (by omega), F5.I (by omega)]; exact k12 p hp
          · intro p hp; rw [F5.I (by omega)]; exact k13 p hp
          · intro p hp; rw [F5.I (by omega)]; exact k15 p hp
          · intro p hp; rw [F5.I (by omega)]; exact k16 p hp
        have F6 : Fz (Scy c) h g2 := F.tr (F5.sub (fun a k q => by unfold Scy; omega))
        have w1 : hI g2 (c + 1) P = nI v := by rw [F5.I (by omega)]; exact v1
        have w2 : hI g2 (c + 2) P = nI bl := by rw [F5.I (by omega)]; exact v2
        have nxt := fun d => r_nextR (l := l) (d := d) hS R2
        by_cases z : tkK b n (nx b n s) = 2
        · rw [if_pos z]
          refine go_aloadn dX3_personLine_115 rfl ?_
          refine sg_rV0 (M' := mX3_next) ([]) dX3_personLine_116 lX3_54 vX3_next (rd_L rfl) (by decide) rfl hS (nxt _) rfl (Nat.le_of_ble_eq_true rfl) (Nat.zero_le _) (Nat.zero_le _) (fun g3 G => ?_)
          refine go_iinc4 (c1 := 1) dX3_personLine_119 rfl rfl ?_
          rw [nI_1]
          refine go_goto (tgt := 64) dX3_personLine_122 (by decide) ?_
          exact ih (i + 1) (nx b n s) W2 g3 (by omega) (Or.inr z) G.2 (K2.fz G.1 rfl) (F6.tr (G.1.sub (fun _ _ q => q.sf.sc))) (by rw [G.1.I (by unfold SN4; omega)]; exact w1) (by rw [G.1.I (by unfold SN4; omega)]; exact w2)
        · rw [if_neg z]
          refine go_aloadn dX3_personLine_115 rfl ?_
          refine sg_rV0 (M' := mX3_next) ([]) dX3_personLine_116 lX3_54 vX3_next (rd_L rfl) (by decide) rfl hS (nxt _) rfl (Nat.le_of_ble_eq_true rfl) (Nat.zero_le _) (Nat.zero_le _) (fun g3 G => ?_)
          refine go_iinc4 (c1 := 1) dX3_personLine_119 rfl rfl ?_
          rw [nI_1]
          refine go_goto (tgt := 64) dX3_personLine_122 (by decide) ?_
          skip
          have hS := G.1.St hS
          have k5 := tkK_lt (b := b) (n := n) (s := nx b n s)
          refine go_iload dX3_personLine_64 rfl ?_
          refine go_bipush (v := 6) dX3_personLine_66 rfl ?_
          refine go_icmp_gt (tgt := 125) dX3_personLine_68 (by decide) (fun c68 => absurd c68 (nI_nlt (a := 6) (by omega) (by decide))) (fun c68 => ?_)
          refine go_iload dX3_personLine_71 rfl ?_
          refine go_if_eq (tgt := 84) dX3_personLine_73 (by decide) (fun c73 => absurd c73 (nI_ne0 (by omega) (by omega))) (fun c73 => ?_)
          refine go_aloadn dX3_personLine_76 rfl ?_
          refine sg_getI dX3_personLine_77 fX3_57 rfl (rd_L rfl) hS ?_
          rw [G.2.2.1]
          refine go_iconst (v := 2) dX3_personLine_80 rfl ?_
          refine go_icmp_ne (tgt := 125) dX3_personLine_81 (by decide) (fun c81 => ?_) (fun c81 => absurd ((nI_eq (b := 2) (by omega) (by decide)).mp c81) z)
          exact r_per125 hS G.2 (K2.fz G.1 rfl) (F6.tr (G.1.sub (fun _ _ q => q.sf.sc))) f0 hP P8 (by omega) (by rw [G.1.I (by unfold SN4; omega)]; exact w1) (by rw [G.1.I (by unfold SN4; omega)]; exact w2)
      have go84 : Go l (rmOf (d + 8) (0, 0)) mX3_personLine (hN h) (Zm (0, 0) (fun v0 h1 => v0 = some (.int (if (yF (yPer2 b n bl v Y (if tkK b n (nx b n s) = 2 then wkR b n (cL (yC Y)) (6 * P) k (i + 1) (nx b n s) (upd W (6 * P + i) (nI (nvT b n s))) else (0, nx b n s, i + 1, upd W (6 * P + i) (nI (nvT b n s)))))).1 = 0 then 1 else 0)) ∧ CK h h1 c b n (yPer2 b n bl v Y (if tkK b n (nx b n s) = 2 then wkR b n (cL (yC Y)) (6 * P) k (i + 1) (nx b n s) (upd W (6 * P + i) (nI (nvT b n s))) else (0, nx b n s, i + 1, upd W (6 * P + i) (nI (nvT b n s)))))) noX) 84 [some (.ref 3), some (.int (nI bl)), some (.int (nI P)), some (.int (nI i)), some (.int (nI i))] [] g 0 0 := by
        refine go_aloadn dX3_personLine_84 rfl ?_
        refine go_iloadn dX3_personLine_85 rfl ?_
        refine sg_cVi (M' := mX3_isFitPlace) ([.int (nI i)]) dX3_personLine_86 lX3_163 vX3_isFitPlace (rd_L rfl) (by decide) rfl hS (fp _) rfl (Nat.le_of_ble_eq_true rfl) (Nat.zero_le _) (Nat.zero_le _) ?_
        refine go_if_ne (tgt := 94) dX3_personLine_89 (by decide) (fun c89 => ?_) (fun c89 => absurd c89 (by decide))
        refine go_aloadn dX3_personLine_94 rfl ?_
        refine sg_getR dX3_personLine_95 fX3_29 rfl (rd_L rfl) hS hC ?_
        refine sg_getR dX3_personLine_98 fX3_166 rfl (ct_L hc) hS (ct_r7 hS hc) ?_
        refine go_iloadn dX3_personLine_101 rfl ?_
        refine go_bipush (v := 6) dX3_personLine_102 rfl ?_
        refine go_imul dX3_personLine_104 ?_
        refine go_iloadn dX3_personLine_105 rfl ?_
        refine go_iadd dX3_personLine_106 ?_
        refine go_aloadn dX3_personLine_107 rfl ?_
        refine sg_getI dX3_personLine_108 fX3_77 rfl (rd_L rfl) hS ?_
        rw [e5]
        refine sg_iastN (i := P * 6 + i) dX3_personLine_111 (ct_7 hc) hS (by simp only [lit_nI, nI_add, pk_mul, Nat.add_assoc, Nat.zero_add, Nat.add_zero]) (by omega) ?_
        rw [Nat.mul_comm P 6]
        refine go_iinc3 (c1 := 1) dX3_personLine_112 rfl rfl ?_
        rw [nI_1]; exact fin _ rfl
      refine go_iload dX3_personLine_64 rfl ?_
      refine go_bipush (v := 6) dX3_personLine_66 rfl ?_
      refine go_icmp_gt (tgt := 125) dX3_personLine_68 (by decide) (fun c68 => absurd c68 (nI_nlt (a := 6) (by omega) (by decide))) (fun c68 => ?_)
      refine go_iload dX3_personLine_71 rfl ?_
      refine go_if_eq (tgt := 84) dX3_personLine_73 (by decide) (fun c73 => ?_) (fun c73 => ?_)
      · exact go84
      · refine go_aloadn dX3_personLine_76 rfl ?_
        refine sg_getI dX3_personLine_77 fX3_57 rfl (rd_L rfl) hS ?_
        rw [e2]
        refine go_iconst (v := 2) dX3_personLine_80 rfl ?_
        refine go_icmp_ne (tgt := 125) dX3_personLine_81 (by decide) (fun c81 => absurd rfl c81) (fun c81 => ?_)
        exact go84
    · rw [if_neg y]
      rw [if_neg y] at fp
      rw [show yPer2 b n bl v Y (onF b n s (cL (yC Y)), s, i, W) = yFl Y s (onF b n s (cL (yC Y))) from if_neg y, yFl_f, if_neg y]
      have go84 : Go l (rmOf (d + 8) (0, 0)) mX3_personLine (hN h) (Zm (0, 0) (fun v0 h1 => v0 = some (.int 0) ∧ CK h h1 c b n (yFl Y s (onF b n s (cL (yC Y))))) noX) 84 [some (.ref 3), some (.int (nI bl)), some (.int (nI P)), some (.int (nI i)), some (.int (nI i))] [] g 0 0 := by
        refine go_aloadn dX3_personLine_84 rfl ?_
        refine go_iloadn dX3_personLine_85 rfl ?_
        refine sg_cVi (M' := mX3_isFitPlace) ([.int (nI i)]) dX3_personLine_86 lX3_163 vX3_isFitPlace (rd_L rfl) (by decide) rfl hS (fp _) rfl (Nat.le_of_ble_eq_true rfl) (Nat.zero_le _) (Nat.zero_le _) ?_
        refine go_if_ne (tgt := 94) dX3_personLine_89 (by decide) (fun c89 => absurd rfl c89) (fun c89 => ?_)
        refine go_iconst (v := 0) dX3_personLine_92 rfl ?_
        refine go_ireturn dX3_personLine_93 rfl rfl (Nat.zero_le _) (Nat.zero_le _) ?_
        exact ⟨rfl, ck_fl F (by omega)⟩
      rcases ht with rfl | ht
      · refine go_iload dX3_personLine_64 rfl ?_
        refine go_bipush (v := 6) dX3_personLine_66 rfl ?_
        refine go_icmp_gt (tgt := 125) dX3_personLine_68 (by decide) (fun c68 => absurd c68 (by decide)) (fun c68 => ?_)
        refine go_iload dX3_personLine_71 rfl ?_
        refine go_if_eq (tgt := 84) dX3_personLine_73 (by decide) (fun c73 => ?_) (fun c73 => absurd rfl c73)
        exact go84
      · have e2 : hI g 3 2 = 2 := by rw [R.2.1, ht]; rfl
        refine go_iload dX3_personLine_64 rfl ?_
        refine go_bipush (v := 6) dX3_personLine_66 rfl ?_
        refine go_icmp_gt (tgt := 125) dX3_personLine_68 (by decide) (fun c68 => absurd c68 (nI_nlt (a := 6) (by omega) (by decide))) (fun c68 => ?_)
        refine go_iload dX3_personLine_71 rfl ?_
        refine go_if_eq (tgt := 84) dX3_personLine_73 (by decide) (fun c73 => ?_) (fun c73 => ?_)
        · exact go84
        · refine go_aloadn dX3_personLine_76 rfl ?_
          refine sg_getI dX3_personLine_77 fX3_57 rfl (rd_L rfl) hS ?_
          rw [e2]
          refine go_iconst (v := 2) dX3_personLine_80 rfl ?_
          refine go_icmp_ne (tgt := 125) dX3_personLine_81 (by decide) (fun c81 => absurd rfl c81) (fun c81 => ?_)
          exact go84
theorem r_personLine {l : Launch} {d n c bl : Nat} {b : Nat → Nat} {h : Hp} {Y : Ry} (hS : St h) (R : RC h b n (yS Y)) (K : KY h c Y) (f0 : (yF Y).1 = 0) (hP : cP (yC Y) ≤ 8) (hL : cL (yC Y) ≤ 100) : Ey l (d + 8) mX3_personLine [.ref 3, .int (nI bl)] h (some (.int (if (yF (yPerson b n bl Y)).1 = 0 then 1 else 0))) (fun g => CK h g c b n (yPerson b n bl Y)) := by
  refine run_lv [some (.ref 3), some (.int (nI bl)), none, none, none] (go := ?_)
  have hc := K.1.2
  have hC := K.1.1
  have hc' := at_c hc
  have e1 := K.2.2.1.2.1
  have hS0 := hS
  unfold yPerson
  by_cases z : 8 ≤ cP (yC Y)
  · rw [if_pos z, yFl_f, if_neg (by decide)]
    refine go_aloadn dX3_personLine_0 rfl ?_
    refine sg_getR dX3_personLine_1 fX3_29 rfl (rd_L rfl) hS hC ?_
    refine sg_getI dX3_personLine_4 fX3_144 rfl (ct_L hc) hS ?_
    rw [e1]
    refine go_ist2 dX3_personLine_7 rfl ?_
    refine go_iloadn dX3_personLine_8 rfl ?_
    refine go_bipush (v := 8) dX3_personLine_9 rfl ?_
    refine go_icmp_lt (tgt := 20) dX3_personLine_11 (by decide) (fun c11 => absurd c11 (nI_nlt (b := 8) z (by omega))) (fun c11 => ?_)
    refine go_aloadn dX3_personLine_14 rfl ?_
    refine go_iconst (v := 2) dX3_personLine_15 rfl ?_
    refine sg_cVi (M' := mX3_fail) ([.int (nI 2)]) dX3_personLine_16 lX3_131 vX3_fail (rd_L rfl) (by decide) rfl hS (r_failR hS R (by decide)) rfl (Nat.le_of_ble_eq_true rfl) (Nat.zero_le _) (Nat.zero_le _) ?_
    refine go_ireturn dX3_personLine_19 rfl rfl (Nat.zero_le _) (Nat.zero_le _) ?_
    exact ⟨rfl, ck_fl Fz.rf (by decide)⟩
  · rw [if_neg z]
    have wi := fun d => r_nextIsWithin (l := l) (d := d) (lo := 0) (hi := 9) hS R (by decide) (by decide)
    by_cases y : nmF b n (nx b n (yS Y)) 0 9 = 0
    · rw [if_pos y]
      rw [y, if_pos rfl] at wi
      obtain ⟨k2, -, -⟩ := nm_2 y
      have lp := r_per64 (l := l) (d := d) (n := n) (c := c) (P := cP (yC Y)) (bl := bl) (v := nvT b n (nx b n (yS Y))) (b := b) (h := h) (Y := Y) hS0 f0 rfl (by omega) hL 6 0 (nx b n (nx b n (yS Y))) (tW (yT Y))
      generalize yPer2 b n bl (nvT b n (nx b n (yS Y))) Y (wkR b n (cL (yC Y)) (6 * cP (yC Y)) 6 0 (nx b n (nx b n (yS Y))) (tW (yT Y))) = Y' at *
      have fin : ∀ g, PF SFy h g b n (nx b n (yS Y)) 0 → Go l (rmOf (d + 8) (0, 0)) mX3_personLine (hN h) (Zm (0, 0) (fun v0 h1 => v0 = some (.int (if (yF Y').1 = 0 then 1 else 0)) ∧ CK h h1 c b n Y') noX) 32 [some (.ref 3), some (.int (nI bl)), some (.int (nI (cP (yC Y)))), none, none] [] g 0 0 := by
        intro g P
        obtain ⟨F4, R1⟩ := P.2.1 rfl
        have hS := F4.St hS
        have hC : hR g 3 7 = some c := by rw [F4.1]; exact hC
        have K1 := K.fz F4 (R' := Y) rfl
        have e5 := (R1.2.2.2.2.2 k2).1
        generalize nx b n (yS Y) = t at *
        generalize hPP : cP (yC Y) = PP at *
        have F5 : Fz (fun a k => (a = c + 1 ∧ k = PP) ∨ (a = c + 2 ∧ k = PP)) g (uI (uI g (c + 1) PP (nI (nvT b n t))) (c + 2) PP (nI bl)) := (Fz.rf.uI (Or.inl ⟨rfl, rfl⟩)).uI (Or.inr ⟨rfl, rfl⟩)
        have v0 : hI (uI (uI g (c + 1) PP (nI (nvT b n t))) (c + 2) PP (nI bl)) (c + 1) PP = nI (nvT b n t) := by rw [hI_uI_ne (by omega), hI_uI_eq]
        have v8 : hI (uI (uI g (c + 1) PP (nI (nvT b n t))) (c + 2) PP (nI bl)) (c + 2) PP = nI bl := hI_uI_eq
        refine go_aloadn dX3_personLine_32 rfl ?_
        refine sg_getR dX3_personLine_33 fX3_29 rfl (rd_L rfl) hS hC ?_
        refine sg_getR dX3_personLine_36 fX3_158 rfl (ct_L hc) hS (ct_r4 hS hc) ?_
        refine go_iloadn dX3_personLine_39 rfl ?_
        refine go_aloadn dX3_personLine_40 rfl ?_
        refine sg_getI dX3_personLine_41 fX3_77 rfl (rd_L rfl) hS ?_
        rw [e5]
        refine sg_iastN (i := PP) dX3_personLine_44 (ct_4 hc) hS (by simp only [lit_nI, nI_add, pk_mul, Nat.add_assoc, Nat.zero_add, Nat.add_zero]) (by omega) ?_
        refine go_aloadn dX3_personLine_45 rfl ?_
        refine sg_getR dX3_personLine_46 fX3_29 rfl (rd_L rfl) hS hC ?_
        refine sg_getR dX3_personLine_49 fX3_161 rfl (ct_L hc) hS (ct_r5 hS hc) ?_
        refine go_iloadn dX3_personLine_52 rfl ?_
        refine go_iloadn dX3_personLine_53 rfl ?_
        refine sg_iastN (i := PP) dX3_personLine_54 (ct_5 hc) hS (by simp only [lit_nI, nI_add, pk_mul, Nat.add_assoc, Nat.zero_add, Nat.add_zero]) (by omega) ?_
        skip
        generalize uI (uI g (c + 1) PP (nI (nvT b n t))) (c + 2) PP (nI bl) = g2 at *
        have hS := F5.St hS
        have R2 := R1.fz F5 (fun k => by omega) (fun k hk => by omega)
        have K2 : KY g2 c (yWk Y (tW (yT Y))) := by
          obtain ⟨⟨k1, k2⟩, ⟨k3, k4, k5, k6, k7, k8⟩, ⟨k9, k9a, k9b, k9c, k9d⟩, k10, k11, k12, k13, ⟨k14, k14a, k14b, k14c⟩, k15, k16⟩ := K1
          refine ⟨⟨by rw [F5.1]; exact k1, k2⟩, ⟨by rw [F5.I (by omega)]; exact k3, k4, by rw [F5.I (by omega)]; exact k5, k6, by rw [F5.I (by omega)]; exact k7, by rw [F5.I (by omega)]; exact k8⟩, ⟨by rw [F5.I (by omega)]; exact k9, by rw [F5.I (by omega)]; exact k9a, by rw [F5.I (by omega)]; exact k9b, by rw [F5.I (by omega)]; exact k9c, by rw [F5.I (by omega)]; exact k9d⟩, ?_, ?_, ?_, ?_, ⟨by rw [F5.I (by omega)]; exact k14, by rw [F5.I (by omega)]; exact k14a, by rw [F5.I (by omega)]; exact k14b, by rw [F5.I (by omega)]; exact k14c⟩, ?_, ?_⟩
          · intro p hp
            have hp' : p < PP := by rw [← hPP]; exact hp
            rw [F5.I (by omega), F5.I (by omega), F5.I (by omega)]; exact k10 p hp
          · intro p hp; rw [F5.I (by omega)]; exact k11 p hp
          · intro p hp; rw [F5.I (by omega), F5.I (by omega), F5.I (by omega)]; exact k12 p hp
          · intro p hp; rw [F5.I (by omega)]; exact k13 p hp
          · intro p hp; rw [F5.I (by omega)]; exact k15 p hp
          · intro p hp; rw [F5.I (by omega)]; exact k16 p hp
        have F6 : Fz (Scy c) h g2 := (P.1.sub (fun _ _ q => q.sc)).tr (F5.sub (fun a k q => by unfold Scy; omega))
        have nxt := fun d => r_nextR (l := l) (d := d) hS R2
        refine go_aloadn dX3_personLine_55 rfl ?_
        refine sg_rV0 (M' := mX3_next) ([]) dX3_personLine_56 lX3_54 vX3_next (rd_L rfl) (by decide) rfl hS (nxt _) rfl (Nat.le_of_ble_eq_true rfl) (Nat.zero_le _) (Nat.zero_le _) (fun g3 G => ?_)
        refine go_iconst (v := 0) dX3_personLine_59 rfl ?_
        refine go_ist3 dX3_personLine_60 rfl ?_
        refine go_iconst (v := 0) dX3_personLine_61 rfl ?_
        refine go_ist4 dX3_personLine_62 rfl ?_
        exact lp g3 (by decide) (Or.inl rfl) G.2 (K2.fz G.1 rfl) (F6.tr (G.1.sub (fun _ _ q => q.sf.sc))) (by rw [G.1.I (by unfold SN4; omega)]; exact v0) (by rw [G.1.I (by unfold SN4; omega)]; exact v8)
      refine go_aloadn dX3_personLine_0 rfl ?_
      refine sg_getR dX3_personLine_1 fX3_29 rfl (rd_L rfl) hS hC ?_
      refine sg_getI dX3_personLine_4 fX3_144 rfl (ct_L hc) hS ?_
      rw [e1]
      refine go_ist2 dX3_personLine_7 rfl ?_
      refine go_iloadn dX3_personLine_8 rfl ?_
      refine go_bipush (v := 8) dX3_personLine_9 rfl ?_
      refine go_icmp_lt (tgt := 20) dX3_personLine_11 (by decide) (fun c11 => ?_) (fun c11 => absurd (nI_lt (b := 8) (by omega) (by omega)) c11)
      refine go_aloadn dX3_personLine_20 rfl ?_
      refine go_iconst (v := 0) dX3_personLine_21 rfl ?_
      refine go_bipush (v := 9) dX3_personLine_22 rfl ?_
      refine sg_rVi (M' := mX3_nextIsWithin) ([.int (nI 0), .int (nI 9)]) dX3_personLine_24 lX3_147 vX3_nextIsWithin (rd_L rfl) (by decide) rfl hS (wi _) rfl (Nat.le_of_ble_eq_true rfl) (Nat.zero_le _) (Nat.zero_le _) (fun g P => ?_)
      refine go_if_ne (tgt := 32) dX3_personLine_27 (by decide) (fun c27 => ?_) (fun c27 => absurd c27 (by decide))
      exact fin g P
    · rw [if_neg y, yFl_f, if_neg y]
      refine go_aloadn dX3_personLine_0 rfl ?_
      refine sg_getR dX3_personLine_1 fX3_29 rfl (rd_L rfl) hS hC ?_
      refine sg_getI dX3_personLine_4 fX3_144 rfl (ct_L hc) hS ?_
      rw [e1]
      refine go_ist2 dX3_personLine_7 rfl ?_
      refine go_iloadn dX3_personLine_8 rfl ?_
      refine go_bipush (v := 8) dX3_personLine_9 rfl ?_
      refine go_icmp_lt (tgt := 20) dX3_personLine_11 (by decide) (fun c11 => ?_) (fun c11 => absurd (nI_lt (b := 8) (by omega) (by omega)) c11)
      refine go_aloadn dX3_personLine_20 rfl ?_
      refine go_iconst (v := 0) dX3_personLine_21 rfl ?_
      refine go_bipush (v := 9) dX3_personLine_22 rfl ?_
      refine sg_rVi (M' := mX3_nextIsWithin) ([.int (nI 0), .int (nI 9)]) dX3_personLine_24 lX3_147 vX3_nextIsWithin (rd_L rfl) (by decide) rfl hS (wi _) rfl (Nat.le_of_ble_eq_true rfl) (Nat.zero_le _) (Nat.zero_le _) (fun g P => ?_)
      rw [if_neg y]
      refine go_if_ne (tgt := 32) dX3_personLine_27 (by decide) (fun c27 => absurd rfl c27) (fun c27 => ?_)
      refine go_iconst (v := 0) dX3_personLine_30 rfl ?_
      refine go_ireturn dX3_personLine_31 rfl rfl (Nat.zero_le _) (Nat.zero_le _) ?_
      exact ⟨rfl, ck_pf Fz.rf P y⟩
