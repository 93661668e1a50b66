/-! rules: a part, what is behind it -/
theorem SKc.fz {S : Nat → Nat → Prop} {h g : Hp} {c cl : Nat} {W : List Nat} {p : Pr} (H : SKc h c cl W p) (F : Fz S h g) (h1 : ¬ S 3 13) (h2 : ∀ k, ¬ S 5 k) (h3 : ¬ S c 13) (h4 : ∀ k, ¬ S (c + 9) k) : SKc g c cl W p := ⟨by rw [F.I h1]; exact H.1, fun i hi => by rw [F.I (h2 _)]; exact H.2.1 i hi, by rw [F.I h3]; exact H.2.2.1, fun j hj => by rw [F.I (h4 _)]; exact H.2.2.2 j hj⟩
theorem r_part {l : Launch} {d n c cl sh : Nat} {b : Nat → Nat} {h : Hp} {U : Ru} (hS : St h) (R : RC h b n (uS U)) (hc : CityAt c) (hC : hR h 3 7 = some c) (K : KU h c cl U) (B : UB n cl U) (hsh : sh ≤ 1) : Ey l (d + 8) mX3_part [.ref 3, .int (nI sh)] h (some (.int (if uQ (rstP b n sh U) = 0 then 1 else 0))) (fun g => PRu h g c cl (rstP b n sh U)) := by
  refine run_lv [some (.ref 3), some (.int (nI sh)), none] (go := ?_)
  have hc' := at_c hc
  have K0 := K
  have B0 := B
  obtain ⟨H, e14, e15, e16, e17⟩ := K
  obtain ⟨b1, b2, b3, b4, b5, b6, b7, b8, b9⟩ := B
  have r2 := R.2.1
  have k5 := tkK_lt (b := b) (n := n) (s := uS U)
  have x1 : nI (tkK b n (uS U)) = 1 ↔ tkK b n (uS U) = 1 := nI_eq (b := 1) (by omega) (by decide)
  have x2 : nI (tkK b n (uS U)) = 2 ↔ tkK b n (uS U) = 2 := nI_eq (b := 2) (by omega) (by decide)
  have isg := fun d => r_isSign (l := l) (d := d) (c := 40) hS R (by decide)
  have q0 : ∀ x, uQ (ruGo b n U x) = 0 := fun x => rfl
  have q2 : ∀ y, ¬ uQ (ruFl U y) = 0 := fun y => by show ¬ (2 : Nat) = 0; decide
  unfold rstP
  by_cases z : tkK b n (uS U) = 2 ∨ tkK b n (uS U) = 1 ∨ (tkK b n (uS U) = 3 ∧ b (uS U) = 40)
  · rw [if_pos z]
    have sn := tk3 (b := b) (n := n) (s := uS U) (by omega)
    generalize hY : (if 6 ≤ uE U then ruFl U 2 else if tkK b n (uS U) = 2 then (if ftF b n (uS U) = 0 then ruGo b n U ((0, uE U, uC U, uM U), uW U, psh (uP U) (0, nvT b n (uS U))) else ruFl U (ftF b n (uS U))) else if tkK b n (uS U) = 1 then rstW b n sh U else ruGo b n U ((uD U, uE U + 1, 0, 1), 0 :: uW U, uP U)) = Y
    have go31 : Go l (rmOf (d + 8) (0, 0)) mX3_part (hN h) (Zm (0, 0) (fun v0 h1 => v0 = some (.int (if uQ Y = 0 then 1 else 0)) ∧ PRu h h1 c cl Y) noX) 31 [some (.ref 3), some (.int (nI sh)), some (.int 1)] [] h 0 0 := by
      rw [← hY]
      by_cases y : 6 ≤ uE U
      · rw [if_pos y, if_neg (q2 _)]
        refine go_iloadn dX3_part_31 rfl ?_
        refine go_if_ne (tgt := 41) dX3_part_32 (by decide) (fun c32 => ?_) (fun c32 => absurd c32 (by decide))
        refine go_aloadn dX3_part_41 rfl ?_
        refine sg_getI dX3_part_42 fX3_206 rfl (rd_L rfl) hS ?_
        rw [e14]
        refine go_bipush (v := 6) dX3_part_45 rfl ?_
        refine go_icmp_lt (tgt := 56) dX3_part_47 (by decide) (fun c47 => absurd c47 (nI_nlt (b := 6) y (by omega))) (fun c47 => ?_)
        refine go_aloadn dX3_part_50 rfl ?_
        refine go_iconst (v := 2) dX3_part_51 rfl ?_
        refine sg_cVi (M' := mX3_fail) ([.int (nI 2)]) dX3_part_52 lX3_131 vX3_fail (rd_L rfl) (by decide) rfl hS (r_failR hS R (by decide)) rfl (Nat.le_of_ble_eq_true rfl) (Nat.zero_le _) (Nat.zero_le _) ?_
        refine go_ireturn dX3_part_55 rfl rfl (Nat.zero_le _) (Nat.zero_le _) ?_
        exact ⟨rfl, pr_fl Fz.rf (by decide)⟩
      · rw [if_neg y]
        by_cases k2 : tkK b n (uS U) = 2
        · rw [if_pos k2]
          have r2' : hI h 3 2 = 2 := by rw [r2, k2]; rfl
          have fit := fun d => r_isFitNumber (l := l) (d := d) hS R
          by_cases f : ftF b n (uS U) = 0
          · rw [if_pos f, if_pos (q0 _)]
            rw [f, if_pos rfl, show fuH h (uS U) 0 = h from if_pos rfl] at fit
            have e5 := (R.2.2.2.2.2 k2).1
            have pp := fun d => r_putPart (l := l) (d := d) (o := (0, nvT b n (uS U))) hS hc hC H (by omega)
            rw [show encC (0, nvT b n (uS U)) = nI (nvT b n (uS U)) from rfl] at pp
            refine go_iloadn dX3_part_31 rfl ?_
            refine go_if_ne (tgt := 41) dX3_part_32 (by decide) (fun c32 => ?_) (fun c32 => absurd c32 (by decide))
            refine go_aloadn dX3_part_41 rfl ?_
            refine sg_getI dX3_part_42 fX3_206 rfl (rd_L rfl) hS ?_
            rw [e14]
            refine go_bipush (v := 6) dX3_part_45 rfl ?_
            refine go_icmp_lt (tgt := 56) dX3_part_47 (by decide) (fun c47 => ?_) (fun c47 => absurd (nI_lt (b := 6) (by omega) (by omega)) c47)
            refine go_aloadn dX3_part_56 rfl ?_
            refine sg_getI dX3_part_57 fX3_57 rfl (rd_L rfl) hS ?_
            rw [r2']
            refine go_iconst (v := 2) dX3_part_60 rfl ?_
            refine go_icmp_ne (tgt := 88) dX3_part_61 (by decide) (fun c61 => absurd rfl c61) (fun c61 => ?_)
            refine go_aloadn dX3_part_64 rfl ?_
            refine sg_cVi (M' := mX3_isFitNumber) ([]) dX3_part_65 lX3_138 vX3_isFitNumber (rd_L rfl) (by decide) rfl hS (fit _) rfl (Nat.le_of_ble_eq_true rfl) (Nat.zero_le _) (Nat.zero_le _) ?_
            refine go_if_eq (tgt := 86) dX3_part_68 (by decide) (fun c68 => absurd c68 (by decide)) (fun c68 => ?_)
            refine go_aloadn dX3_part_71 rfl ?_
            refine go_aloadn dX3_part_72 rfl ?_
            refine sg_getI dX3_part_73 fX3_77 rfl (rd_L rfl) hS ?_
            rw [e5]
            refine sg_rVi (M' := mX3_putPart) ([.int (nI (nvT b n (uS U)))]) dX3_part_76 lX3_233 vX3_putPart (rd_L rfl) (by decide) rfl hS (pp _) rfl (Nat.le_of_ble_eq_true rfl) (Nat.zero_le _) (Nat.zero_le _) (fun g2 G => ?_)
            refine go_if_eq (tgt := 86) dX3_part_79 (by decide) (fun c79 => absurd c79 (by decide)) (fun c79 => ?_)
            refine go_iconst (v := 1) dX3_part_82 rfl ?_
            refine go_goto (tgt := 87) dX3_part_83 (by decide) ?_
            refine go_ireturn dX3_part_87 rfl rfl (Nat.zero_le _) (Nat.zero_le _) ?_
            exact ⟨rfl, pr_ok (G.1.sub (fun a k q => by unfold Sr; omega)) ⟨G.2.1, by rw [G.1.I (by omega)]; exact e14, by rw [G.1.I (by omega)]; exact e15, G.2.2, by rw [G.1.I (by omega)]; exact e17⟩ rfl⟩
          · rw [if_neg f, if_neg (q2 _)]
            rw [if_neg f] at fit
            refine go_iloadn dX3_part_31 rfl ?_
            refine go_if_ne (tgt := 41) dX3_part_32 (by decide) (fun c32 => ?_) (fun c32 => absurd c32 (by decide))
            refine go_aloadn dX3_part_41 rfl ?_
            refine sg_getI dX3_part_42 fX3_206 rfl (rd_L rfl) hS ?_
            rw [e14]
            refine go_bipush (v := 6) dX3_part_45 rfl ?_
            refine go_icmp_lt (tgt := 56) dX3_part_47 (by decide) (fun c47 => ?_) (fun c47 => absurd (nI_lt (b := 6) (by omega) (by omega)) c47)
            refine go_aloadn dX3_part_56 rfl ?_
            refine sg_getI dX3_part_57 fX3_57 rfl (rd_L rfl) hS ?_
            rw [r2']
            refine go_iconst (v := 2) dX3_part_60 rfl ?_
            refine go_icmp_ne (tgt := 88) dX3_part_61 (by decide) (fun c61 => absurd rfl c61) (fun c61 => ?_)
            refine go_aloadn dX3_part_64 rfl ?_
            refine sg_cVi (M' := mX3_isFitNumber) ([]) dX3_part_65 lX3_138 vX3_isFitNumber (rd_L rfl) (by decide) rfl hS (fit _) rfl (Nat.le_of_ble_eq_true rfl) (Nat.zero_le _) (Nat.zero_le _) ?_
            refine go_if_eq (tgt := 86) dX3_part_68 (by decide) (fun c68 => ?_) (fun c68 => absurd rfl c68)
            refine go_iconst (v := 0) dX3_part_86 rfl ?_
            refine go_ireturn dX3_part_87 rfl rfl (Nat.zero_le _) (Nat.zero_le _) ?_
            exact ⟨rfl, pr_fl Fz.rf (by omega)⟩
        · rw [if_neg k2]
          by_cases k1 : tkK b n (uS U) = 1
          · rw [if_pos k1]
            have wp := fun d => r_wordOfPart (l := l) (d := d) hS R hc hC K0 B0 k1 hsh
            generalize rstW b n sh U = V at *
            by_cases f : uQ V = 0
            · rw [if_pos f]
              rw [if_pos f] at wp
              refine go_iloadn dX3_part_31 rfl ?_
              refine go_if_ne (tgt := 41) dX3_part_32 (by decide) (fun c32 => ?_) (fun c32 => absurd c32 (by decide))
              refine go_aloadn dX3_part_41 rfl ?_
              refine sg_getI dX3_part_42 fX3_206 rfl (rd_L rfl) hS ?_
              rw [e14]
              refine go_bipush (v := 6) dX3_part_45 rfl ?_
              refine go_icmp_lt (tgt := 56) dX3_part_47 (by decide) (fun c47 => ?_) (fun c47 => absurd (nI_lt (b := 6) (by omega) (by omega)) c47)
              refine go_aloadn dX3_part_56 rfl ?_
              refine sg_getI dX3_part_57 fX3_57 rfl (rd_L rfl) hS ?_
              rw [r2]
              refine go_iconst (v := 2) dX3_part_60 rfl ?_
              refine go_icmp_ne (tgt := 88) dX3_part_61 (by decide) (fun c61 => ?_) (fun c61 => absurd (x2.mp c61) k2)
              refine go_aloadn dX3_part_88 rfl ?_
              refine sg_getI dX3_part_89 fX3_57 rfl (rd_L rfl) hS ?_
              rw [r2]
              refine go_iconst (v := 1) dX3_part_92 rfl ?_
              refine go_icmp_ne (tgt := 102) dX3_part_93 (by decide) (fun c93 => absurd (x1.mpr k1) c93) (fun c93 => ?_)
              refine go_aloadn dX3_part_96 rfl ?_
              refine go_iloadn dX3_part_97 rfl ?_
              refine sg_rVi (M' := mX3_wordOfPart) ([.int (nI sh)]) dX3_part_98 lX3_236 vX3_wordOfPart (rd_L rfl) (by decide) rfl hS (wp _) rfl (Nat.le_of_ble_eq_true rfl) (Nat.zero_le _) (Nat.zero_le _) (fun g2 G => ?_)
              refine go_ireturn dX3_part_101 rfl rfl (Nat.zero_le _) (Nat.zero_le _) ?_
              exact ⟨rfl, G⟩
            · rw [if_neg f]
              rw [if_neg f] at wp
              refine go_iloadn dX3_part_31 rfl ?_
              refine go_if_ne (tgt := 41) dX3_part_32 (by decide) (fun c32 => ?_) (fun c32 => absurd c32 (by decide))
              refine go_aloadn dX3_part_41 rfl ?_
              refine sg_getI dX3_part_42 fX3_206 rfl (rd_L rfl) hS ?_
              rw [e14]
              refine go_bipush (v := 6) dX3_part_45 rfl ?_
              refine go_icmp_lt (tgt := 56) dX3_part_47 (by decide) (fun c47 => ?_) (fun c47 => absurd (nI_lt (b := 6) (by omega) (by omega)) c47)
              refine go_aloadn dX3_part_56 rfl ?_
              refine sg_getI dX3_part_57 fX3_57 rfl (rd_L rfl) hS ?_
              rw [r2]
              refine go_iconst (v := 2) dX3_part_60 rfl ?_
              refine go_icmp_ne (tgt := 88) dX3_part_61 (by decide) (fun c61 => ?_) (fun c61 => absurd (x2.mp c61) k2)
              refine go_aloadn dX3_part_88 rfl ?_
              refine sg_getI dX3_part_89 fX3_57 rfl (rd_L rfl) hS ?_
              rw [r2]
              refine go_iconst (v := 1) dX3_part_92 rfl ?_
              refine go_icmp_ne (tgt := 102) dX3_part_93 (by decide) (fun c93 => absurd (x1.mpr k1) c93) (fun c93 => ?_)
              refine go_aloadn dX3_part_96 rfl ?_
              refine go_iloadn dX3_part_97 rfl ?_
              refine sg_rVi (M' := mX3_wordOfPart) ([.int (nI sh)]) dX3_part_98 lX3_236 vX3_wordOfPart (rd_L rfl) (by decide) rfl hS (wp _) rfl (Nat.le_of_ble_eq_true rfl) (Nat.zero_le _) (Nat.zero_le _) (fun g2 G => ?_)
              refine go_ireturn dX3_part_101 rfl rfl (Nat.zero_le _) (Nat.zero_le _) ?_
              exact ⟨rfl, G⟩
          · rw [if_neg k1, if_pos (q0 _)]
            have F1 : Fz (fun a k => a = 3 ∧ (k = 14 ∨ k = 15 ∨ k = 17)) h (uI (uI (uI h 3 14 (nI (uE U + 1))) 3 15 0) 3 17 1) := ((Fz.rf.uI ⟨rfl, Or.inl rfl⟩).uI ⟨rfl, Or.inr (Or.inl rfl)⟩).uI ⟨rfl, Or.inr (Or.inr rfl)⟩
            have w1 : hI (uI (uI (uI h 3 14 (nI (uE U + 1))) 3 15 0) 3 17 1) 3 14 = nI (uE U + 1) := by rw [hI_uI_ne (by omega), hI_uI_ne (by omega), hI_uI_eq]
            have w2 : hI (uI (uI (uI h 3 14 (nI (uE U + 1))) 3 15 0) 3 17 1) 3 15 = 0 := by rw [hI_uI_ne (by omega), hI_uI_eq]
            have w3 : hI (uI (uI (uI h 3 14 (nI (uE U + 1))) 3 15 0) 3 17 1) 3 17 = 1 := hI_uI_eq
            have fin : ∀ g, g = uI (uI (uI h 3 14 (nI (uE U + 1))) 3 15 0) 3 17 1 → Go l (rmOf (d + 8) (0, 0)) mX3_part (hN h) (Zm (0, 0) (fun v0 h1 => v0 = some (.int 1) ∧ PRu h h1 c cl (ruGo b n U ((uD U, uE U + 1, 0, 1), 0 :: uW U, uP U))) noX) 122 [some (.ref 3), some (.int (nI sh)), some (.int 1)] [] g 0 0 := by
              intro g hg
              rw [← hg] at F1 w1 w2 w3
              have hS := F1.St hS
              have H2 := H.fz F1 (by omega) (fun k => by omega) (by omega) (fun k => by omega)
              refine go_aloadn dX3_part_122 rfl ?_
              refine go_iconst (v := 0) dX3_part_123 rfl ?_
              refine sg_rVi (M' := mX3_await) ([.int (nI 0)]) dX3_part_124 lX3_239 vX3_await (rd_L rfl) (by decide) rfl hS (r_await (c := c) (cl := cl) hS H2 b6 hc') rfl (Nat.le_of_ble_eq_true rfl) (Nat.zero_le _) (Nat.zero_le _) (fun g2 G => ?_)
              refine go_ireturn dX3_part_127 rfl rfl (Nat.zero_le _) (Nat.zero_le _) ?_
              exact ⟨rfl, pr_ok ((F1.sub (fun a k q => by unfold Sr; omega)).tr (G.1.sub (fun a k q => by unfold Sr; omega))) ⟨G.2, by rw [G.1.I (by omega), w1]; rfl, by rw [G.1.I (by omega), w2]; rfl, by rw [G.1.I (by omega), F1.I (by omega)]; exact e16, by rw [G.1.I (by omega), w3]; rfl⟩ rfl⟩
            refine go_iloadn dX3_part_31 rfl ?_
            refine go_if_ne (tgt := 41) dX3_part_32 (by decide) (fun c32 => ?_) (fun c32 => absurd c32 (by decide))
            refine go_aloadn dX3_part_41 rfl ?_
            refine sg_getI dX3_part_42 fX3_206 rfl (rd_L rfl) hS ?_
            rw [e14]
            refine go_bipush (v := 6) dX3_part_45 rfl ?_
            refine go_icmp_lt (tgt := 56) dX3_part_47 (by decide) (fun c47 => ?_) (fun c47 => absurd (nI_lt (b := 6) (by omega) (by omega)) c47)
            refine go_aloadn dX3_part_56 rfl ?_
            refine sg_getI dX3_part_57 fX3_57 rfl (rd_L rfl) hS ?_
            rw [r2]
            refine go_iconst (v := 2) dX3_part_60 rfl ?_
            refine go_icmp_ne (tgt := 88) dX3_part_61 (by decide) (fun c61 => ?_) (fun c61 => absurd (x2.mp c61) k2)
            refine go_aloadn dX3_part_88 rfl ?_
            refine sg_getI dX3_part_89 fX3_57 rfl (rd_L rfl) hS ?_
            rw [r2]
            refine go_iconst (v := 1) dX3_part_92 rfl ?_
            refine go_icmp_ne (tgt := 102) dX3_part_93 (by decide) (fun c93 => ?_) (fun c93 => absurd (x1.mp c93) k1)
            refine go_aloadn dX3_part_102 rfl ?_
            refine go_dup dX3_part_103 rfl ?_
            refine sg_getI dX3_part_104 fX3_206 rfl (rd_L rfl) hS ?_
            refine go_iconst (v := 1) dX3_part_107 rfl ?_
            refine go_iadd dX3_part_108 ?_
            rw [e14, nI_1]
            refine sg_putI dX3_part_109 fX3_206 rfl rfl (rd_L rfl) hS ?_
            refine go_aloadn dX3_part_112 rfl ?_
            refine go_iconst (v := 0) dX3_part_113 rfl ?_
            refine sg_putI dX3_part_114 fX3_227 rfl rfl (rd_L rfl) hS ?_
            refine go_aloadn dX3_part_117 rfl ?_
            refine go_iconst (v := 1) dX3_part_118 rfl ?_
            refine sg_putZ dX3_part_119 fX3_230 rfl rfl (rd_L rfl) hS (Or.inr rfl) ?_
            exact fin _ rfl
    refine go_aloadn dX3_part_0 rfl ?_
    refine sg_getI dX3_part_1 fX3_57 rfl (rd_L rfl) hS ?_
    rw [r2]
    refine go_iconst (v := 2) dX3_part_4 rfl ?_
    refine go_icmp_eq (tgt := 25) dX3_part_5 (by decide) (fun c5 => ?_) (fun c5 => ?_)
    · refine go_iconst (v := 1) dX3_part_25 rfl ?_
      refine go_goto (tgt := 30) dX3_part_26 (by decide) ?_
      refine go_ist2 dX3_part_30 rfl ?_
      exact go31
    · refine go_aloadn dX3_part_8 rfl ?_
      refine sg_getI dX3_part_9 fX3_57 rfl (rd_L rfl) hS ?_
      rw [r2]
      refine go_iconst (v := 1) dX3_part_12 rfl ?_
      refine go_icmp_eq (tgt := 25) dX3_part_13 (by decide) (fun c13 => ?_) (fun c13 => ?_)
      · refine go_iconst (v := 1) dX3_part_25 rfl ?_
        refine go_goto (tgt := 30) dX3_part_26 (by decide) ?_
        refine go_ist2 dX3_part_30 rfl ?_
        exact go31
      · refine go_aloadn dX3_part_16 rfl ?_
        refine go_bipush (v := 40) dX3_part_17 rfl ?_
        refine sg_cVi (M' := mX3_isSign) ([.int (nI 40)]) dX3_part_19 lX3_134 vX3_isSign (rd_L rfl) (by decide) rfl hS (isg _) rfl (Nat.le_of_ble_eq_true rfl) (Nat.zero_le _) (Nat.zero_le _) ?_
        refine go_if_eq (tgt := 29) dX3_part_22 (by decide) (fun c22 => absurd (i_0 c22) (fun q => q (z.elim (fun q => absurd (x2.mpr q) c5) (fun q => q.elim (fun q => absurd (x1.mpr q) c13) id)))) (fun c22 => ?_)
        refine go_iconst (v := 1) dX3_part_25 rfl ?_
        refine go_goto (tgt := 30) dX3_part_26 (by decide) ?_
        refine go_ist2 dX3_part_30 rfl ?_
        exact go31
  · rw [if_neg z, if_neg (q2 _)]
    rw [if_neg (fun q => z (Or.inr (Or.inr q)))] at isg
    refine go_aloadn dX3_part_0 rfl ?_
    refine sg_getI dX3_part_1 fX3_57 rfl (rd_L rfl) hS ?_
    rw [r2]
    refine go_iconst (v := 2) dX3_part_4 rfl ?_
    refine go_icmp_eq (tgt := 25) dX3_part_5 (by decide) (fun c5 => absurd (Or.inl (x2.mp c5)) z) (fun c5 => ?_)
    refine go_aloadn dX3_part_8 rfl ?_
    refine sg_getI dX3_part_9 fX3_57 rfl (rd_L rfl) hS ?_
    rw [r2]
    refine go_iconst (v := 1) dX3_part_12 rfl ?_
    refine go_icmp_eq (tgt := 25) dX3_part_13 (by decide) (fun c13 => absurd (Or.inr (Or.inl (x1.mp c13))) z) (fun c13 => ?_)
    refine go_aloadn dX3_part_16 rfl ?_
    refine go_bipush (v := 40) dX3_part_17 rfl ?_
    refine sg_cVi (M' := mX3_isSign) ([.int (nI 40)]) dX3_part_19 lX3_134 vX3_isSign (rd_L rfl) (by decide) rfl hS (isg _) rfl (Nat.le_of_ble_eq_true rfl) (Nat.zero_le _) (Nat.zero_le _) ?_
    refine go_if_eq (tgt := 29) dX3_part_22 (by decide) (fun c22 => ?_) (fun c22 => absurd rfl c22)
    refine go_iconst (v := 0) dX3_part_29 rfl ?_
    refine go_ist2 dX3_part_30 rfl ?_
    refine go_iloadn dX3_part_31 rfl ?_
    refine go_if_ne (tgt := 41) dX3_part_32 (by decide) (fun c32 => absurd rfl c32) (fun c32 => ?_)
    refine go_aloadn dX3_part_35 rfl ?_
    refine go_iconst (v := 1) dX3_part_36 rfl ?_
    refine sg_cVi (M' := mX3_fail) ([.int (nI 1)]) dX3_part_37 lX3_131 vX3_fail (rd_L rfl) (by decide) rfl hS (r_failR hS R (by decide)) rfl (Nat.le_of_ble_eq_true rfl) (Nat.zero_le _) (Nat.zero_le _) ?_
    refine go_ireturn dX3_part_40 rfl rfl (Nat.zero_le _) (Nat.zero_le _) ?_
    exact ⟨rfl, pr_fl Fz.rf (by decide)⟩
def tgO (o : Nat) : Nat := if bdN o = 4 then 5 else bdN o
/-- what stands behind a part -/
def rstB (b : Nat → Nat) (n : Nat) (U : Ru) : Ru :=
  if tkK b n (uS U) = 3 ∧ b (uS U) = 41 then (if uE U = 0 then ruFl U 1 else ruGo b n U ((uD U, uE U - 1, uC U, uM U), (popW 1 (uW U) (uP U)).1.tail, (popW 1 (uW U) (uP U)).2))
  else if opF b n (uS U) = 0 then ruFl U 1
  else if bdN (opF b n (uS U)) = 4 ∧ topB (popW 5 (uW U) (uP U)).1 = 4 then ruFl U 1
  else ruGo b n U ((1, uE U, 0, if opF b n (uS U) ≤ 2 then 1 else 0), opF b n (uS U) :: (popW (tgO (opF b n (uS U))) (uW U) (uP U)).1, (popW (tgO (opF b n (uS U))) (uW U) (uP U)).2)
theorem popW_len {m : Nat} : ∀ (W : List Nat) (p : Pr), (popW m W p).2.1 + (popW m W p).1.length = p.1 + W.length
  | [], p => rfl
  | o :: W, p => by
    have e : popW m (o :: W) p = if m ≤ bdN o then popW m W (psh p (opO o)) else (o :: W, p) := rfl
    rw [e]
    split
    · rw [popW_len W _]
      show p.1 + 1 + W.length = p.1 + (W.length + 1)
      omega
    · rfl
theorem popW_mem {m x : Nat} : ∀ (W : List Nat) (p : Pr), x ∈ (popW m W p).1 → x ∈ W
  | [], p, h => h
  | o :: W, p, h => by
    have e : popW m (o :: W) p = if m ≤ bdN o then popW m W (psh p (opO o)) else (o :: W, p) := rfl
    rw [e] at h
    split at h
    · exact List.mem_cons_of_mem _ (popW_mem W _ h)
    · exact h
theorem popW_le {m : Nat} (W : List Nat) (p : Pr) : (popW m W p).1.length ≤ W.length ∧ p.1 ≤ (popW m W p).2.1 := by
  induction W generalizing p with
  | nil => exact ⟨Nat.le_refl _, Nat.le_refl _⟩
  | cons o W ih =>
    have e : popW m (o :: W) p = if m ≤ bdN o then popW m W (psh p (opO o)) else (o :: W, p) := rfl
    rw [e]
    split
    · have := ih (psh p (opO o))
      have h2 : (psh p (opO o)).1 = p.1 + 1 := rfl
      rw [List.length_cons]
      omega
    · exact ⟨Nat.le_refl _, Nat.le_refl _⟩
theorem SKc.tl {h g : Hp} {c cl : Nat} {W : List Nat} {p : Pr} (H : SKc h c cl W p) (F : Fz (fun a k => a = 3 ∧ k = 13) h g) (hv : hI g 3 13 = nI (W.length - 1)) (hc : c = 6 ∨ c = 18) : SKc g c cl W.tail p := by
  refine ⟨by rw [hv, List.length_tail], fun i hi => ?_, by rw [F.I (by omega)]; exact H.2.2.1, fun j hj => by rw [F.I (by omega)]; exact H.2.2.2 j hj⟩
  cases W with
  | nil => exact absurd hi (Nat.not_lt_zero _)
  | cons o W =>
    have hi : i < W.length := hi
    rw [F.I (by omega), H.2.1 i (by rw [List.length_cons]; omega), List.length_cons, show W.length + 1 - 1 - i = (W.length - 1 - i) + 1 by omega]; rfl
theorem r_close {l : Launch} {d n c cl : Nat} {b : Nat → Nat} {h : Hp} {U : Ru} (hS : St h) (R : RC h b n (uS U)) (hc : CityAt c) (hC : hR h 3 7 = some c) (K : KU h c cl U) (B : UB n cl U) (hz : 0 < uE U → 0 < (uW U).length) : Ey l (d + 3) mX3_close [.ref 3] h (some (.int (if uE U = 0 then 0 else 1))) (fun g => PRu h g c cl (if uE U = 0 then ruFl U 1 else ruGo b n U ((uD U, uE U - 1, uC U, uM U), (popW 1 (uW U) (uP U)).1.tail, (popW 1 (uW U) (uP U)).2))) := by
  refine run_lv [some (.ref 3)] (go := ?_)
  have hc' := at_c hc
  obtain ⟨H, e14, e15, e16, e17⟩ := K
  obtain ⟨b1, b2, b3, b4, b5, b6, b7, b8, b9⟩ := B
  by_cases z : uE U = 0
  · rw [if_pos z, if_pos z]
    rw [z] at e14
    refine go_aloadn dX3_close_0 rfl ?_
    refine sg_getI dX3_close_1 fX3_206 rfl (rd_L rfl) hS ?_
    rw [e14]
    refine go_iconst (v := 1) dX3_close_4 rfl ?_
    refine go_icmp_lt (tgt := 16) dX3_close_5 (by decide) (fun c5 => ?_) (fun c5 => absurd (by decide) c5)
    refine go_aloadn dX3_close_16 rfl ?_
    refine go_iconst (v := 1) dX3_close_17 rfl ?_
    refine sg_cVi (M' := mX3_fail) ([.int (nI 1)]) dX3_close_18 lX3_131 vX3_fail (rd_L rfl) (by decide) rfl hS (r_failR hS R (by decide)) rfl (Nat.le_of_ble_eq_true rfl) (Nat.zero_le _) (Nat.zero_le _) ?_
    refine go_ireturn dX3_close_21 rfl rfl (Nat.zero_le _) (Nat.zero_le _) ?_
    exact ⟨rfl, pr_fl Fz.rf (by decide)⟩
  · rw [if_neg z, if_neg z]
    have hl := hz (by omega)
    have F1 : Fz (fun a k => a = 3 ∧ k = 14) h (uI h 3 14 (nI (uE U - 1))) := Fz.rf.uI ⟨rfl, rfl⟩
    have w1 : hI (uI h 3 14 (nI (uE U - 1))) 3 14 = nI (uE U - 1) := hI_uI_eq
    have h13 := H.1
    have fin : ∀ g, g = uI h 3 14 (nI (uE U - 1)) → Go l (rmOf (d + 3) (0, 0)) mX3_close (hN h) (Zm (0, 0) (fun v0 h1 => v0 = some (.int 1) ∧ PRu h h1 c cl (ruGo b n U ((uD U, uE U - 1, uC U, uM U), (popW 1 (uW U) (uP U)).1.tail, (popW 1 (uW U) (uP U)).2))) noX) 32 [some (.ref 3)] [] g 0 0 := by
      intro g hg
      rw [← hg] at F1 w1
      have hS := F1.St hS
      have H2 := H.fz F1 (by omega) (fun k => by omega) (by omega) (fun k => by omega)
      have pt := fun d => r_putTighter (l := l) (d := d) (m := 1) hS hc (by rw [F1.1]; exact hC) H2 b5 (by omega) (by omega) (by decide)
      have pl := (popW_le (m := 1) (uW U) (uP U)).1
      rw [show max 1 1 = 1 from rfl] at pt
      generalize popW 1 (uW U) (uP U) = q at *
      refine go_aloadn dX3_close_32 rfl ?_
      refine go_iconst (v := 1) dX3_close_33 rfl ?_
      refine sg_rV0 (M' := mX3_putTighter) ([.int (nI 1)]) dX3_close_34 lX3_216 vX3_putTighter (rd_L rfl) (by decide) rfl hS (pt _) rfl (Nat.le_of_ble_eq_true rfl) (Nat.zero_le _) (Nat.zero_le _) (fun g2 G => ?_)
      skip
      have hS := G.1.St hS
      have g13 := G.2.1
      have Fb : Fz (Sr c cl) h g2 := (F1.sub (fun a k q => by unfold Sr; omega)).tr (G.1.sub (fun a k q => by unfold Spt at q; unfold Sr; omega))
      have f14 : hI g2 3 14 = nI (uE U - 1) := by rw [G.1.I (by unfold Spt; omega)]; exact w1
      have f15 : hI g2 3 15 = nI (uC U) := by rw [G.1.I (by unfold Spt; omega), F1.I (by omega)]; exact e15
      have f16 : hI g2 3 16 = nI (uD U) := by rw [G.1.I (by unfold Spt; omega), F1.I (by omega)]; exact e16
      have f17 : hI g2 3 17 = nI (uM U) := by rw [G.1.I (by unfold Spt; omega), F1.I (by omega)]; exact e17
      by_cases e : q.1.length = 0
      · have e0 : q.1 = [] := List.length_eq_zero_iff.mp e
        rw [e] at g13
        refine go_aloadn dX3_close_37 rfl ?_
        refine sg_getI dX3_close_38 fX3_224 rfl (rd_L rfl) hS ?_
        rw [g13]
        refine go_if_le (tgt := 54) dX3_close_41 (by decide) (fun c41 => ?_) (fun c41 => absurd (Int32.le_refl _) c41)
        refine go_iconst (v := 1) dX3_close_54 rfl ?_
        refine go_ireturn dX3_close_55 rfl rfl (Nat.zero_le _) (Nat.zero_le _) ?_
        exact ⟨rfl, pr_ok Fb ⟨by have := G.2; rw [e0] at this ⊢; exact this, f14, f15, f16, f17⟩ rfl⟩
      · have F3 : Fz (fun a k => a = 3 ∧ k = 13) g2 (uI g2 3 13 (nI (q.1.length - 1))) := Fz.rf.uI ⟨rfl, rfl⟩
        refine go_aloadn dX3_close_37 rfl ?_
        refine sg_getI dX3_close_38 fX3_224 rfl (rd_L rfl) hS ?_
        rw [g13]
        refine go_if_le (tgt := 54) dX3_close_41 (by decide) (fun c41 => absurd c41 (Int32.not_le.mpr (nI_lt (a := 0) (by omega) (by omega)))) (fun c41 => ?_)
        refine go_aloadn dX3_close_44 rfl ?_
        refine go_dup dX3_close_45 rfl ?_
        refine sg_getI dX3_close_46 fX3_224 rfl (rd_L rfl) hS ?_
        refine go_iconst (v := 1) dX3_close_49 rfl ?_
        refine go_isub dX3_close_50 ?_
        rw [g13, show nI q.1.length - 1 = nI (q.1.length - 1) from nI_sb (s := 1) (by omega)]
        refine sg_putI dX3_close_51 fX3_224 rfl rfl (rd_L rfl) hS ?_
        refine go_iconst (v := 1) dX3_close_54 rfl ?_
        refine go_ireturn dX3_close_55 rfl rfl (Nat.zero_le _) (Nat.zero_le _) ?_
        exact ⟨rfl, pr_ok (Fb.uI (by unfold Sr; omega)) ⟨G.2.tl F3 hI_uI_eq hc', by rw [hI_uI_ne (by omega)]; exact f14, by rw [hI_uI_ne (by omega)]; exact f15, by rw [hI_uI_ne (by omega)]; exact f16, by rw [hI_uI_ne (by omega)]; exact f17⟩ rfl⟩
    refine go_aloadn dX3_close_0 rfl ?_
    refine sg_getI dX3_close_1 fX3_206 rfl (rd_L rfl) hS ?_
    rw [e14]
    refine go_iconst (v := 1) dX3_close_4 rfl ?_
    refine go_icmp_lt (tgt := 16) dX3_close_5 (by decide) (fun c5 => absurd c5 (nI_nlt (b := 1) (by omega) (by omega))) (fun c5 => ?_)
    refine go_aloadn dX3_close_8 rfl ?_
    refine sg_getI dX3_close_9 fX3_224 rfl (rd_L rfl) hS ?_
    rw [h13]
    refine go_iconst (v := 1) dX3_close_12 rfl ?_
    refine go_icmp_ge (tgt := 22) dX3_close_13 (by decide) (fun c13 => ?_) (fun c13 => absurd (nI_le (a := 1) (by omega) (by omega)) c13)
    refine go_aloadn dX3_close_22 rfl ?_
    refine go_dup dX3_close_23 rfl ?_
    refine sg_getI dX3_close_24 fX3_206 rfl (rd_L rfl) hS ?_
    refine go_iconst (v := 1) dX3_close_27 rfl ?_
    refine go_isub dX3_close_28 ?_
    rw [e14, show nI (uE U) - 1 = nI (uE U - 1) from nI_sb (s := 1) (by omega)]
    refine sg_putI dX3_close_29 fX3_206 rfl rfl (rd_L rfl) hS ?_
    exact fin _ rfl
