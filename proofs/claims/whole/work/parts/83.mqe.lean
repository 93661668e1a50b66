/-! the model: years -/
theorem toI_n (y : Int32) : y.toInt = if 2 * y.toBitVec.toNat < 2 ^ 32 then (y.toBitVec.toNat : Int) else (y.toBitVec.toNat : Int) - 2 ^ 32 := BitVec.toInt_eq_toNat_cond y.toBitVec
theorem sh16 (x : Int32) : (x >>> ((16 : Int32) &&& 31)) &&& 32767 = usR x 16 &&& 32767 := by
  rw [pk_and (x >>> ((16 : Int32) &&& 31)) (m := 32767) 15 (by decide), pk_and (usR x 16) (m := 32767) 15 (by decide)]
  have h1 := pk_shr x ((16 : Int32) &&& 31) 16 (by decide)
  have h2 := pk_ushr x 16 16 (by decide)
  have n1 := x.toBitVec.isLt
  have n2 := (x >>> ((16 : Int32) &&& 31)).toBitVec.isLt
  rw [Int.shiftRight_eq_div_pow, toI_n, toI_n] at h1
  rw [h2]
  generalize x.toBitVec.toNat = n at *
  generalize (x >>> ((16 : Int32) &&& 31)).toBitVec.toNat = m at *
  have : m % 2 ^ 15 = n / 2 ^ 16 % 2 ^ 15 := by
    split at h1 <;> split at h1 <;> omega
  rw [this]
theorem q_draw {l : Launch} {d n : Nat} {h : Hp} (hS : St h) (hn : 1 ≤ n) (hn2 : n ≤ 1000) : Ex l (d + 1) mX10_draw [.ref 77, .int (nI n)] h (some (.int (nI (drN (drF (hI h 77 55)) n)))) (uI h 77 55 (drF (hI h 77 55))) := by
  refine run_lv [some (.ref 77), some (.int (nI n))] (go := ?_)
  obtain ⟨j, hj, ej⟩ := pk_andE (usR (drF (hI h 77 55)) 16) (m := 32767) 15 (by decide)
  refine go_aloadn dX10_draw_0 rfl ?_
  refine go_aloadn dX10_draw_1 rfl ?_
  refine sg_getI dX10_draw_2 fX10_435 rfl (mo_L rfl) hS ?_
  refine go_ldcw dX10_draw_5 kX10_438 ?_
  refine go_imul dX10_draw_8 ?_
  refine go_sipush (v := 12345) dX10_draw_9 rfl ?_
  refine go_iadd dX10_draw_12 ?_
  refine sg_putI dX10_draw_13 fX10_435 rfl rfl (mo_L rfl) hS ?_
  refine go_aloadn dX10_draw_16 rfl ?_
  refine sg_getI dX10_draw_17 fX10_435 rfl (mo_L rfl) hS ?_
  rw [hI_uI_eq]
  refine go_bipush (v := 16) dX10_draw_20 rfl ?_
  refine go_ishr dX10_draw_22 ?_
  refine go_sipush (v := 32767) dX10_draw_23 rfl ?_
  refine go_iand dX10_draw_26 ?_
  rw [sh16]
  refine go_iloadn dX10_draw_27 rfl ?_
  refine go_irem dX10_draw_28 (nI_ne0 (by omega) (by omega)) ?_
  refine go_ireturn dX10_draw_29 rfl rfl (Nat.zero_le _) (Nat.zero_le _) ?_
  exact ⟨by rw [drN, ej, cl_nI (by omega), ← pk_rem (show j < 2 ^ 31 by omega) (by omega) (by omega), ← ej]; rfl, rfl⟩
theorem mt_se {h : Hp} {b : Nat} {C : Cy} {T : Tn} {v : Int32} (W : WC C) (H : MT h b C T) : MT (uI h 77 55 v) b C T := H.fz (S := fun a k => a = 77 ∧ k = 55) W (Fz.rf.uI ⟨rfl, rfl⟩) (fun k _ _ => by omega)
theorem sn55 : SN 77 55 := by unfold SN; omega
theorem ME.se {h : Hp} {as ar : Nat} {C : Cy} {T T' : Tn} {v : Int32} (W : WC C) (H : ME h as ar C T T') : ME (uI h 77 55 v) as ar C T T' := ⟨H.1.sn W (Fz.rf.uI sn55), mt_se W H.2⟩
theorem hp2 {C : Cy} {e : Nat} {s : Int32} {T : Tn} (h : 2 < e) : hpT C e s T = (s, T) := hp3 (by omega) (by omega) (by omega)
/-- an event of the year, or none -/
def evS (C : Cy) (s : Int32) (T : Tn) : Int32 × Tn := if 0 < cP C ∧ 0 < cN C then hpT C (drN (drF s) 5) (drF s) T else (drF s, T)
theorem q_happens {l : Launch} {d as ar : Nat} {C : Cy} {T T' : Tn} {h : Hp} (W : WC C) (H : ME h as ar C T T') : Ey l (d + 2) mX10_happens [.ref 77] h none (fun g => Fz SN h g ∧ ME g as ar C T (evS C (hI h 77 55) T').2 ∧ hI g 77 55 = (evS C (hI h 77 55) T').1) := by
  have hN1 := W.1.1
  have hP := W.1.2.1
  have hS := H.1.1.1
  have r0 := fun n a b => q_draw (l := l) (d := d) (n := n) hS a b
  have H1 := H.se (v := drF (hI h 77 55)) W
  have G1 : Fz SN h (uI h 77 55 (drF (hI h 77 55))) := Fz.rf.uI sn55
  have s1 : hI (uI h 77 55 (drF (hI h 77 55))) 77 55 = drF (hI h 77 55) := hI_uI_eq
  generalize hI h 77 55 = s at *
  have e5 : drN (drF s) 5 < 5 := drN_lt (by decide)
  have a0 := r0 5 (by decide) (by decide)
  generalize he : drN (drF s) 5 = e at *
  have ev : evS C s T' = if 0 < cP C ∧ 0 < cN C then hpT C e (drF s) T' else (drF s, T') := by rw [← he]; rfl
  generalize uI h 77 55 (drF s) = g1 at *
  have S1 := H1.1.1.1
  have r1 := fun n a b => q_draw (l := l) (d := d) (n := n) S1 a b
  rw [s1] at r1
  have H2 := H1.se (v := drF (drF s)) W
  have G2 : Fz SN h (uI g1 77 55 (drF (drF s))) := G1.uI sn55
  have s2 : hI (uI g1 77 55 (drF (drF s))) 77 55 = drF (drF s) := hI_uI_eq
  generalize hg2 : uI g1 77 55 (drF (drF s)) = g2 at *
  have S2 := H2.1.1.1
  have r2 := fun n a b => q_draw (l := l) (d := d) (n := n) S2 a b
  rw [s2] at r2
  have H3 := H2.se (v := drF (drF (drF s))) W
  have G3 : Fz SN h (uI g2 77 55 (drF (drF (drF s)))) := G2.uI sn55
  have s3 : hI (uI g2 77 55 (drF (drF (drF s)))) 77 55 = drF (drF (drF s)) := hI_uI_eq
  generalize hg3 : uI g2 77 55 (drF (drF (drF s))) = g3 at *
  have S3 := H3.1.1.1
  have t1 := H1.1.1.2.1.2.2.1
  have p1 := H1.1.1.2.1.2.1
  have t2 := H2.1.1.2.1.2.2.1
  have p2 := H2.1.1.2.1.2.1
  have st : ∀ k, 105 ≤ k → SN 91 k := fun k hk => by unfold SN; omega
  refine run_lv [some (.ref 77), none, none, none] (go := ?_)
  by_cases en : 2 < e
  · have ev2 : evS C s T' = (drF s, T') := by rw [ev, hp2 en]; split <;> rfl
    refine go_aloadn dX10_happens_0 rfl ?_
    refine go_iconst (v := 5) dX10_happens_1 rfl ?_
    refine sg_cVi (M' := mX10_draw) ([.int (nI 5)]) dX10_happens_2 lX10_439 vX10_draw (mo_L rfl) (by decide) rfl hS (a0) rfl (Nat.le_of_ble_eq_true rfl) (Nat.zero_le _) (Nat.zero_le _) ?_
    refine go_ist1 dX10_happens_5 rfl ?_
    refine go_iloadn dX10_happens_6 rfl ?_
    refine go_iconst (v := 2) dX10_happens_7 rfl ?_
    refine go_icmp_gt (tgt := 25) dX10_happens_8 (by decide) (fun c8 => ?_) (fun c8 => absurd (nI_lt (a := 2) en (by omega)) c8)
    refine go_return dX10_happens_25 rfl (Nat.zero_le _) (Nat.zero_le _) ?_
    exact ⟨rfl, G1, by rw [ev2]; exact H1, by rw [ev2]; exact s1⟩
  by_cases pn : 0 < cP C ∧ 0 < cN C
  · have ev2 : evS C s T' = hpT C e (drF s) T' := by rw [ev, if_pos pn]
    have dP : ∀ s, drN s (cP C) < cP C := fun s => drN_lt pn.1
    have dN : ∀ s, drN s (cN C) < cN C := fun s => drN_lt pn.2
    rw [ev2]
    refine go_aloadn dX10_happens_0 rfl ?_
    refine go_iconst (v := 5) dX10_happens_1 rfl ?_
    refine sg_cVi (M' := mX10_draw) ([.int (nI 5)]) dX10_happens_2 lX10_439 vX10_draw (mo_L rfl) (by decide) rfl hS (a0) rfl (Nat.le_of_ble_eq_true rfl) (Nat.zero_le _) (Nat.zero_le _) ?_
    refine go_ist1 dX10_happens_5 rfl ?_
    refine go_iloadn dX10_happens_6 rfl ?_
    refine go_iconst (v := 2) dX10_happens_7 rfl ?_
    refine go_icmp_gt (tgt := 25) dX10_happens_8 (by decide) (fun c8 => absurd c8 (nI_nlt (a := 2) (by omega) (by omega))) (fun c8 => ?_)
    have hS := S1
    refine go_aloadn dX10_happens_11 rfl ?_
    refine sg_getI dX10_happens_12 fX10_273 rfl (mo_L rfl) hS ?_
    rw [p1]
    refine go_if_eq (tgt := 25) dX10_happens_15 (by decide) (fun c15 => absurd c15 (nI_ne0 pn.1 (by omega))) (fun c15 => ?_)
    refine go_aloadn dX10_happens_18 rfl ?_
    refine sg_getI dX10_happens_19 fX10_276 rfl (mo_L rfl) hS ?_
    rw [t1]
    refine go_if_ne (tgt := 26) dX10_happens_22 (by decide) (fun c22 => ?_) (fun c22 => absurd c22 (nI_ne0 pn.2 (by omega)))
    skip
    have e3 : e = 0 ∨ e = 1 ∨ e = 2 := by omega
    rcases e3 with rfl | rfl | rfl
    · have dp := dP (drF (drF s))
      have dn := dN (drF (drF (drF s)))
      have hE : hpT C 0 (drF s) T' = (drF (drF (drF s)), if tO T' (drN (drF (drF (drF s))) (cN C)) = nI (drN (drF (drF s)) (cP C)) ∨ tB T' (drN (drF (drF (drF s))) (cN C)) = nI (drN (drF (drF s)) (cP C)) then T' else poT (nI (drN (drF (drF s)) (cP C))) (drN (drF (drF (drF s))) (cN C)) T') := rfl
      rw [hE]
      have a1 := r1 (cP C) pn.1 (by omega)
      have a2 := r2 (cN C) pn.2 (by omega)
      generalize drN (drF (drF s)) (cP C) = p at *
      generalize drN (drF (drF (drF s))) (cN C) = t at *
      by_cases nq : tO T' t = nI p ∨ tB T' t = nI p
      · rw [if_pos nq]
        refine go_iloadn dX10_happens_26 rfl ?_
        refine go_if_ne (tgt := 70) dX10_happens_27 (by decide) (fun c27 => absurd rfl c27) (fun c27 => ?_)
        refine go_aloadn dX10_happens_30 rfl ?_
        refine go_aloadn dX10_happens_31 rfl ?_
        refine sg_getI dX10_happens_32 fX10_273 rfl (mo_L rfl) hS ?_
        rw [p1]
        refine sg_cVi (M' := mX10_draw) ([.int (nI (cP C))]) dX10_happens_35 lX10_439 vX10_draw (mo_L rfl) (by decide) rfl hS (a1) rfl (Nat.le_of_ble_eq_true rfl) (Nat.zero_le _) (Nat.zero_le _) ?_
        have hS := S2
        refine go_ist2 dX10_happens_38 rfl ?_
        refine go_aloadn dX10_happens_39 rfl ?_
        refine go_aloadn dX10_happens_40 rfl ?_
        refine sg_getI dX10_happens_41 fX10_276 rfl (mo_L rfl) hS ?_
        rw [t2]
        refine sg_cVi (M' := mX10_draw) ([.int (nI (cN C))]) dX10_happens_44 lX10_439 vX10_draw (mo_L rfl) (by decide) rfl hS (a2) rfl (Nat.le_of_ble_eq_true rfl) (Nat.zero_le _) (Nat.zero_le _) ?_
        have hS := S3
        refine go_ist3 dX10_happens_47 rfl ?_
        refine go_aloadn dX10_happens_48 rfl ?_
        refine go_bipush (v := 105) dX10_happens_49 rfl ?_
        refine go_iloadn dX10_happens_51 rfl ?_
        refine go_iloadn dX10_happens_52 rfl ?_
        refine sg_cVi (M' := mX10_maySteal) ([.int (nI 105), .int (nI p), .int (nI t)]) dX10_happens_53 lX10_386 vX10_maySteal (mo_L rfl) (by decide) rfl hS (q_maySteal W H3.1.1 H3.2 (by decide) dn) rfl (Nat.le_of_ble_eq_true rfl) (Nat.zero_le _) (Nat.zero_le _) ?_
        rw [if_pos nq]
        refine go_if_eq (tgt := 67) dX10_happens_56 (by decide) (fun c56 => ?_) (fun c56 => absurd rfl c56)
        refine go_goto (tgt := 121) dX10_happens_67 (by decide) ?_
        refine go_return dX10_happens_121 rfl (Nat.zero_le _) (Nat.zero_le _) ?_
        exact ⟨rfl, G3, H3, s3⟩
      · rw [if_neg nq]
        refine go_iloadn dX10_happens_26 rfl ?_
        refine go_if_ne (tgt := 70) dX10_happens_27 (by decide) (fun c27 => absurd rfl c27) (fun c27 => ?_)
        refine go_aloadn dX10_happens_30 rfl ?_
        refine go_aloadn dX10_happens_31 rfl ?_
        refine sg_getI dX10_happens_32 fX10_273 rfl (mo_L rfl) hS ?_
        rw [p1]
        refine sg_cVi (M' := mX10_draw) ([.int (nI (cP C))]) dX10_happens_35 lX10_439 vX10_draw (mo_L rfl) (by decide) rfl hS (a1) rfl (Nat.le_of_ble_eq_true rfl) (Nat.zero_le _) (Nat.zero_le _) ?_
        have hS := S2
        refine go_ist2 dX10_happens_38 rfl ?_
        refine go_aloadn dX10_happens_39 rfl ?_
        refine go_aloadn dX10_happens_40 rfl ?_
        refine sg_getI dX10_happens_41 fX10_276 rfl (mo_L rfl) hS ?_
        rw [t2]
        refine sg_cVi (M' := mX10_draw) ([.int (nI (cN C))]) dX10_happens_44 lX10_439 vX10_draw (mo_L rfl) (by decide) rfl hS (a2) rfl (Nat.le_of_ble_eq_true rfl) (Nat.zero_le _) (Nat.zero_le _) ?_
        have hS := S3
        refine go_ist3 dX10_happens_47 rfl ?_
        refine go_aloadn dX10_happens_48 rfl ?_
        refine go_bipush (v := 105) dX10_happens_49 rfl ?_
        refine go_iloadn dX10_happens_51 rfl ?_
        refine go_iloadn dX10_happens_52 rfl ?_
        refine sg_cVi (M' := mX10_maySteal) ([.int (nI 105), .int (nI p), .int (nI t)]) dX10_happens_53 lX10_386 vX10_maySteal (mo_L rfl) (by decide) rfl hS (q_maySteal W H3.1.1 H3.2 (by decide) dn) rfl (Nat.le_of_ble_eq_true rfl) (Nat.zero_le _) (Nat.zero_le _) ?_
        rw [if_neg nq]
        refine go_if_eq (tgt := 67) dX10_happens_56 (by decide) (fun c56 => absurd c56 (by decide)) (fun c56 => ?_)
        refine go_aloadn dX10_happens_59 rfl ?_
        refine go_bipush (v := 105) dX10_happens_60 rfl ?_
        refine go_iloadn dX10_happens_62 rfl ?_
        refine go_iloadn dX10_happens_63 rfl ?_
        refine sg_cV0 (M' := mX10_steals) ([.int (nI 105), .int (nI p), .int (nI t)]) dX10_happens_64 lX10_389 vX10_steals (mo_L rfl) (by decide) rfl hS (q_steals S3 (by decide) (by omega)) rfl (Nat.le_of_ble_eq_true rfl) (Nat.zero_le _) (Nat.zero_le _) ?_
        refine go_goto (tgt := 121) dX10_happens_67 (by decide) ?_
        refine go_return dX10_happens_121 rfl (Nat.zero_le _) (Nat.zero_le _) ?_
        exact ⟨rfl, (G3.uI (st _ (by omega))).uI (st _ (by omega)), ⟨H3.1.sn W ((Fz.rf.uI (st _ (by omega))).uI (st _ (by omega))), mt_po W dn H3.2⟩, by rw [hI_uI_ne (by omega), hI_uI_ne (by omega)]; exact s3⟩
    · have dn := dN (drF (drF s))
      have hE : hpT C 1 (drF s) T' = (drF (drF (drF s)), (tD T', tC T', tO T', tB T', tS T', upd (tX T') (drN (drF (drF s)) (cN C)) (nI (drN (drF (drF (drF s))) 10)), tH T', tV T', tW T')) := rfl
      rw [hE]
      have a1 := r1 (cN C) pn.2 (by omega)
      have a2 := r2 10 (by decide) (by decide)
      generalize drN (drF (drF s)) (cN C) = t at *
      generalize drN (drF (drF (drF s))) 10 = v at *
      have hx := mt_X (v := nI v) W dn H3.2
      rw [← Nat.add_assoc] at hx
      refine go_iloadn dX10_happens_26 rfl ?_
      refine go_if_ne (tgt := 70) dX10_happens_27 (by decide) (fun c27 => ?_) (fun c27 => absurd c27 (by decide))
      refine go_iloadn dX10_happens_70 rfl ?_
      refine go_iconst (v := 1) dX10_happens_71 rfl ?_
      refine go_icmp_ne (tgt := 103) dX10_happens_72 (by decide) (fun c72 => absurd rfl c72) (fun c72 => ?_)
      refine go_aloadn dX10_happens_75 rfl ?_
      refine go_aloadn dX10_happens_76 rfl ?_
      refine sg_getI dX10_happens_77 fX10_276 rfl (mo_L rfl) hS ?_
      rw [t1]
      refine sg_cVi (M' := mX10_draw) ([.int (nI (cN C))]) dX10_happens_80 lX10_439 vX10_draw (mo_L rfl) (by decide) rfl hS (a1) rfl (Nat.le_of_ble_eq_true rfl) (Nat.zero_le _) (Nat.zero_le _) ?_
      have hS := S2
      refine go_ist2 dX10_happens_83 rfl ?_
      refine go_aloadn dX10_happens_84 rfl ?_
      refine sg_getR dX10_happens_85 fX10_66 rfl (mo_L rfl) hS (mo_r42 hS rfl) ?_
      refine go_sipush (v := 136) dX10_happens_88 rfl ?_
      refine go_iloadn dX10_happens_91 rfl ?_
      refine go_iadd dX10_happens_92 ?_
      refine go_aloadn dX10_happens_93 rfl ?_
      refine go_bipush (v := 10) dX10_happens_94 rfl ?_
      refine sg_cVi (M' := mX10_draw) ([.int (nI 10)]) dX10_happens_96 lX10_439 vX10_draw (mo_L rfl) (by decide) rfl hS (a2) rfl (Nat.le_of_ble_eq_true rfl) (Nat.zero_le _) (Nat.zero_le _) ?_
      have hS := S3
      refine sg_iastN (i := 136 + t) dX10_happens_99 (mo_42 rfl) hS (by simp only [lit_nI, nI_add, pk_mul, Nat.add_assoc, Nat.zero_add, Nat.add_zero]) (by omega) ?_
      refine go_goto (tgt := 121) dX10_happens_100 (by decide) ?_
      refine go_return dX10_happens_121 rfl (Nat.zero_le _) (Nat.zero_le _) ?_
      exact ⟨rfl, G3.uI (st _ (by omega)), ⟨H3.1.sn W (Fz.rf.uI (st _ (by omega))), hx⟩, by rw [hI_uI_ne (by omega)]; exact s3⟩
    · have dp := dP (drF (drF s))
      have hE : hpT C 2 (drF s) T' = (drF (drF s), (tD T', tC T', tO T', tB T', tS T', tX T', upd (tH T') (drN (drF (drF s)) (cP C)) 0, tV T', tW T')) := rfl
      rw [hE]
      have a1 := r1 (cP C) pn.1 (by omega)
      generalize drN (drF (drF s)) (cP C) = p at *
      have hx := mt_H (v := 0) W dp H2.2
      rw [← Nat.add_assoc] at hx
      refine go_iloadn dX10_happens_26 rfl ?_
      refine go_if_ne (tgt := 70) dX10_happens_27 (by decide) (fun c27 => ?_) (fun c27 => absurd c27 (by decide))
      refine go_iloadn dX10_happens_70 rfl ?_
      refine go_iconst (v := 1) dX10_happens_71 rfl ?_
      refine go_icmp_ne (tgt := 103) dX10_happens_72 (by decide) (fun c72 => ?_) (fun c72 => absurd c72 (by decide))
      refine go_aloadn dX10_happens_103 rfl ?_
      refine sg_getR dX10_happens_104 fX10_66 rfl (mo_L rfl) hS (mo_r42 hS rfl) ?_
      refine go_sipush (v := 146) dX10_happens_107 rfl ?_
      refine go_aloadn dX10_happens_110 rfl ?_
      refine go_aloadn dX10_happens_111 rfl ?_
      refine sg_getI dX10_happens_112 fX10_273 rfl (mo_L rfl) hS ?_
      rw [p1]
      refine sg_cVi (M' := mX10_draw) ([.int (nI (cP C))]) dX10_happens_115 lX10_439 vX10_draw (mo_L rfl) (by decide) rfl hS (a1) rfl (Nat.le_of_ble_eq_true rfl) (Nat.zero_le _) (Nat.zero_le _) ?_
      have hS := S2
      refine go_iadd dX10_happens_118 ?_
      refine go_iconst (v := 0) dX10_happens_119 rfl ?_
      refine sg_iastN (i := 146 + p) dX10_happens_120 (mo_42 rfl) hS (by simp only [lit_nI, nI_add, pk_mul, Nat.add_assoc, Nat.zero_add, Nat.add_zero]) (by omega) ?_
      refine go_return dX10_happens_121 rfl (Nat.zero_le _) (Nat.zero_le _) ?_
      exact ⟨rfl, G2.uI (st _ (by omega)), ⟨H2.1.sn W (Fz.rf.uI (st _ (by omega))), hx⟩, by rw [hI_uI_ne (by omega)]; exact s2⟩
  · have ev2 : evS C s T' = (drF s, T') := by rw [ev, if_neg pn]
    refine go_aloadn dX10_happens_0 rfl ?_
    refine go_iconst (v := 5) dX10_happens_1 rfl ?_
    refine sg_cVi (M' := mX10_draw) ([.int (nI 5)]) dX10_happens_2 lX10_439 vX10_draw (mo_L rfl) (by decide) rfl hS (a0) rfl (Nat.le_of_ble_eq_true rfl) (Nat.zero_le _) (Nat.zero_le _) ?_
    refine go_ist1 dX10_happens_5 rfl ?_
    refine go_iloadn dX10_happens_6 rfl ?_
    refine go_iconst (v := 2) dX10_happens_7 rfl ?_
    refine go_icmp_gt (tgt := 25) dX10_happens_8 (by decide) (fun c8 => absurd c8 (nI_nlt (a := 2) (by omega) (by omega))) (fun c8 => ?_)
    have hS := S1
    refine go_aloadn dX10_happens_11 rfl ?_
    refine sg_getI dX10_happens_12 fX10_273 rfl (mo_L rfl) hS ?_
    rw [p1]
    refine go_if_eq (tgt := 25) dX10_happens_15 (by decide) (fun c15 => ?_) (fun c15 => ?_)
    · refine go_return dX10_happens_25 rfl (Nat.zero_le _) (Nat.zero_le _) ?_
      exact ⟨rfl, G1, by rw [ev2]; exact H1, by rw [ev2]; exact s1⟩
    · refine go_aloadn dX10_happens_18 rfl ?_
      refine sg_getI dX10_happens_19 fX10_276 rfl (mo_L rfl) hS ?_
      rw [t1]
      refine go_if_ne (tgt := 26) dX10_happens_22 (by decide) (fun c22 => absurd ⟨Nat.pos_of_ne_zero (fun q => c15 (by rw [q]; rfl)), Nat.pos_of_ne_zero (fun q => c22 (by rw [q]; rfl))⟩ pn) (fun c22 => ?_)
      refine go_return dX10_happens_25 rfl (Nat.zero_le _) (Nat.zero_le _) ?_
      exact ⟨rfl, G1, by rw [ev2]; exact H1, by rw [ev2]; exact s1⟩
theorem WT.hp {C : Cy} {T : Tn} {e : Nat} {s : Int32} (V : WT C T) (pn : 0 < cP C ∧ 0 < cN C) : WT C (hpT C e s T).2 := by
  unfold hpT
  by_cases e0 : e = 0
  · rw [if_pos e0]
    dsimp only
    split
    · exact V
    · exact V.po (Or.inr ⟨_, drN_lt pn.1, rfl⟩)
  rw [if_neg e0]
  by_cases e1 : e = 1
  · rw [if_pos e1]
    refine ⟨fun t ht => ⟨(V.1 t ht).1, (V.1 t ht).2.1, (V.1 t ht).2.2.1, ?_⟩, V.2⟩
    show ∃ x, x ≤ 9 ∧ upd (tX T) (drN (drF s) (cN C)) (nI (drN (drF (drF s)) 10)) t = nI x
    by_cases z : t = drN (drF s) (cN C)
    · rw [z, pk_us]; exact ⟨_, by have : drN (drF (drF s)) 10 < 10 := drN_lt (by decide); omega, rfl⟩
    · rw [pk_un z]; exact (V.1 t ht).2.2.2
  rw [if_neg e1]
  split
  · refine ⟨V.1, fun q hq => ⟨?_, (V.2.1 q hq).2⟩, V.2.2⟩
    show ∃ x, x ≤ 99 ∧ upd (tH T) (drN (drF s) (cP C)) 0 q = nI x
    by_cases z : q = drN (drF s) (cP C)
    · rw [z, pk_us]; exact ⟨0, by omega, rfl⟩
    · rw [pk_un z]; exact (V.2.1 q hq).1
  · exact V
theorem WT.evs {C : Cy} {T : Tn} {s : Int32} (V : WT C T) : WT C (evS C s T).2 := by
  unfold evS
  split
  · exact V.hp (by assumption)
  · exact V
theorem tC_hp {C : Cy} {e : Nat} {s : Int32} {T : Tn} : tC (hpT C e s T).2 = tC T := by
  unfold hpT
  split
  · dsimp only; split <;> rfl
  · split
    · rfl
    · split <;> rfl
theorem tC_evs {C : Cy} {T : Tn} {s : Int32} : tC (evS C s T).2 = tC T := by
  unfold evS
  split
  · exact tC_hp
  · rfl
theorem tD_evs {C : Cy} {T : Tn} {s : Int32} : tD (evS C s T).2 = tD T := by
  unfold evS
  split
  · exact tD_hp
  · rfl
theorem WT.yr {C : Cy} {T : Tn} {s : Int32} {k : Nat} (W : WC C) (V : WT C T) : WT C (yrT C T s k).2 := by
  induction k with
  | zero => exact V.t0
  | succ k ih => exact WT.day W (ih.evs (s := (yrT C T s k).1))
theorem q_dayY {l : Launch} {d as ar : Nat} {C : Cy} {T T' : Tn} {h : Hp} (W : WC C) (H : ME h as ar C T T') (V : WT C T') (hD : tD T' + 1 < 2 ^ 30) : Ey l (d + 6) mX10_dayGoes [.ref 77, .int (nI 105)] h none (fun g => Fz SN h g ∧ ME g as ar C T (dayT C 0 T') ∧ tC T' + hI g 77 48 = tC (dayT C 0 T') ∧ hI g 77 55 = hI h 77 55) := by
  refine (q_dayGoes W H.1.1 H.2 V (Nat.le_refl _) hD).mono (fun g q => ?_)
  obtain ⟨F, m, o⟩ := q
  rw [H.1.2.2] at m o
  refine ⟨F.sub (fun _ _ => sdn), ⟨H.1.sn W (F.sub (fun _ _ => sdn)), ?_⟩, ?_, F.I (by unfold SD; omega)⟩
  · rw [day_t0]; exact m
  · rw [day_t0 (T := T'), o]; rfl
theorem m_years {l : Launch} {d as ar : Nat} {s n w : Int32} {C : Cy} {T : Tn} {h : Hp} (W : WC C) (H : MB h as ar C T) (V : WT C T) (hD9 : tD T ≤ 9999) : Qm l (d + 8) mX10_years [.ref 77, .int s, .int n, .int w] h (vYears C T s n w) := by
  have hS := H.1.1
  have hN1 := W.1.1
  refine run_lv [some (.ref 77), some (.int s), some (.int n), some (.int w), none, none] (go := ?_)
  unfold vYears
  refine go_aloadn dX10_years_0 rfl ?_
  refine go_iconst (v := 0) dX10_years_1 rfl ?_
  refine sg_putI dX10_years_2 fX10_102 rfl rfl (mo_L rfl) hS ?_
  have hF : Fz SM h (uI h 77 0 0) := Fz.rf.uI sm0
  have H := H.sm W hF
  have h0 : hI (uI h 77 0 0) 77 0 = 0 := hI_uI_eq
  generalize uI h 77 0 0 = h1 at *
  have hS := H.1.1
  refine go_aloadn dX10_years_5 rfl ?_
  refine go_iloadn dX10_years_6 rfl ?_
  refine go_iconst (v := 2) dX10_years_7 rfl ?_
  refine sg_mnd (M' := mX10_isWhat) ([.int w, .int 2]) dX10_years_8 lX10_365 vX10_isWhat (mo_L rfl) (by decide) rfl hS (q_isWhat hS h0).1 (q_isWhat hS h0).2 rfl (Nat.le_of_ble_eq_true rfl) (fun k8 => ?_) (fun k8 => ?_)
  · refine go_if_eq (tgt := 24) dX10_years_11 (by decide) (fun _ => ?_) (fun c => absurd rfl c)
    refine go_iconst (v := 0) dX10_years_24 rfl ?_
    refine go_ireturn dX10_years_25 rfl rfl (Nat.zero_le _) (Nat.zero_le _) ?_
    exact ⟨⟨0, rfl, fun q => absurd q (by decide)⟩, hI_uI_eq, hF.uI sm0⟩
  refine go_if_eq (tgt := 24) dX10_years_11 (by decide) (fun c11 => absurd c11 (by decide)) (fun c11 => ?_)
  refine go_aloadn dX10_years_14 rfl ?_
  refine go_iloadn dX10_years_15 rfl ?_
  refine go_iconst (v := 0) dX10_years_16 rfl ?_
  refine go_iconst (v := 2) dX10_years_17 rfl ?_
  refine sg_mnd (M' := mX10_isSoon) ([.int n, .int 0, .int (nI 2)]) dX10_years_18 lX10_399 vX10_isSoon (mo_L rfl) (by decide) rfl hS (q_isSoon hS h0 (by decide) (by decide)).1 (q_isSoon hS h0 (by decide) (by decide)).2 rfl (Nat.le_of_ble_eq_true rfl) (fun k18 => ?_) (fun k18 => ?_)
  · refine go_if_ne (tgt := 26) dX10_years_21 (by decide) (fun c => absurd rfl c) (fun _ => ?_)
    refine go_iconst (v := 0) dX10_years_24 rfl ?_
    refine go_ireturn dX10_years_25 rfl rfl (Nat.zero_le _) (Nat.zero_le _) ?_
    exact ⟨⟨0, rfl, fun q => absurd q (by decide)⟩, hI_uI_eq, hF.uI sm0⟩
  refine go_if_ne (tgt := 26) dX10_years_21 (by decide) (fun c21 => ?_) (fun c21 => absurd c21 (by decide))
  refine go_aloadn dX10_years_26 rfl ?_
  refine sg_rV0 (M' := mX10_tries) ([]) dX10_years_27 lX10_393 vX10_tries (mo_L rfl) (by decide) rfl hS (q_tries W H) rfl (Nat.le_of_ble_eq_true rfl) (Nat.zero_le _) (Nat.zero_le _) (fun g F => ?_)
  have hS := F.2.1.1.1
  refine go_aloadn dX10_years_30 rfl ?_
  refine go_iloadn dX10_years_31 rfl ?_
  refine sg_putI dX10_years_32 fX10_435 rfl rfl (mo_L rfl) hS ?_
  refine go_iconst (v := 0) dX10_years_35 rfl ?_
  refine go_ist4 dX10_years_36 rfl ?_
  refine go_iconst (v := 0) dX10_years_38 rfl ?_
  refine go_ist5 dX10_years_39 rfl ?_
  skip
  obtain ⟨m, -, hm, rfl⟩ := rg_nI (a := 0) (b := 100) rfl rfl (by decide) (by decide) k18
  rw [cl_nI (show m < 2 ^ 31 by omega)]
  refine go_cong (go_loopR (lvf := fun k => [some (.ref 77), some (.int s), some (.int (nI m)), some (.int w), some (.int (tC (yrT C T s k).2)), some (.int (nI k))]) m (fun k g => Fz SN h1 g ∧ ME g as ar C T (yrT C T s k).2 ∧ hI g 77 55 = (yrT C T s k).1) (fun k g hk hh ih => ?_) (fun g hh => ?_) 0 (uI g 77 55 s) (Nat.zero_le _) ⟨F.1.uI sn55, F.2.se W, hI_uI_eq⟩) rfl rfl
  · obtain ⟨F, H2, hs⟩ := hh
    have hS := H2.1.1.1
    have es : yrT C T s (k + 1) = ((evS C (yrT C T s k).1 (yrT C T s k).2).1, dayT C 0 (evS C (yrT C T s k).1 (yrT C T s k).2).2) := rfl
    rw [es] at ih
    have V2 := WT.yr (s := s) (k := k) W V
    have td := tD_yr (C := C) (T := T) (s := s) (k := k)
    have hh := q_happens (l := l) (d := d + 5) W H2
    rw [hs] at hh
    generalize yrT C T s k = st at *
    refine go_iload dX10_years_41 rfl ?_
    refine go_iloadn dX10_years_43 rfl ?_
    refine go_icmp_ge (tgt := 72) dX10_years_44 (by decide) (fun c44 => absurd c44 (nI_ge hk (by omega))) (fun c44 => ?_)
    refine go_aloadn dX10_years_47 rfl ?_
    refine sg_rV0 (M' := mX10_happens) ([]) dX10_years_48 lX10_442 vX10_happens (mo_L rfl) (by decide) rfl hS (hh) rfl (Nat.le_of_ble_eq_true rfl) (Nat.zero_le _) (Nat.zero_le _) (fun g1 F1 => ?_)
    have hS := F1.2.1.1.1.1
    refine go_aloadn dX10_years_51 rfl ?_
    refine go_bipush (v := 105) dX10_years_52 rfl ?_
    refine sg_rV0 (M' := mX10_dayGoes) ([.int (nI 105)]) dX10_years_54 lX10_343 vX10_dayGoes (mo_L rfl) (by decide) rfl hS (q_dayY W F1.2.1 V2.evs (by rw [tD_evs]; omega)) rfl (Nat.le_of_ble_eq_true rfl) (Nat.zero_le _) (Nat.zero_le _) (fun g2 F2 => ?_)
    have hS := F2.2.1.1.1.1
    refine go_iload dX10_years_57 rfl ?_
    refine go_aloadn dX10_years_59 rfl ?_
    refine sg_getI dX10_years_60 fX10_330 rfl (mo_L rfl) hS ?_
    refine go_iadd dX10_years_63 ?_
    rw [show tC st.2 = tC (evS C st.1 st.2).2 from tC_evs.symm, F2.2.2.1]
    refine go_ist4 dX10_years_64 rfl ?_
    refine go_iinc5 (c1 := 1) dX10_years_66 rfl rfl ?_
    refine go_goto (tgt := 41) dX10_years_69 (by decide) ?_
    exact go_cong (ih g2 ⟨(F.tr F1.1).tr F2.1, F2.2.1, by rw [F2.2.2.2]; exact F1.2.2⟩) (by simp [nI_1]) rfl
  · obtain ⟨F, H2, hs⟩ := hh
    have hS := H2.1.1.1
    refine go_iload dX10_years_41 rfl ?_
    refine go_iloadn dX10_years_43 rfl ?_
    refine go_icmp_ge (tgt := 72) dX10_years_44 (by decide) (fun c44 => ?_) (fun c44 => absurd (nI_le (Nat.le_refl _) (by omega)) c44)
    refine go_iloadn dX10_years_72 rfl ?_
    refine go_if_ne (tgt := 81) dX10_years_73 (by decide) (fun c73 => ?_) (fun c73 => ?_)
    · refine go_iloadn dX10_years_81 rfl ?_
      refine go_iconst (v := 1) dX10_years_82 rfl ?_
      refine go_icmp_ne (tgt := 95) dX10_years_83 (by decide) (fun c83 => ?_) (fun c83 => ?_)
      · refine go_aloadn dX10_years_95 rfl ?_
        refine go_bipush (v := 105) dX10_years_96 rfl ?_
        refine sg_cVi (M' := mX10_wornOnes) ([.int (nI 105)]) dX10_years_98 lX10_353 vX10_wornOnes (mo_L rfl) (by decide) rfl hS (q_wornOnes W H2.1.1 H2.2 (by decide)) rfl (Nat.le_of_ble_eq_true rfl) (Nat.zero_le _) (Nat.zero_le _) ?_
        refine sg_cSi (M' := mX10_bits) ([.int _]) dX10_years_101 lX10_312 sX10_bits hS (q_bits) rfl (Nat.le_of_ble_eq_true rfl) (Nat.zero_le _) (Nat.zero_le _) ?_
        refine go_ireturn dX10_years_104 rfl rfl (Nat.zero_le _) (Nat.zero_le _) ?_
        first | exact qn_ok (by rw [if_pos c73]) (F.t0.trans h0) (hF.tr F.sn) | exact qn_ok (by rw [if_neg c73, if_pos c83]) (F.t0.trans h0) (hF.tr F.sn) | exact qn_ok (by rw [if_neg c73, if_neg c83, woT, bi_bc hN1]) (F.t0.trans h0) (hF.tr F.sn)
      · refine go_aloadn dX10_years_86 rfl ?_
        refine go_bipush (v := 105) dX10_years_87 rfl ?_
        refine sg_cVi (M' := mX10_shameAll) ([.int (nI 105)]) dX10_years_89 lX10_359 vX10_shameAll (mo_L rfl) (by decide) rfl hS (q_shameAll W H2.1.1 H2.2 (by decide)) rfl (Nat.le_of_ble_eq_true rfl) (Nat.zero_le _) (Nat.zero_le _) ?_
        refine go_goto (tgt := 104) dX10_years_92 (by decide) ?_
        refine go_ireturn dX10_years_104 rfl rfl (Nat.zero_le _) (Nat.zero_le _) ?_
        first | exact qn_ok (by rw [if_pos c73]) (F.t0.trans h0) (hF.tr F.sn) | exact qn_ok (by rw [if_neg c73, if_pos c83]) (F.t0.trans h0) (hF.tr F.sn) | exact qn_ok (by rw [if_neg c73, if_neg c83, woT, bi_bc hN1]) (F.t0.trans h0) (hF.tr F.sn)
    · refine go_iload dX10_years_76 rfl ?_
      refine go_goto (tgt := 104) dX10_years_78 (by decide) ?_
      refine go_ireturn dX10_years_104 rfl rfl (Nat.zero_le _) (Nat.zero_le _) ?_
      first | exact qn_ok (by rw [if_pos c73]) (F.t0.trans h0) (hF.tr F.sn) | exact qn_ok (by rw [if_neg c73, if_pos c83]) (F.t0.trans h0) (hF.tr F.sn) | exact qn_ok (by rw [if_neg c73, if_neg c83, woT, bi_bc hN1]) (F.t0.trans h0) (hF.tr F.sn)
