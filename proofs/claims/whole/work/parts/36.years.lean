/-! Trials: years by a seed -/
def drF (s : Int32) : Int32 := s * 1103515245 + 12345
/-- a draw of n by the seed that is then -/
def drN (s : Int32) (n : Nat) : Nat := (usR s 16 &&& 32767).toNatClampNeg % n
theorem drN_lt {s : Int32} {n : Nat} (hn : 0 < n) : drN s n < n := Nat.mod_lt _ hn
theorem r_draw {l : Launch} {d n : Nat} {h : Hp} (hS : St h) (hn : 1 ≤ n) (hn2 : n ≤ 1000) : Ex l (d + 1) mX7_draw [.ref 55, .int (nI n)] h (some (.int (nI (drN (drF (hI h 55 1)) n)))) (uI h 55 1 (drF (hI h 55 1))) := by
  refine run_lv [some (.ref 55), some (.int (nI n))] (go := ?_)
  obtain ⟨j, hj, ej⟩ := pk_andE (usR (drF (hI h 55 1)) 16) (m := 32767) 15 (by decide)
  refine go_aloadn dX7_draw_0 rfl ?_
  refine go_aloadn dX7_draw_1 rfl ?_
  refine sg_getI dX7_draw_2 fX7_103 rfl (tr_L rfl) hS ?_
  refine go_ldc dX7_draw_5 kX7_118 ?_
  refine go_imul dX7_draw_7 ?_
  refine go_sipush (v := 12345) dX7_draw_8 rfl ?_
  refine go_iadd dX7_draw_11 ?_
  refine sg_putI dX7_draw_12 fX7_103 rfl rfl (tr_L rfl) hS ?_
  refine go_iloadn dX7_draw_15 rfl ?_
  refine go_iconst (v := 1) dX7_draw_16 rfl ?_
  refine go_icmp_ge (tgt := 24) dX7_draw_17 (by decide) (fun c17 => ?_) (fun c17 => ?_)
  · refine go_aloadn dX7_draw_24 rfl ?_
    refine sg_getI dX7_draw_25 fX7_103 rfl (tr_L rfl) hS ?_
    rw [hI_uI_eq]
    refine go_bipush (v := 16) dX7_draw_28 rfl ?_
    refine go_iushr dX7_draw_30 ?_
    refine go_sipush (v := 32767) dX7_draw_31 rfl ?_
    refine go_iand dX7_draw_34 ?_
    refine go_iloadn dX7_draw_35 rfl ?_
    refine go_irem dX7_draw_36 (nI_ne0 (by omega) (by omega)) ?_
    refine go_ireturn dX7_draw_37 rfl rfl (Nat.zero_le _) (Nat.zero_le _) ?_
    exact ⟨by rw [drN, ej, cl_nI (by omega), ← pk_rem (show j < 2 ^ 31 by omega) (by omega) (by omega), ← ej]; rfl, rfl⟩
  · exact absurd (nI_le (a := 1) hn (by omega)) c17
/-- an event: the seed and the town behind it -/
def hpT (C : Cy) (e : Nat) (s : Int32) (T : Tn) : Int32 × Tn :=
  if e = 0 then (drF (drF s), if tO T (drN (drF (drF s)) (cN C)) = nI (drN (drF s) (cP C)) ∨ tB T (drN (drF (drF s)) (cN C)) = nI (drN (drF s) (cP C)) then T else poT (nI (drN (drF s) (cP C))) (drN (drF (drF s)) (cN C)) T)
  else if e = 1 then (drF (drF s), (tD T, tC T, tO T, tB T, tS T, upd (tX T) (drN (drF s) (cN C)) (nI (drN (drF (drF s)) 10)), tH T, tV T, tW T))
  else if e = 2 then (drF s, (tD T, tC T, tO T, tB T, tS T, tX T, upd (tH T) (drN (drF s) (cP C)) 0, tV T, tW T))
  else (s, T)
theorem hp3 {C : Cy} {e : Nat} {s : Int32} {T : Tn} (h0 : ¬ e = 0) (h1 : ¬ e = 1) (h2 : ¬ e = 2) : hpT C e s T = (s, T) := by rw [hpT, if_neg h0, if_neg h1, if_neg h2]
def S5 (a : Nat) : Prop := 55 ≤ a ∧ a ≤ 67
abbrev F5 (g g' : Hp) : Prop := Fq S5 g g'
theorem F65 {g g' : Hp} (h : F6 g g') : F5 g g' := h.sub (fun a q => by unfold S6 at q; unfold S5; omega)
theorem F5c {g g' : Hp} (h : F5 g g') : Fc g g' := h.sub (fun a q => by unfold S5 at q; unfold Sc; omega)
theorem tv_seed {h : Hp} {c fs fr k : Nat} {v : Int32} {C : Cy} {T : Tn} (H : TV h 56 c fs fr C T) : TV (uI h 55 k v) 56 c fs fr C T := by
  have F : Fc h (uI h 55 k v) := Fq.rf.uI (by unfold Sc; omega)
  obtain ⟨⟨h1, ⟨k1, k2⟩, U, Wr, hD, hDl⟩, hC, ⟨e1, e2, e3, e4⟩⟩ := H
  have hc := h1.2.2.1
  have e : ∀ x, 56 ≤ x → ∀ j, hI (uI h 55 k v) x j = hI h x j := fun x hx j => hI_uI_ne (by omega)
  refine ⟨⟨h1.uI (by rcases hc with rfl | rfl <;> omega), ⟨fun p hp => by rw [F.I (sc_c hc (by omega))]; exact k1 p hp, fun i hi => by rw [e _ (by omega)]; exact k2 i hi⟩, U.fc hc F, fun t ht => by rw [e _ (by omega)]; exact Wr t ht, (e 56 (by omega) 1).trans hD, hDl⟩, hC.fc hc F, ⟨fun t ht => ?_, fun p hp => ?_, fun i hi => ?_, (e 56 (by omega) 2).trans e4⟩⟩
  · rw [e _ (by omega), e _ (by omega), e _ (by omega), e _ (by omega)]; exact e1 t ht
  · rw [e _ (by omega), e _ (by omega)]; exact e2 p hp
  · rw [e _ (by omega)]; exact e3 i hi
theorem tv_odd {h : Hp} {c fs fr t : Nat} {v : Int32} {C : Cy} {T : Tn} (H : TV h 56 c fs fr C T) : TV (uI h 60 t v) 56 c fs fr C (tD T, tC T, tO T, tB T, tS T, upd (tX T) t v, tH T, tV T, tW T) := by
  have F : Fc h (uI h 60 t v) := Fq.rf.uI (by unfold Sc; omega)
  obtain ⟨⟨h1, ⟨k1, k2⟩, U, Wr, hD, hDl⟩, hC, hE⟩ := H
  have hc := h1.2.2.1
  have e : ∀ x, x ≠ 60 → ∀ j, hI (uI h 60 t v) x j = hI h x j := fun x hx j => hI_uI_ne (by omega)
  exact ⟨⟨h1.uI (by rcases hc with rfl | rfl <;> omega), ⟨fun p hp => by rw [F.I (sc_c hc (by omega))]; exact k1 p hp, fun i hi => by rw [e _ (by omega)]; exact k2 i hi⟩, U.fc hc F, fun t ht => by rw [e _ (by omega)]; exact Wr t ht, (e 56 (by omega) 1).trans hD, hDl⟩, hC.fc hc F, te_X hE⟩
theorem tv_sh {h : Hp} {c fs fr t : Nat} {v : Int32} {C : Cy} {T : Tn} (H : TV h 56 c fs fr C T) : TV (uI h 58 t v) 56 c fs fr C (tD T, tC T, tO T, tB T, tS T, tX T, upd (tH T) t v, tV T, tW T) := by
  have F : Fc h (uI h 58 t v) := Fq.rf.uI (by unfold Sc; omega)
  obtain ⟨⟨h1, ⟨k1, k2⟩, U, Wr, hD, hDl⟩, hC, hE⟩ := H
  have hc := h1.2.2.1
  have e : ∀ x, x ≠ 58 → ∀ j, hI (uI h 58 t v) x j = hI h x j := fun x hx j => hI_uI_ne (by omega)
  exact ⟨⟨h1.uI (by rcases hc with rfl | rfl <;> omega), ⟨fun p hp => by rw [F.I (sc_c hc (by omega))]; exact k1 p hp, fun i hi => by rw [e _ (by omega)]; exact k2 i hi⟩, U.fc hc F, fun t ht => by rw [e _ (by omega)]; exact Wr t ht, (e 56 (by omega) 1).trans hD, hDl⟩, hC.fc hc F, te_H hE⟩
theorem tv_van {h : Hp} {c fs fr t : Nat} {v : Int32} {C : Cy} {T : Tn} (H : TV h 56 c fs fr C T) : TV (uI h 57 t v) 56 c fs fr C (tD T, tC T, tO T, tB T, tS T, tX T, tH T, upd (tV T) t v, tW T) := by
  have F : Fc h (uI h 57 t v) := Fq.rf.uI (by unfold Sc; omega)
  obtain ⟨⟨h1, ⟨k1, k2⟩, U, Wr, hD, hDl⟩, hC, hE⟩ := H
  have hc := h1.2.2.1
  have e : ∀ x, x ≠ 57 → ∀ j, hI (uI h 57 t v) x j = hI h x j := fun x hx j => hI_uI_ne (by omega)
  exact ⟨⟨h1.uI (by rcases hc with rfl | rfl <;> omega), ⟨fun p hp => by rw [F.I (sc_c hc (by omega))]; exact k1 p hp, fun i hi => by rw [e _ (by omega)]; exact k2 i hi⟩, U.fc hc F, fun t ht => by rw [e _ (by omega)]; exact Wr t ht, (e 56 (by omega) 1).trans hD, hDl⟩, hC.fc hc F, te_V hE⟩
theorem r_happen {l : Launch} {d c fs fr e : Nat} {C : Cy} {T : Tn} {h : Hp} (W : WC C) (H : TV h 56 c fs fr C T) (he : e < 5) (h1 : 1 ≤ cP C) (h2 : 1 ≤ cN C) : Ey l (d + 2) mX7_happen [.ref 55, .int (nI e)] h none (fun g => F5 h g ∧ TV g 56 c fs fr C (hpT C e (hI h 55 1) T).2 ∧ hI g 55 1 = (hpT C e (hI h 55 1) T).1) := by
  have hN := W.1.1
  have hP := W.1.2.1
  obtain ⟨hc, hbc, hS⟩ := H.hc
  have hth := H.1.1.2.2.2.2.1
  have hpe := H.1.1.2.2.2.2.2.2.1
  have S1 : St (uI h 55 1 (drF (hI h 55 1))) := hS
  have xt : ∀ (g : Hp) (v : Int32), hI g c 2 = nI (cN C) → hI (uI g 55 1 v) c 2 = nI (cN C) := fun g v q => by rw [hI_uI_ne (by rcases hc with rfl | rfl <;> omega)]; exact q
  generalize hs : hI h 55 1 = s at *
  have dP : drN (drF s) (cP C) < cP C := drN_lt (by omega)
  have dN : drN (drF s) (cN C) < cN C := drN_lt (by omega)
  have dM : drN (drF (drF s)) (cN C) < cN C := drN_lt (by omega)
  have r1 : ∀ n, 1 ≤ n → n ≤ 1000 → Ex l (d + 1) mX7_draw [.ref 55, .int (nI n)] h (some (.int (nI (drN (drF s) n)))) (uI h 55 1 (drF s)) := fun n a b => by have := r_draw (l := l) (d := d) hS a b; rw [hs] at this; exact this
  have r2 : ∀ n, 1 ≤ n → n ≤ 1000 → Ex l (d + 1) mX7_draw [.ref 55, .int (nI n)] (uI h 55 1 (drF s)) (some (.int (nI (drN (drF (drF s)) n)))) (uI (uI h 55 1 (drF s)) 55 1 (drF (drF s))) := fun n a b => by have := r_draw (l := l) (d := d) (h := uI h 55 1 (drF s)) hS a b; rw [hI_uI_eq] at this; exact this
  have H1 : TV (uI h 55 1 (drF s)) 56 c fs fr C T := tv_seed H
  have H2 : TV (uI (uI h 55 1 (drF s)) 55 1 (drF (drF s))) 56 c fs fr C T := tv_seed H1
  have G1 : F5 h (uI h 55 1 (drF s)) := Fq.rf.uI (by unfold S5; omega)
  have G2 : F5 h (uI (uI h 55 1 (drF s)) 55 1 (drF (drF s))) := G1.uI (by unfold S5; omega)
  refine run_lv [some (.ref 55), some (.int (nI e)), none, none] (go := ?_)
  refine go_iloadn dX7_happen_0 rfl ?_
  refine go_if_ne (tgt := 58) dX7_happen_1 (by decide) (fun c1 => ?_) (fun c1 => ?_)
  · refine go_iloadn dX7_happen_58 rfl ?_
    refine go_iconst (v := 1) dX7_happen_59 rfl ?_
    refine go_icmp_ne (tgt := 96) dX7_happen_60 (by decide) (fun c60 => ?_) (fun c60 => ?_)
    · refine go_iloadn dX7_happen_96 rfl ?_
      refine go_iconst (v := 2) dX7_happen_97 rfl ?_
      refine go_icmp_ne (tgt := 124) dX7_happen_98 (by decide) (fun c98 => ?_) (fun c98 => ?_)
      · refine go_return dX7_happen_124 rfl (Nat.zero_le _) (Nat.zero_le _) ?_
        first | (exact ⟨rfl, Fq.rf, by rw [hp3 (fun q => c1 (by rw [q]; rfl)) (fun q => c60 (by rw [q]; rfl)) (fun q => c98 (by rw [q]; rfl))]; exact ⟨H, hs⟩⟩) | (subst e2; exact ⟨rfl, G1.uI (by unfold S5; omega), by rw [cl_nI (by omega)]; exact tv_sh H1, by rw [hI_uI_ne (by omega)]; exact hI_uI_eq⟩) | (subst e1; exact ⟨rfl, G2.uI (by unfold S5; omega), by rw [cl_nI (by omega)]; exact tv_odd H2, by rw [hI_uI_ne (by omega)]; exact hI_uI_eq⟩) | (subst e00; by_cases nq : tO T (drN (drF (drF s)) (cN C)) = nI (drN (drF s) (cP C)) ∨ tB T (drN (drF (drF s)) (cN C)) = nI (drN (drF s) (cP C)); (· rw [if_pos nq] at c43; first | exact absurd rfl c43 | exact ⟨rfl, G2, by show TV _ 56 c fs fr C (if _ then _ else _); rw [if_pos nq]; exact H2, hI_uI_eq⟩); (rw [if_neg nq] at c43; first | exact absurd c43 (by decide) | exact ⟨rfl, (G2.uI (by unfold S5; omega)).uI (by unfold S5; omega), by show TV _ 56 c fs fr C (if _ then _ else _); rw [if_neg nq, cl_nI (by omega)]; exact H2.po (Or.inr ⟨_, dP, rfl⟩), by rw [hI_uI_ne (by omega), hI_uI_ne (by omega)]; exact hI_uI_eq⟩))
      · have e2 : e = 2 := (nI_eq (b := 2) (by omega) (by decide)).mp c98
        refine go_aloadn dX7_happen_101 rfl ?_
        refine sg_getR dX7_happen_102 fX7_12 rfl (tr_L rfl) hS (tr_r0 hS rfl) ?_
        refine sg_getR dX7_happen_105 fX7_77 rfl (tw_L (at56)) hS (tw_r4 hS (at56)) ?_
        refine go_aloadn dX7_happen_108 rfl ?_
        refine go_aloadn dX7_happen_109 rfl ?_
        refine sg_getR dX7_happen_110 fX7_12 rfl (tr_L rfl) hS (tr_r0 hS rfl) ?_
        refine sg_getR dX7_happen_113 fX7_46 rfl (tw_L (at56)) hS hbc ?_
        refine sg_getI dX7_happen_116 fX7_109 rfl (ct_L hc) hS ?_
        rw [hpe]
        refine sg_cVi (M' := mX7_draw) ([.int (nI (cP C))]) dX7_happen_119 lX7_106 vX7_draw (tr_L rfl) (by decide) rfl hS (r1 _ h1 (by omega)) rfl (Nat.le_of_ble_eq_true rfl) (Nat.zero_le _) (Nat.zero_le _) ?_
        refine go_iconst (v := 0) dX7_happen_122 rfl ?_
        refine sg_iast dX7_happen_123 (tw_4 (at56)) hS (vp_in_nI (by omega) (by decide)) ?_
        refine go_return dX7_happen_124 rfl (Nat.zero_le _) (Nat.zero_le _) ?_
        first | (exact ⟨rfl, Fq.rf, by rw [hp3 (fun q => c1 (by rw [q]; rfl)) (fun q => c60 (by rw [q]; rfl)) (fun q => c98 (by rw [q]; rfl))]; exact ⟨H, hs⟩⟩) | (subst e2; exact ⟨rfl, G1.uI (by unfold S5; omega), by rw [cl_nI (by omega)]; exact tv_sh H1, by rw [hI_uI_ne (by omega)]; exact hI_uI_eq⟩) | (subst e1; exact ⟨rfl, G2.uI (by unfold S5; omega), by rw [cl_nI (by omega)]; exact tv_odd H2, by rw [hI_uI_ne (by omega)]; exact hI_uI_eq⟩) | (subst e00; by_cases nq : tO T (drN (drF (drF s)) (cN C)) = nI (drN (drF s) (cP C)) ∨ tB T (drN (drF (drF s)) (cN C)) = nI (drN (drF s) (cP C)); (· rw [if_pos nq] at c43; first | exact absurd rfl c43 | exact ⟨rfl, G2, by show TV _ 56 c fs fr C (if _ then _ else _); rw [if_pos nq]; exact H2, hI_uI_eq⟩); (rw [if_neg nq] at c43; first | exact absurd c43 (by decide) | exact ⟨rfl, (G2.uI (by unfold S5; omega)).uI (by unfold S5; omega), by show TV _ 56 c fs fr C (if _ then _ else _); rw [if_neg nq, cl_nI (by omega)]; exact H2.po (Or.inr ⟨_, dP, rfl⟩), by rw [hI_uI_ne (by omega), hI_uI_ne (by omega)]; exact hI_uI_eq⟩))
    · have e1 : e = 1 := (nI_eq (b := 1) (by omega) (by decide)).mp c60
      refine go_aloadn dX7_happen_63 rfl ?_
      refine go_aloadn dX7_happen_64 rfl ?_
      refine sg_getR dX7_happen_65 fX7_12 rfl (tr_L rfl) hS (tr_r0 hS rfl) ?_
      refine sg_getR dX7_happen_68 fX7_46 rfl (tw_L (at56)) hS hbc ?_
      refine sg_getI dX7_happen_71 fX7_68 rfl (ct_L hc) hS ?_
      rw [hth]
      refine sg_cVi (M' := mX7_draw) ([.int (nI (cN C))]) dX7_happen_74 lX7_106 vX7_draw (tr_L rfl) (by decide) rfl hS (r1 _ h2 (by omega)) rfl (Nat.le_of_ble_eq_true rfl) (Nat.zero_le _) (Nat.zero_le _) ?_
      refine go_ist2 dX7_happen_77 rfl ?_
      refine go_aloadn dX7_happen_78 rfl ?_
      refine sg_getR dX7_happen_79 fX7_12 rfl (tr_L rfl) hS (tr_r0 hS rfl) ?_
      refine sg_getR dX7_happen_82 fX7_115 rfl (tw_L (at56)) hS (tw_r6 hS (at56)) ?_
      refine go_iloadn dX7_happen_85 rfl ?_
      refine go_aloadn dX7_happen_86 rfl ?_
      refine go_bipush (v := 10) dX7_happen_87 rfl ?_
      refine sg_cVi (M' := mX7_draw) ([.int (nI 10)]) dX7_happen_89 lX7_106 vX7_draw (tr_L rfl) (by decide) rfl hS (r2 _ (by omega) (by omega)) rfl (Nat.le_of_ble_eq_true rfl) (Nat.zero_le _) (Nat.zero_le _) ?_
      refine sg_iast dX7_happen_92 (tw_6 (at56)) hS (vp_in_nI (by omega) (by decide)) ?_
      refine go_goto (tgt := 124) dX7_happen_93 (by decide) ?_
      refine go_return dX7_happen_124 rfl (Nat.zero_le _) (Nat.zero_le _) ?_
      first | (exact ⟨rfl, Fq.rf, by rw [hp3 (fun q => c1 (by rw [q]; rfl)) (fun q => c60 (by rw [q]; rfl)) (fun q => c98 (by rw [q]; rfl))]; exact ⟨H, hs⟩⟩) | (subst e2; exact ⟨rfl, G1.uI (by unfold S5; omega), by rw [cl_nI (by omega)]; exact tv_sh H1, by rw [hI_uI_ne (by omega)]; exact hI_uI_eq⟩) | (subst e1; exact ⟨rfl, G2.uI (by unfold S5; omega), by rw [cl_nI (by omega)]; exact tv_odd H2, by rw [hI_uI_ne (by omega)]; exact hI_uI_eq⟩) | (subst e00; by_cases nq : tO T (drN (drF (drF s)) (cN C)) = nI (drN (drF s) (cP C)) ∨ tB T (drN (drF (drF s)) (cN C)) = nI (drN (drF s) (cP C)); (· rw [if_pos nq] at c43; first | exact absurd rfl c43 | exact ⟨rfl, G2, by show TV _ 56 c fs fr C (if _ then _ else _); rw [if_pos nq]; exact H2, hI_uI_eq⟩); (rw [if_neg nq] at c43; first | exact absurd c43 (by decide) | exact ⟨rfl, (G2.uI (by unfold S5; omega)).uI (by unfold S5; omega), by show TV _ 56 c fs fr C (if _ then _ else _); rw [if_neg nq, cl_nI (by omega)]; exact H2.po (Or.inr ⟨_, dP, rfl⟩), by rw [hI_uI_ne (by omega), hI_uI_ne (by omega)]; exact hI_uI_eq⟩))
  · have e00 : e = 0 := by rcases Nat.eq_zero_or_pos e with q | q; exact q; exact absurd c1 (nI_ne0 q (by omega))
    refine go_aloadn dX7_happen_4 rfl ?_
    refine go_aloadn dX7_happen_5 rfl ?_
    refine sg_getR dX7_happen_6 fX7_12 rfl (tr_L rfl) hS (tr_r0 hS rfl) ?_
    refine sg_getR dX7_happen_9 fX7_46 rfl (tw_L (at56)) hS hbc ?_
    refine sg_getI dX7_happen_12 fX7_109 rfl (ct_L hc) hS ?_
    rw [hpe]
    refine sg_cVi (M' := mX7_draw) ([.int (nI (cP C))]) dX7_happen_15 lX7_106 vX7_draw (tr_L rfl) (by decide) rfl hS (r1 _ h1 (by omega)) rfl (Nat.le_of_ble_eq_true rfl) (Nat.zero_le _) (Nat.zero_le _) ?_
    refine go_ist2 dX7_happen_18 rfl ?_
    refine go_aloadn dX7_happen_19 rfl ?_
    refine go_aloadn dX7_happen_20 rfl ?_
    refine sg_getR dX7_happen_21 fX7_12 rfl (tr_L rfl) hS (tr_r0 hS rfl) ?_
    refine sg_getR dX7_happen_24 fX7_46 rfl (tw_L (at56)) hS hbc ?_
    refine sg_getI dX7_happen_27 fX7_68 rfl (ct_L hc) hS ?_
    rw [xt _ _ hth]
    refine sg_cVi (M' := mX7_draw) ([.int (nI (cN C))]) dX7_happen_30 lX7_106 vX7_draw (tr_L rfl) (by decide) rfl hS (r2 _ h2 (by omega)) rfl (Nat.le_of_ble_eq_true rfl) (Nat.zero_le _) (Nat.zero_le _) ?_
    refine go_ist3 dX7_happen_33 rfl ?_
    refine go_aloadn dX7_happen_34 rfl ?_
    refine sg_getR dX7_happen_35 fX7_12 rfl (tr_L rfl) hS (tr_r0 hS rfl) ?_
    refine go_iloadn dX7_happen_38 rfl ?_
    refine go_iloadn dX7_happen_39 rfl ?_
    refine sg_cVi (M' := mX6_maySteal) ([.int (nI (drN (drF s) (cP C))), .int (nI (drN (drF (drF s)) (cN C)))]) dX7_happen_40 lX7_71 vX6_maySteal (tw_L (at56)) (by decide) rfl hS (r_maySteal H2.1.1 (vp_in_nI (by omega) (by decide))) rfl (Nat.le_of_ble_eq_true rfl) (Nat.zero_le _) (Nat.zero_le _) ?_
    rw [cl_nI (by omega), (H2.2.2.1 _ dM).1, (H2.2.2.1 _ dM).2.1]
    refine go_if_eq (tgt := 55) dX7_happen_43 (by decide) (fun c43 => ?_) (fun c43 => ?_)
    · refine go_goto (tgt := 124) dX7_happen_55 (by decide) ?_
      refine go_return dX7_happen_124 rfl (Nat.zero_le _) (Nat.zero_le _) ?_
      first | (exact ⟨rfl, Fq.rf, by rw [hp3 (fun q => c1 (by rw [q]; rfl)) (fun q => c60 (by rw [q]; rfl)) (fun q => c98 (by rw [q]; rfl))]; exact ⟨H, hs⟩⟩) | (subst e2; exact ⟨rfl, G1.uI (by unfold S5; omega), by rw [cl_nI (by omega)]; exact tv_sh H1, by rw [hI_uI_ne (by omega)]; exact hI_uI_eq⟩) | (subst e1; exact ⟨rfl, G2.uI (by unfold S5; omega), by rw [cl_nI (by omega)]; exact tv_odd H2, by rw [hI_uI_ne (by omega)]; exact hI_uI_eq⟩) | (subst e00; by_cases nq : tO T (drN (drF (drF s)) (cN C)) = nI (drN (drF s) (cP C)) ∨ tB T (drN (drF (drF s)) (cN C)) = nI (drN (drF s) (cP C)); (· rw [if_pos nq] at c43; first | exact absurd rfl c43 | exact ⟨rfl, G2, by show TV _ 56 c fs fr C (if _ then _ else _); rw [if_pos nq]; exact H2, hI_uI_eq⟩); (rw [if_neg nq] at c43; first | exact absurd c43 (by decide) | exact ⟨rfl, (G2.uI (by unfold S5; omega)).uI (by unfold S5; omega), by show TV _ 56 c fs fr C (if _ then _ else _); rw [if_neg nq, cl_nI (by omega)]; exact H2.po (Or.inr ⟨_, dP, rfl⟩), by rw [hI_uI_ne (by omega), hI_uI_ne (by omega)]; exact hI_uI_eq⟩))
    · refine go_aloadn dX7_happen_46 rfl ?_
      refine sg_getR dX7_happen_47 fX7_12 rfl (tr_L rfl) hS (tr_r0 hS rfl) ?_
      refine go_iloadn dX7_happen_50 rfl ?_
      refine go_iloadn dX7_happen_51 rfl ?_
      refine sg_cV0 (M' := mX6_putOn) ([.int (nI (drN (drF s) (cP C))), .int (nI (drN (drF (drF s)) (cN C)))]) dX7_happen_52 lX7_74 vX6_putOn (tw_L (at56)) (by decide) rfl hS (r_putOn hS at56 (vp_in_nI (by omega) (by decide))) rfl (Nat.le_of_ble_eq_true rfl) (Nat.zero_le _) (Nat.zero_le _) ?_
      refine go_goto (tgt := 124) dX7_happen_55 (by decide) ?_
      refine go_return dX7_happen_124 rfl (Nat.zero_le _) (Nat.zero_le _) ?_
      first | (exact ⟨rfl, Fq.rf, by rw [hp3 (fun q => c1 (by rw [q]; rfl)) (fun q => c60 (by rw [q]; rfl)) (fun q => c98 (by rw [q]; rfl))]; exact ⟨H, hs⟩⟩) | (subst e2; exact ⟨rfl, G1.uI (by unfold S5; omega), by rw [cl_nI (by omega)]; exact tv_sh H1, by rw [hI_uI_ne (by omega)]; exact hI_uI_eq⟩) | (subst e1; exact ⟨rfl, G2.uI (by unfold S5; omega), by rw [cl_nI (by omega)]; exact tv_odd H2, by rw [hI_uI_ne (by omega)]; exact hI_uI_eq⟩) | (subst e00; by_cases nq : tO T (drN (drF (drF s)) (cN C)) = nI (drN (drF s) (cP C)) ∨ tB T (drN (drF (drF s)) (cN C)) = nI (drN (drF s) (cP C)); (· rw [if_pos nq] at c43; first | exact absurd rfl c43 | exact ⟨rfl, G2, by show TV _ 56 c fs fr C (if _ then _ else _); rw [if_pos nq]; exact H2, hI_uI_eq⟩); (rw [if_neg nq] at c43; first | exact absurd c43 (by decide) | exact ⟨rfl, (G2.uI (by unfold S5; omega)).uI (by unfold S5; omega), by show TV _ 56 c fs fr C (if _ then _ else _); rw [if_neg nq, cl_nI (by omega)]; exact H2.po (Or.inr ⟨_, dP, rfl⟩), by rw [hI_uI_ne (by omega), hI_uI_ne (by omega)]; exact hI_uI_eq⟩))
/-- years: the seed and the town -/
def yr1 (C : Cy) (st : Int32 × Tn) : Int32 × Tn := (fun q => (q.1, dayT C 0 q.2)) (if 0 < cP C ∧ 0 < cN C then hpT C (drN (drF st.1) 5) (drF st.1) st.2 else (drF st.1, st.2))
def yrT (C : Cy) (T : Tn) (s : Int32) : Nat → Int32 × Tn := foF (fun _ st => yr1 C st) (s, t0 T)
theorem tD_hp {C : Cy} {e : Nat} {s : Int32} {T : Tn} : tD (hpT C e s T).2 = tD T := by
  unfold hpT
  split
  · dsimp only; split <;> rfl
  · split
    · rfl
    · split <;> rfl
theorem tD_y1 {C : Cy} {st : Int32 × Tn} : tD (yr1 C st).2 = tD st.2 + 1 := by
  unfold yr1
  show tD (dayT C 0 _) = _
  rw [tD_day]
  split
  · rw [tD_hp]
  · rfl
theorem tD_yr {C : Cy} {T : Tn} {s : Int32} {k : Nat} : tD (yrT C T s k).2 = tD T + k := by
  induction k with
  | zero => rfl
  | succ k ih => show tD (yr1 C (yrT C T s k)).2 = _; rw [tD_y1, ih]; rfl
theorem r_drawYears {l : Launch} {d c fs fr n : Nat} {C : Cy} {T : Tn} {h : Hp} {s : Int32} (W : WC C) (H : TV h 30 c fs fr C T) (hD : tD T + 101 < 2 ^ 30) (hn : n ≤ 100) : Ey l (d + 6) mX7_drawYears [.ref 55, .ref 30, .int s, .int (nI n)] h (some (.ref 56)) (fun g => F5 h g ∧ TV g 56 c fs fr C (yrT C T s n).2) := by
  have hN1 := W.1.1
  have hP := W.1.2.1
  obtain ⟨hc, -, hS⟩ := H.hc
  refine run_lv [some (.ref 55), some (.ref 30), some (.int s), some (.int (nI n)), none, none] (go := ?_)
  refine go_aloadn dX7_drawYears_0 rfl ?_
  refine go_aloadn dX7_drawYears_1 rfl ?_
  refine sg_rV0 (M' := mX7_start) ([.ref 30]) dX7_drawYears_2 lX7_29 vX7_start (tr_L rfl) (by decide) rfl hS (r_start H) rfl (Nat.le_of_ble_eq_true rfl) (Nat.zero_le _) (Nat.zero_le _) (fun g0 F0 => ?_)
  have hS := F0.2.hc.2.2
  refine go_aloadn dX7_drawYears_5 rfl ?_
  refine go_iloadn dX7_drawYears_6 rfl ?_
  refine sg_putI dX7_drawYears_7 fX7_103 rfl rfl (tr_L rfl) hS ?_
  refine go_iconst (v := 0) dX7_drawYears_10 rfl ?_
  refine go_ist4 dX7_drawYears_11 rfl ?_
  skip
  refine go_loopR (lvf := fun k => [some (.ref 55), some (.ref 30), some (.int s), some (.int (nI n)), some (.int (nI k)), none]) n (fun k g => F5 h g ∧ TV g 56 c fs fr C (yrT C T s k).2 ∧ hI g 55 1 = (yrT C T s k).1) (fun k g hk hh ih => ?_) (fun g hh => ?_) 0 (uI g0 55 1 s) (Nat.zero_le _) ⟨(F65 F0.1).uI (by unfold S5; omega), tv_seed F0.2, hI_uI_eq⟩
  · obtain ⟨F, H2, e1⟩ := hh
    have hS := H2.hc.2.2
    have tDk := tD_yr (C := C) (T := T) (s := s) (k := k)
    have es : yrT C T s (k + 1) = yr1 C (yrT C T s k) := rfl
    rw [es] at ih
    generalize yrT C T s k = st at *
    obtain ⟨s1, T1⟩ := st
    dsimp only at e1 H2 tDk
    have r1 : Ex l (d + 5) mX7_draw [.ref 55, .int 5] g (some (.int (nI (drN (drF s1) 5)))) (uI g 55 1 (drF s1)) := by have := r_draw (l := l) (d := d + 4) (n := 5) hS (by omega) (by omega); rw [e1] at this; exact this
    have H3 : TV (uI g 55 1 (drF s1)) 56 c fs fr C T1 := tv_seed H2
    obtain ⟨-, hbc, hS3⟩ := H3.hc
    have hth := H3.1.1.2.2.2.2.1
    have hpe := H3.1.1.2.2.2.2.2.2.1
    have fin : ∀ g1 (q : Int32 × Tn), F5 g g1 → TV g1 56 c fs fr C q.2 → hI g1 55 1 = q.1 → tD q.2 = tD T1 → (if 0 < cP C ∧ 0 < cN C then hpT C (drN (drF s1) 5) (drF s1) T1 else (drF s1, T1)) = q → Go l (rmOf (d + 6) (0, 0)) mX7_drawYears (hN h) (Zm (0, 0) (fun v h1 => v = some (.ref 56) ∧ F5 h h1 ∧ TV h1 56 c fs fr C (yrT C T s n).2) noX) 58 [some (.ref 55), some (.ref 30), some (.int s), some (.int (nI n)), some (.int (nI k)), some (.int (nI (drN (drF s1) 5)))] [] g1 0 0 := by
      intro g1 q G1 H4 e4 td eq
      have hS := H4.hc.2.2
      refine go_aloadn dX7_drawYears_58 rfl ?_
      refine sg_getR dX7_drawYears_59 fX7_12 rfl (tr_L rfl) hS (tr_r0 hS rfl) ?_
      refine go_iconst (v := 0) dX7_drawYears_62 rfl ?_
      refine sg_rV0 (M' := mX6_passDay) ([.int 0]) dX7_drawYears_63 lX7_36 vX6_passDay (tw_L (at56)) (by decide) rfl hS (r_day56 W H4 (by omega)) rfl (Nat.le_of_ble_eq_true rfl) (Nat.zero_le _) (Nat.zero_le _) (fun g2 F2 => ?_)
      refine go_iinc4 (c1 := 1) dX7_drawYears_66 rfl rfl ?_
      refine go_goto (tgt := 13) dX7_drawYears_69 (by decide) ?_
      exact go_back (ih g2 ⟨(F.tr G1).tr (F65 F2.1), by unfold yr1; dsimp only; rw [eq]; exact F2.2, by rw [F2.1.2.2.2 55 1 (by unfold S6; omega), e4]; unfold yr1; dsimp only; rw [eq]⟩) (by simp [lsub, nI_1]) rfl
    refine go_iload dX7_drawYears_13 rfl ?_
    refine go_iloadn dX7_drawYears_15 rfl ?_
    refine go_icmp_ge (tgt := 72) dX7_drawYears_16 (by decide) (fun c16 => ?_) (fun c16 => ?_)
    · exact absurd c16 (nI_ge hk (by omega))
    · refine go_aloadn dX7_drawYears_19 rfl ?_
      refine go_iconst (v := 5) dX7_drawYears_20 rfl ?_
      refine sg_cVi (M' := mX7_draw) ([.int 5]) dX7_drawYears_21 lX7_106 vX7_draw (tr_L rfl) (by decide) rfl hS (r1) rfl (Nat.le_of_ble_eq_true rfl) (Nat.zero_le _) (Nat.zero_le _) ?_
      refine go_ist5 dX7_drawYears_24 rfl ?_
      refine go_aloadn dX7_drawYears_26 rfl ?_
      refine sg_getR dX7_drawYears_27 fX7_12 rfl (tr_L rfl) hS (tr_r0 hS rfl) ?_
      refine sg_getR dX7_drawYears_30 fX7_46 rfl (tw_L (at56)) hS hbc ?_
      refine sg_getI dX7_drawYears_33 fX7_109 rfl (ct_L hc) hS ?_
      rw [hpe]
      refine go_if_le (tgt := 58) dX7_drawYears_36 (by decide) (fun c36 => ?_) (fun c36 => ?_)
      · exact fin _ (drF s1, T1) (Fq.rf.uI (by unfold S5; omega)) H3 hI_uI_eq rfl (if_neg (fun q => nI_nle q.1 (by omega) c36))
      · refine go_aloadn dX7_drawYears_39 rfl ?_
        refine sg_getR dX7_drawYears_40 fX7_12 rfl (tr_L rfl) hS (tr_r0 hS rfl) ?_
        refine sg_getR dX7_drawYears_43 fX7_46 rfl (tw_L (at56)) hS hbc ?_
        refine sg_getI dX7_drawYears_46 fX7_68 rfl (ct_L hc) hS ?_
        rw [hth]
        refine go_if_le (tgt := 58) dX7_drawYears_49 (by decide) (fun c49 => ?_) (fun c49 => ?_)
        · exact fin _ (drF s1, T1) (Fq.rf.uI (by unfold S5; omega)) H3 hI_uI_eq rfl (if_neg (fun q => nI_nle q.2 (by omega) c49))
        · have p1 : 0 < cP C := by rcases Nat.eq_zero_or_pos (cP C) with q | q; (· rw [q] at c36; exact absurd (by decide) c36); exact q
          have p2 : 0 < cN C := by rcases Nat.eq_zero_or_pos (cN C) with q | q; (· rw [q] at c49; exact absurd (by decide) c49); exact q
          have r2 := r_happen (l := l) (d := d + 3) W H3 (drN_lt (s := drF s1) (n := 5) (by omega)) p1 p2
          rw [hI_uI_eq] at r2
          refine go_aloadn dX7_drawYears_52 rfl ?_
          refine go_iload dX7_drawYears_53 rfl ?_
          refine sg_rV0 (M' := mX7_happen) ([.int (nI (drN (drF s1) 5))]) dX7_drawYears_55 lX7_112 vX7_happen (tr_L rfl) (by decide) rfl hS (r2) rfl (Nat.le_of_ble_eq_true rfl) (Nat.zero_le _) (Nat.zero_le _) (fun g3 F3 => ?_)
          exact fin g3 _ ((Fq.rf.uI (by unfold S5; omega)).tr F3.1) F3.2.1 F3.2.2 tD_hp (if_pos ⟨p1, p2⟩)
  · obtain ⟨F, H2, -⟩ := hh
    have hS := H2.hc.2.2
    refine go_iload dX7_drawYears_13 rfl ?_
    refine go_iloadn dX7_drawYears_15 rfl ?_
    refine go_icmp_ge (tgt := 72) dX7_drawYears_16 (by decide) (fun c16 => ?_) (fun c16 => ?_)
    · refine go_aloadn dX7_drawYears_72 rfl ?_
      refine sg_getR dX7_drawYears_73 fX7_12 rfl (tr_L rfl) hS (tr_r0 hS rfl) ?_
      refine go_areturn dX7_drawYears_76 rfl (Or.inl ⟨_, rfl⟩) (Nat.zero_le _) (Nat.zero_le _) ?_
      exact ⟨rfl, F, H2⟩
    · exact absurd (nI_le (Nat.le_refl _) (by omega)) c16
