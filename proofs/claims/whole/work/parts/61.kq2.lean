/-! the class's questions: where to stand, what to steal, ties -/
def vToStand (C : Cy) (T : Tn) (x w : Int32) : An := nd (okX (cN C) x) 1 (nd (0 ≤ w ∧ w ≤ 1) 1 (0, if tB T x.toNatClampNeg = -1 then -1 else if w = 0 then (bpT C T x.toNatClampNeg (cL C)).1 else (bpT C T x.toNatClampNeg (cL C)).2))
theorem k_toStand {l : Launch} {d c fs fr : Nat} {z x w : Int32} {C : Cy} {T : Tn} {h : Hp} (hl : l.stackTraces = false) (W : WC C) (K : KB h c fs fr z C T) (hD9 : tD T ≤ 9999) : Qc l (d + 8) mX9_toStand [.ref 0, .int x, .int w] h (vToStand C T x w) nNSE nIAE := by
  obtain ⟨hbc, H, hv⟩ := K
  obtain ⟨hc, -, hS⟩ := H.hc
  have hth := H.1.1.2.2.2.2.1
  have hN1 := W.1.1
  have hD9' : tD (sX z T) ≤ 9999 := hD9
  refine run_lv [some (.ref 0), some (.int x), some (.int w)] (go := ?_)
  unfold vToStand
  refine go_aloadn dX9_toStand_0 rfl ?_
  refine go_iloadn dX9_toStand_1 rfl ?_
  refine sg_ndV (M' := mX9_needThing) ([.int x]) dX9_toStand_2 lX9_196 vX9_needThing (wo_L rfl) (by decide) rfl hS (r_needThing hl hS hc hbc hth).1 (r_needThing hl hS hc hbc hth).2 (Or.inl ⟨rfl, rfl⟩) Fq.rf (by decide) rfl rfl (Nat.le_of_ble_eq_true rfl) (fun k2 => ?_)
  refine go_iloadn dX9_toStand_5 rfl ?_
  refine go_iconst (v := 1) dX9_toStand_6 rfl ?_
  refine sg_ndS (M' := mX9_needWhat) ([.int w, .int 1]) dX9_toStand_7 lX9_131 sX9_needWhat hS (r_needWhat hl hS).1 (r_needWhat hl hS).2 (Or.inl ⟨rfl, rfl⟩) Fq.rf (by decide) rfl rfl (Nat.le_of_ble_eq_true rfl) (fun k7 => ?_)
  obtain ⟨p, hp, rfl⟩ := ok_nI (by omega) k2
  rw [cl_nI (show p < 2 ^ 31 by omega)]
  refine go_aloadn dX9_toStand_10 rfl ?_
  refine sg_getR dX9_toStand_11 fX9_71 rfl (wo_L rfl) hS (wo_r14 hS rfl) ?_
  refine go_aloadn dX9_toStand_14 rfl ?_
  refine sg_getR dX9_toStand_15 fX9_41 rfl (wo_L rfl) hS (wo_r7 hS rfl) ?_
  refine go_iloadn dX9_toStand_18 rfl ?_
  refine go_iloadn dX9_toStand_19 rfl ?_
  refine go_if_ne (tgt := 27) dX9_toStand_20 (by decide) (fun c20 => ?_) (fun c20 => ?_)
  · refine go_iconst (v := 0) dX9_toStand_27 rfl ?_
    refine sg_rVi (M' := mX7_bestPlace) ([.ref 30, .int (nI p), .int _]) dX9_toStand_28 lX9_271 vX7_bestPlace (tr_L (rfl)) (by decide) rfl hS (r_bestPlace W H (by omega) hp) rfl (Nat.le_of_ble_eq_true rfl) (Nat.zero_le _) (Nat.zero_le _) (fun g F => ?_)
    refine go_ireturn dX9_toStand_31 rfl rfl (Nat.zero_le _) (Nat.zero_le _) ?_
    first | exact ⟨⟨rfl, by rw [if_pos c20]; rfl⟩, F6c F⟩ | exact ⟨⟨rfl, by rw [if_neg c20]; rfl⟩, F6c F⟩
  · refine go_iconst (v := 1) dX9_toStand_23 rfl ?_
    refine go_goto (tgt := 28) dX9_toStand_24 (by decide) ?_
    refine sg_rVi (M' := mX7_bestPlace) ([.ref 30, .int (nI p), .int _]) dX9_toStand_28 lX9_271 vX7_bestPlace (tr_L (rfl)) (by decide) rfl hS (r_bestPlace W H (by omega) hp) rfl (Nat.le_of_ble_eq_true rfl) (Nat.zero_le _) (Nat.zero_le _) (fun g F => ?_)
    refine go_ireturn dX9_toStand_31 rfl rfl (Nat.zero_le _) (Nat.zero_le _) ?_
    first | exact ⟨⟨rfl, by rw [if_pos c20]; rfl⟩, F6c F⟩ | exact ⟨⟨rfl, by rw [if_neg c20]; rfl⟩, F6c F⟩
def vToSteal (C : Cy) (T : Tn) (x w : Int32) : An := nd (okX (cP C) x) 1 (nd (0 ≤ w ∧ w ≤ 1) 1 (0, if w = 0 then (btT C T x (cN C)).1 else (btT C T x (cN C)).2))
theorem k_toSteal {l : Launch} {d c fs fr : Nat} {z x w : Int32} {C : Cy} {T : Tn} {h : Hp} (hl : l.stackTraces = false) (W : WC C) (K : KB h c fs fr z C T) (hD9 : tD T ≤ 9999) : Qc l (d + 8) mX9_toSteal [.ref 0, .int x, .int w] h (vToSteal C T x w) nNSE nIAE := by
  obtain ⟨hbc, H, hv⟩ := K
  obtain ⟨hc, -, hS⟩ := H.hc
  have hpe := H.1.1.2.2.2.2.2.2.1
  have hP := W.1.2.1
  have hD9' : tD (sX z T) ≤ 9999 := hD9
  refine run_lv [some (.ref 0), some (.int x), some (.int w)] (go := ?_)
  unfold vToSteal
  refine go_aloadn dX9_toSteal_0 rfl ?_
  refine go_iloadn dX9_toSteal_1 rfl ?_
  refine sg_ndV (M' := mX9_needPerson) ([.int x]) dX9_toSteal_2 lX9_165 vX9_needPerson (wo_L rfl) (by decide) rfl hS (r_needPerson hl hS hc hbc hpe).1 (r_needPerson hl hS hc hbc hpe).2 (Or.inl ⟨rfl, rfl⟩) Fq.rf (by decide) rfl rfl (Nat.le_of_ble_eq_true rfl) (fun k2 => ?_)
  refine go_iloadn dX9_toSteal_5 rfl ?_
  refine go_iconst (v := 1) dX9_toSteal_6 rfl ?_
  refine sg_ndS (M' := mX9_needWhat) ([.int w, .int 1]) dX9_toSteal_7 lX9_131 sX9_needWhat hS (r_needWhat hl hS).1 (r_needWhat hl hS).2 (Or.inl ⟨rfl, rfl⟩) Fq.rf (by decide) rfl rfl (Nat.le_of_ble_eq_true rfl) (fun k7 => ?_)
  obtain ⟨p, hp, rfl⟩ := ok_nI (by omega) k2
  refine go_aloadn dX9_toSteal_10 rfl ?_
  refine sg_getR dX9_toSteal_11 fX9_71 rfl (wo_L rfl) hS (wo_r14 hS rfl) ?_
  refine go_aloadn dX9_toSteal_14 rfl ?_
  refine sg_getR dX9_toSteal_15 fX9_41 rfl (wo_L rfl) hS (wo_r7 hS rfl) ?_
  refine go_iloadn dX9_toSteal_18 rfl ?_
  refine go_iloadn dX9_toSteal_19 rfl ?_
  refine go_if_ne (tgt := 27) dX9_toSteal_20 (by decide) (fun c20 => ?_) (fun c20 => ?_)
  · refine go_iconst (v := 0) dX9_toSteal_27 rfl ?_
    refine sg_rVi (M' := mX7_bestThing) ([.ref 30, .int (nI p), .int _]) dX9_toSteal_28 lX9_275 vX7_bestThing (tr_L (rfl)) (by decide) rfl hS (r_bestThing W H (by omega) hp) rfl (Nat.le_of_ble_eq_true rfl) (Nat.zero_le _) (Nat.zero_le _) (fun g F => ?_)
    refine go_ireturn dX9_toSteal_31 rfl rfl (Nat.zero_le _) (Nat.zero_le _) ?_
    first | exact ⟨⟨rfl, by rw [if_pos c20]; rfl⟩, F6c F⟩ | exact ⟨⟨rfl, by rw [if_neg c20]; rfl⟩, F6c F⟩
  · refine go_iconst (v := 1) dX9_toSteal_23 rfl ?_
    refine go_goto (tgt := 28) dX9_toSteal_24 (by decide) ?_
    refine sg_rVi (M' := mX7_bestThing) ([.ref 30, .int (nI p), .int _]) dX9_toSteal_28 lX9_275 vX7_bestThing (tr_L (rfl)) (by decide) rfl hS (r_bestThing W H (by omega) hp) rfl (Nat.le_of_ble_eq_true rfl) (Nat.zero_le _) (Nat.zero_le _) (fun g F => ?_)
    refine go_ireturn dX9_toSteal_31 rfl rfl (Nat.zero_le _) (Nat.zero_le _) ?_
    first | exact ⟨⟨rfl, by rw [if_pos c20]; rfl⟩, F6c F⟩ | exact ⟨⟨rfl, by rw [if_neg c20]; rfl⟩, F6c F⟩
def vWatch (C : Cy) (T : Tn) (n : Int32) : An := nd (1 ≤ n ∧ n ≤ 100) 1 (0, fpT C T n.toNatClampNeg (2 ^ cL C))
theorem F8c {g g' : Hp} (h : F8 g g') : Fc g g' := h.sub (fun _ => s8c)
theorem k_watch {l : Launch} {d c fs fr : Nat} {z n : Int32} {C : Cy} {T : Tn} {h : Hp} (hl : l.stackTraces = false) (W : WC C) (K : KB h c fs fr z C T) : Qc l (d + 7) mX9_watch [.ref 0, .int n] h (vWatch C T n) nIAE nIAE := by
  obtain ⟨hbc, H, hv⟩ := K
  obtain ⟨hc, -, hS⟩ := H.hc
  refine run_lv [some (.ref 0), some (.int n)] (go := ?_)
  unfold vWatch
  refine go_iloadn dX9_watch_0 rfl ?_
  refine go_iconst (v := 1) dX9_watch_1 rfl ?_
  refine go_bipush (v := 100) dX9_watch_2 rfl ?_
  refine sg_ndS (M' := mX9_needWithin) ([.int n, .int 1, .int 100]) dX9_watch_4 lX9_244 sX9_needWithin hS (r_needWithin hl hS).1 (r_needWithin hl hS).2 (Or.inl ⟨rfl, rfl⟩) Fq.rf (by decide) rfl rfl (Nat.le_of_ble_eq_true rfl) (fun k4 => ?_)
  obtain ⟨j, -, hj, rfl⟩ := rg_nI (a := 1) (b := 100) rfl rfl (by decide) (by decide) k4
  rw [cl_nI (show j < 2 ^ 31 by omega)]
  refine go_aloadn dX9_watch_7 rfl ?_
  refine sg_getR dX9_watch_8 fX9_85 rfl (wo_L rfl) hS (wo_r16 hS rfl) ?_
  refine go_aloadn dX9_watch_11 rfl ?_
  refine sg_getR dX9_watch_12 fX9_41 rfl (wo_L rfl) hS (wo_r7 hS rfl) ?_
  refine go_iloadn dX9_watch_15 rfl ?_
  refine sg_rVi (M' := mX5_fewestPlaces) ([.ref 30, .int (nI j)]) dX9_watch_16 lX9_278 vX5_fewestPlaces (ti_L (rfl)) (by decide) rfl hS (r_fewestPlaces W H hj) rfl (Nat.le_of_ble_eq_true rfl) (Nat.zero_le _) (Nat.zero_le _) (fun g F => ?_)
  refine go_ireturn dX9_watch_19 rfl rfl (Nat.zero_le _) (Nat.zero_le _) ?_
  exact ⟨⟨rfl, rfl⟩, F8c F⟩
theorem lsL_sX {C : Cy} {T : Tn} {z : Int32} : ∀ (W : List Nat) (k : Nat), lsL C (sX z T) W k = lsL C T W k
  | [], _ => rfl
  | t :: W, k => by
    rw [lsL_c, lsL_c]
    refine foF_cong (fun p hp a => ?_)
    rw [lsL_sX W]; rfl
theorem foO_sX {C : Cy} {T : Tn} {z : Int32} {t : Nat} {W : List Nat} {k : Nat} : foO C (sX z T) t W k = foO C T t W k := fs_cong (fun p hp => by rw [lsL_sX, lsL_sX]; exact Iff.rfl)
theorem gtT_sX {C : Cy} {T : Tn} {z x : Int32} : ∀ (W : List Nat) (k : Nat), gtT C (sX z T) x W k = gtT C T x W k
  | [], _ => rfl
  | t :: W, k => by
    simp only [gtT, foO_sX]
    cases foO C T t W k with
    | none => rfl
    | some p => simp only [gtT_sX W]
theorem leT_sX {C : Cy} {T : Tn} {z x : Int32} : leT C (sX z T) x = leT C T x := by
  unfold leT
  have e : wlN (sX z T) (cN C) = wlN T (cN C) := rfl
  rw [e, lsL_sX, gtT_sX]
def vLeast (C : Cy) (T : Tn) (x : Int32) : An := nd (x = -1 ∨ okX (cN C) x) 1 (0, leT C T x)
theorem k_least {l : Launch} {d c fs fr : Nat} {z x : Int32} {C : Cy} {T : Tn} {h : Hp} (hl : l.stackTraces = false) (W : WC C) (K : KB h c fs fr z C T) (V : WT C T) : Qc l (d + 7) mX9_least [.ref 0, .int x] h (vLeast C T x) nNSE nIAE := by
  obtain ⟨hbc, H, hv⟩ := K
  obtain ⟨hc, -, hS⟩ := H.hc
  have hth := H.1.1.2.2.2.2.1
  refine run_lv [some (.ref 0), some (.int x)] (go := ?_)
  unfold vLeast
  by_cases q : x = -1
  · rw [show nd (x = -1 ∨ okX (cN C) x) 1 (0, leT C T x) = (0, leT C T x) from if_pos (Or.inl q)]
    refine go_iloadn dX9_least_0 rfl ?_
    refine go_iconst (v := -1) dX9_least_1 rfl ?_
    refine go_icmp_eq (tgt := 10) dX9_least_2 (by decide) (fun c2 => ?_) (fun c2 => absurd q c2)
    refine go_aloadn dX9_least_10 rfl ?_
    refine sg_getR dX9_least_11 fX9_85 rfl (wo_L rfl) hS (wo_r16 hS rfl) ?_
    refine go_aloadn dX9_least_14 rfl ?_
    refine sg_getR dX9_least_15 fX9_41 rfl (wo_L rfl) hS (wo_r7 hS rfl) ?_
    refine go_iloadn dX9_least_18 rfl ?_
    refine sg_rVi (M' := mX5_leastShame) ([.ref 30, .int x]) dX9_least_19 lX9_282 vX5_leastShame (ti_L (rfl)) (by decide) rfl hS (r_leastShame W H V.o) rfl (Nat.le_of_ble_eq_true rfl) (Nat.zero_le _) (Nat.zero_le _) (fun g F => ?_)
    refine go_ireturn dX9_least_22 rfl rfl (Nat.zero_le _) (Nat.zero_le _) ?_
    exact ⟨⟨rfl, congrArg (fun z => some (Value.int z)) leT_sX⟩, F8c F⟩
  · have e : nd (x = -1 ∨ okX (cN C) x) 1 (0, leT C T x) = nd (okX (cN C) x) 1 (0, leT C T x) := by
      unfold nd
      by_cases y : okX (cN C) x
      · rw [if_pos (Or.inr y), if_pos y]
      · rw [if_neg (fun w => w.elim q y), if_neg y]
    rw [e]
    refine go_iloadn dX9_least_0 rfl ?_
    refine go_iconst (v := -1) dX9_least_1 rfl ?_
    refine go_icmp_eq (tgt := 10) dX9_least_2 (by decide) (fun c2 => absurd c2 q) (fun c2 => ?_)
    refine go_aloadn dX9_least_5 rfl ?_
    refine go_iloadn dX9_least_6 rfl ?_
    refine sg_ndV (M' := mX9_needThing) ([.int x]) dX9_least_7 lX9_196 vX9_needThing (wo_L rfl) (by decide) rfl hS (r_needThing hl hS hc hbc hth).1 (r_needThing hl hS hc hbc hth).2 (Or.inl ⟨rfl, rfl⟩) Fq.rf (by decide) rfl rfl (Nat.le_of_ble_eq_true rfl) (fun k7 => ?_)
    refine go_aloadn dX9_least_10 rfl ?_
    refine sg_getR dX9_least_11 fX9_85 rfl (wo_L rfl) hS (wo_r16 hS rfl) ?_
    refine go_aloadn dX9_least_14 rfl ?_
    refine sg_getR dX9_least_15 fX9_41 rfl (wo_L rfl) hS (wo_r7 hS rfl) ?_
    refine go_iloadn dX9_least_18 rfl ?_
    refine sg_rVi (M' := mX5_leastShame) ([.ref 30, .int x]) dX9_least_19 lX9_282 vX5_leastShame (ti_L (rfl)) (by decide) rfl hS (r_leastShame W H V.o) rfl (Nat.le_of_ble_eq_true rfl) (Nat.zero_le _) (Nat.zero_le _) (fun g F => ?_)
    refine go_ireturn dX9_least_22 rfl rfl (Nat.zero_le _) (Nat.zero_le _) ?_
    exact ⟨⟨rfl, congrArg (fun z => some (Value.int z)) leT_sX⟩, F8c F⟩
def vWhose (C : Cy) (T : Tn) (x : Int32) : An := nd (okX (cP C) x) 1 (0, ciT C T x.toNatClampNeg (cP C))
theorem k_whose {l : Launch} {d c fs fr : Nat} {z x : Int32} {C : Cy} {T : Tn} {h : Hp} (hl : l.stackTraces = false) (W : WC C) (K : KB h c fs fr z C T) : Qc l (d + 7) mX9_whose [.ref 0, .int x] h (vWhose C T x) nNSE nIAE := by
  obtain ⟨hbc, H, hv⟩ := K
  obtain ⟨hc, -, hS⟩ := H.hc
  have hpe := H.1.1.2.2.2.2.2.2.1
  have hP := W.1.2.1
  refine run_lv [some (.ref 0), some (.int x)] (go := ?_)
  unfold vWhose
  refine go_aloadn dX9_whose_0 rfl ?_
  refine go_iloadn dX9_whose_1 rfl ?_
  refine sg_ndV (M' := mX9_needPerson) ([.int x]) dX9_whose_2 lX9_165 vX9_needPerson (wo_L rfl) (by decide) rfl hS (r_needPerson hl hS hc hbc hpe).1 (r_needPerson hl hS hc hbc hpe).2 (Or.inl ⟨rfl, rfl⟩) Fq.rf (by decide) rfl rfl (Nat.le_of_ble_eq_true rfl) (fun k2 => ?_)
  obtain ⟨p, hp, rfl⟩ := ok_nI (by omega) k2
  rw [cl_nI (show p < 2 ^ 31 by omega)]
  refine go_aloadn dX9_whose_5 rfl ?_
  refine sg_getR dX9_whose_6 fX9_85 rfl (wo_L rfl) hS (wo_r16 hS rfl) ?_
  refine go_aloadn dX9_whose_9 rfl ?_
  refine sg_getR dX9_whose_10 fX9_41 rfl (wo_L rfl) hS (wo_r7 hS rfl) ?_
  refine go_iloadn dX9_whose_13 rfl ?_
  refine sg_rVi (M' := mX5_cameTo) ([.ref 30, .int (nI p)]) dX9_whose_14 lX9_285 vX5_cameTo (ti_L (rfl)) (by decide) rfl hS (r_cameTo W H hp) rfl (Nat.le_of_ble_eq_true rfl) (Nat.zero_le _) (Nat.zero_le _) (fun g F => ?_)
  refine go_ireturn dX9_whose_17 rfl rfl (Nat.zero_le _) (Nat.zero_le _) ?_
  exact ⟨⟨rfl, rfl⟩, F8c F⟩
/-- those found, by 10 of who and vanity -/
def gsB (C : Cy) (Q : Nt) (T : Tn) (k : Nat) : Bool := !decide (tV T (k / 10) = nI (k % 10)) && okC C Q T (k / 10) (k % 10)
def glL (C : Cy) (Q : Nt) (T : Tn) (n : Nat) : List Nat := (List.range n).filter (gsB C Q T)
theorem glL_s {C : Cy} {Q : Nt} {T : Tn} {n : Nat} : glL C Q T (n + 1) = if gsB C Q T n = true then glL C Q T n ++ [n] else glL C Q T n := by
  unfold glL
  rw [List.range_succ, List.filter_append]
  cases q : gsB C Q T n <;> simp [q]
theorem glL_lt {C : Cy} {Q : Nt} {T : Tn} {n t : Nat} (h : t ∈ glL C Q T n) : t < n := List.mem_range.mp (List.mem_filter.mp h).1
theorem fn_gl {C : Cy} {Q : Nt} {T : Tn} {f : Nat → Int32} {n : Nat} : (fnT C Q T f n).1 = (glL C Q T n).length ∧ ∀ i, i < (glL C Q T n).length → (fnT C Q T f n).2 i = nI ((glL C Q T n).getD i 0) := by
  induction n with
  | zero => exact ⟨rfl, fun i hi => absurd hi (Nat.not_lt_zero _)⟩
  | succ n ih =>
    obtain ⟨i1, i2⟩ := ih
    have es : fnT C Q T f (n + 1) = fn1 C Q T n (fnT C Q T f n) := rfl
    rw [es, glL_s]
    generalize fnT C Q T f n = s at *
    unfold fn1
    by_cases a : tV T (n / 10) = nI (n % 10)
    · have g0 : ¬ gsB C Q T n = true := by rw [gsB, decide_eq_true a]; simp
      rw [if_pos a, if_neg g0]; exact ⟨i1, i2⟩
    · by_cases b : okC C Q T (n / 10) (n % 10) = true
      · have g1 : gsB C Q T n = true := by rw [gsB, decide_eq_false a, b]; rfl
        rw [if_neg a, if_pos b, if_pos g1]
        refine ⟨by rw [List.length_append]; show s.1 + 1 = _; rw [i1]; rfl, fun i hi => ?_⟩
        rw [List.length_append] at hi
        simp only [List.length_cons, List.length_nil] at hi
        show upd s.2 s.1 (nI n) i = _
        rw [i1]
        by_cases e : i = (glL C Q T n).length
        · subst e; rw [pk_us, gd_r]
        · rw [pk_un e, gd_l (by omega)]; exact i2 i (by omega)
      · have g0 : ¬ gsB C Q T n = true := by
          intro z
          rw [gsB, Bool.and_eq_true] at z
          exact b z.2
        rw [if_neg a, if_neg b, if_neg g0]; exact ⟨i1, i2⟩
theorem F7c {g g' : Hp} (h : F7 g g') : Fc g g' := h.sub (fun _ => s7c)
theorem ho1 {b : Bool} (c : ¬ (if b = true then (1 : Int32) else 0) = 0) : 1 = (if b = true then (1 : Int32) else 0) := by
  cases b
  · exact absurd rfl c
  · rfl
def vVain (C : Cy) (Q : Nt) (T : Tn) (w : Int32) : An := nd (0 ≤ w ∧ w ≤ 2) 1 (0, if w = 2 then (if hoT C Q (t0 T) = true then 1 else 0) else if w = 0 then nI (glL C Q T (10 * cP C)).length else if (glL C Q T (10 * cP C)).length = 0 then -1 else nI ((glL C Q T (10 * cP C)).getD 0 0))
theorem gl_72 {C : Cy} {Q : Nt} {T : Tn} (W : WC C) (V : WT C T) : (glL C Q T (10 * cP C)).length ≤ 72 := by
  have := (fnT_le (Q := Q) (f := fun _ => 0) (fun p hp => (V.2.1 p hp).2) (Nat.le_refl (10 * cP C))).1
  rw [fn_gl.1] at this
  have := W.1.2.1
  omega
theorem k_vain {l : Launch} {d c fs fr : Nat} {z w : Int32} {C : Cy} {T : Tn} {Q : Nt} {h : Hp} (hl : l.stackTraces = false) (W : WC C) (K : KB h c fs fr z C T) (V : WT C T) (hD9 : tD T ≤ 9999) (hQ : NV h 44 (cN C) Q) : Qc l (d + 8) mX9_vain [.ref 0, .int w] h (vVain C Q T w) nNSE nIAE := by
  obtain ⟨hbc, H, hv⟩ := K
  obtain ⟨hc, -, hS⟩ := H.hc
  have hD9' : tD (sX z T) ≤ 9999 := hD9
  have hD8' : tD (t0 (sX z T)) ≤ 9999 := hD9
  have h72 := gl_72 (Q := Q) W V
  refine run_lv [some (.ref 0), some (.int w)] (go := ?_)
  unfold vVain
  refine go_iloadn dX9_vain_0 rfl ?_
  refine go_iconst (v := 2) dX9_vain_1 rfl ?_
  refine sg_ndS (M' := mX9_needWhat) ([.int w, .int 2]) dX9_vain_2 lX9_131 sX9_needWhat hS (r_needWhat hl hS).1 (r_needWhat hl hS).2 (Or.inl ⟨rfl, rfl⟩) Fq.rf (by decide) rfl rfl (Nat.le_of_ble_eq_true rfl) (fun k2 => ?_)
  refine go_iloadn dX9_vain_5 rfl ?_
  refine go_iconst (v := 2) dX9_vain_6 rfl ?_
  refine go_icmp_ne (tgt := 44) dX9_vain_7 (by decide) (fun c7 => ?_) (fun c7 => ?_)
  · refine go_aloadn dX9_vain_44 rfl ?_
    refine sg_getR dX9_vain_45 fX9_78 rfl (wo_L rfl) hS (wo_r15 hS rfl) ?_
    refine go_aloadn dX9_vain_48 rfl ?_
    refine sg_getR dX9_vain_49 fX9_41 rfl (wo_L rfl) hS (wo_r7 hS rfl) ?_
    refine go_aloadn dX9_vain_52 rfl ?_
    refine sg_getR dX9_vain_53 fX9_55 rfl (wo_L rfl) hS (wo_r9 hS rfl) ?_
    refine go_aloadn dX9_vain_56 rfl ?_
    refine sg_getR dX9_vain_57 fX9_71 rfl (wo_L rfl) hS (wo_r14 hS rfl) ?_
    refine sg_rV0 (M' := mX8_find) ([.ref 30, .ref 44, .ref 55]) dX9_vain_60 lX9_302 vX8_find (va_L (rfl)) (by decide) rfl hS (r_find W H (by omega) hQ (fun p hp => (V.2.1 p hp).2)) rfl (Nat.le_of_ble_eq_true rfl) (Nat.zero_le _) (Nat.zero_le _) (fun g F => ?_)
    obtain ⟨F, f1, f2⟩ := F
    have f1 : hI g 70 0 = nI (glL C Q T (10 * cP C)).length := f1.trans (congrArg nI (fn_gl (C := C) (Q := Q) (T := T)).1)
    have f2 : ∀ i, i < (glL C Q T (10 * cP C)).length → hI g 71 i = nI ((glL C Q T (10 * cP C)).getD i 0) := fun i hi => (congrFun f2 i).trans ((fn_gl (C := C) (Q := Q) (T := T)).2 i hi)
    have hS := F.St hS
    refine go_iloadn dX9_vain_63 rfl ?_
    refine go_if_ne (tgt := 77) dX9_vain_64 (by decide) (fun c64 => ?_) (fun c64 => ?_)
    · refine go_aloadn dX9_vain_77 rfl ?_
      refine sg_getR dX9_vain_78 fX9_78 rfl (wo_L rfl) hS (wo_r15 hS rfl) ?_
      refine sg_cVi (M' := mX8_first) ([]) dX9_vain_81 lX9_307 vX8_first (va_L (rfl)) (by decide) rfl hS (r_first hS f1 h72) rfl (Nat.le_of_ble_eq_true rfl) (Nat.zero_le _) (Nat.zero_le _) ?_
      refine go_ireturn dX9_vain_84 rfl rfl (Nat.zero_le _) (Nat.zero_le _) ?_
      first | exact ⟨⟨rfl, by rw [if_neg c7, if_pos c64]⟩, F7c F⟩ | exact ⟨⟨rfl, by rw [if_neg c7, if_neg c64]; by_cases q : (glL C Q T (10 * cP C)).length = 0; (· rw [if_pos q, if_pos q]); rw [if_neg q, if_neg q, f2 0 (by omega)]⟩, F7c F⟩
    · refine go_aloadn dX9_vain_67 rfl ?_
      refine sg_getR dX9_vain_68 fX9_78 rfl (wo_L rfl) hS (wo_r15 hS rfl) ?_
      refine sg_getI dX9_vain_71 fX9_306 rfl (va_L (rfl)) hS ?_
      rw [f1]
      refine go_goto (tgt := 84) dX9_vain_74 (by decide) ?_
      refine go_ireturn dX9_vain_84 rfl rfl (Nat.zero_le _) (Nat.zero_le _) ?_
      first | exact ⟨⟨rfl, by rw [if_neg c7, if_pos c64]⟩, F7c F⟩ | exact ⟨⟨rfl, by rw [if_neg c7, if_neg c64]; by_cases q : (glL C Q T (10 * cP C)).length = 0; (· rw [if_pos q, if_pos q]); rw [if_neg q, if_neg q, f2 0 (by omega)]⟩, F7c F⟩
  · refine go_aloadn dX9_vain_10 rfl ?_
    refine sg_getR dX9_vain_11 fX9_71 rfl (wo_L rfl) hS (wo_r14 hS rfl) ?_
    refine go_aloadn dX9_vain_14 rfl ?_
    refine sg_getR dX9_vain_15 fX9_41 rfl (wo_L rfl) hS (wo_r7 hS rfl) ?_
    refine sg_rV0 (M' := mX7_start) ([.ref 30]) dX9_vain_18 lX9_252 vX7_start (tr_L (rfl)) (by decide) rfl hS (r_start H) rfl (Nat.le_of_ble_eq_true rfl) (Nat.zero_le _) (Nat.zero_le _) (fun g F => ?_)
    have hS := F.2.hc.2.2
    refine go_aloadn dX9_vain_21 rfl ?_
    refine sg_getR dX9_vain_22 fX9_55 rfl (wo_L rfl) hS (wo_r9 hS rfl) ?_
    refine go_aloadn dX9_vain_25 rfl ?_
    refine sg_getR dX9_vain_26 fX9_71 rfl (wo_L rfl) hS (wo_r14 hS rfl) ?_
    refine sg_getR dX9_vain_29 fX9_295 rfl (tr_L (rfl)) hS (tr_r0 hS (rfl)) ?_
    refine sg_rVi (M' := mX2_hold) ([.ref 56]) dX9_vain_32 lX9_298 vX2_hold (no_L (at44)) (by decide) rfl hS (r_hold56 W at44 F.2 (by omega) (hQ.fq at44 F.1 (fun _ q => by unfold S6 at q; unfold Sc; omega))) rfl (Nat.le_of_ble_eq_true rfl) (Nat.zero_le _) (Nat.zero_le _) (fun g2 F2 => ?_)
    refine go_if_eq (tgt := 42) dX9_vain_35 (by decide) (fun c35 => ?_) (fun c35 => ?_)
    · refine go_iconst (v := 0) dX9_vain_42 rfl ?_
      refine go_ireturn dX9_vain_43 rfl rfl (Nat.zero_le _) (Nat.zero_le _) ?_
      first | exact ⟨⟨rfl, by rw [if_pos c7]; exact congrArg (fun z => some (Value.int z)) c35.symm⟩, F6c (F.1.tr F2)⟩ | exact ⟨⟨rfl, by rw [if_pos c7]; exact congrArg (fun z => some (Value.int z)) (ho1 c35)⟩, F6c (F.1.tr F2)⟩
    · refine go_iconst (v := 1) dX9_vain_38 rfl ?_
      refine go_goto (tgt := 43) dX9_vain_39 (by decide) ?_
      refine go_ireturn dX9_vain_43 rfl rfl (Nat.zero_le _) (Nat.zero_le _) ?_
      first | exact ⟨⟨rfl, by rw [if_pos c7]; exact congrArg (fun z => some (Value.int z)) c35.symm⟩, F6c (F.1.tr F2)⟩ | exact ⟨⟨rfl, by rw [if_pos c7]; exact congrArg (fun z => some (Value.int z)) (ho1 c35)⟩, F6c (F.1.tr F2)⟩
def gG (C : Cy) (Q : Nt) (T : Tn) (i : Nat) : Nat := (glL C Q T (10 * cP C)).getD i 0
def vAsk (C : Cy) (Q : Nt) (T : Tn) (w : Int32) : An := nd (0 ≤ w ∧ w ≤ 1) 1 (0, if w = 0 then (cmT (aoF C T (gG C Q T)) (glL C Q T (10 * cP C)).length (cN C)).1 else (cmT (aoF C T (gG C Q T)) (glL C Q T (10 * cP C)).length (cN C)).2)
theorem k_ask {l : Launch} {d c fs fr : Nat} {z w : Int32} {C : Cy} {T : Tn} {Q : Nt} {h : Hp} (hl : l.stackTraces = false) (W : WC C) (K : KB h c fs fr z C T) (V : WT C T) (hD9 : tD T ≤ 9999) (hQ : NV h 44 (cN C) Q) : Qc l (d + 8) mX9_ask [.ref 0, .int w] h (vAsk C Q T w) nNSE nIAE := by
  obtain ⟨hbc, H, hv⟩ := K
  obtain ⟨hc, -, hS⟩ := H.hc
  have hD9' : tD (sX z T) ≤ 9999 := hD9
  have h72 := gl_72 (Q := Q) W V
  have hP := W.1.2.1
  refine run_lv [some (.ref 0), some (.int w)] (go := ?_)
  unfold vAsk
  refine go_iloadn dX9_ask_0 rfl ?_
  refine go_iconst (v := 1) dX9_ask_1 rfl ?_
  refine sg_ndS (M' := mX9_needWhat) ([.int w, .int 1]) dX9_ask_2 lX9_131 sX9_needWhat hS (r_needWhat hl hS).1 (r_needWhat hl hS).2 (Or.inl ⟨rfl, rfl⟩) Fq.rf (by decide) rfl rfl (Nat.le_of_ble_eq_true rfl) (fun k2 => ?_)
  refine go_aloadn dX9_ask_5 rfl ?_
  refine sg_getR dX9_ask_6 fX9_78 rfl (wo_L rfl) hS (wo_r15 hS rfl) ?_
  refine go_aloadn dX9_ask_9 rfl ?_
  refine sg_getR dX9_ask_10 fX9_41 rfl (wo_L rfl) hS (wo_r7 hS rfl) ?_
  refine go_aloadn dX9_ask_13 rfl ?_
  refine sg_getR dX9_ask_14 fX9_55 rfl (wo_L rfl) hS (wo_r9 hS rfl) ?_
  refine go_aloadn dX9_ask_17 rfl ?_
  refine sg_getR dX9_ask_18 fX9_71 rfl (wo_L rfl) hS (wo_r14 hS rfl) ?_
  refine sg_rV0 (M' := mX8_find) ([.ref 30, .ref 44, .ref 55]) dX9_ask_21 lX9_302 vX8_find (va_L (rfl)) (by decide) rfl hS (r_find W H (by omega) hQ (fun p hp => (V.2.1 p hp).2)) rfl (Nat.le_of_ble_eq_true rfl) (Nat.zero_le _) (Nat.zero_le _) (fun g F => ?_)
  obtain ⟨F, f1, f2⟩ := F
  have f1 : hI g 70 0 = nI (glL C Q T (10 * cP C)).length := f1.trans (congrArg nI (fn_gl (C := C) (Q := Q) (T := T)).1)
  have f2 : ∀ i, i < (glL C Q T (10 * cP C)).length → hI g 71 i = nI (gG C Q T i) ∧ gG C Q T i < 80 := fun i hi => ⟨(congrFun f2 i).trans ((fn_gl (C := C) (Q := Q) (T := T)).2 i hi), by have := glL_lt (wl_mem hi); unfold gG; omega⟩
  have H2 := H.fc (F7c F)
  have hS := H2.hc.2.2
  refine go_aloadn dX9_ask_24 rfl ?_
  refine sg_getR dX9_ask_25 fX9_78 rfl (wo_L rfl) hS (wo_r15 hS rfl) ?_
  refine go_aloadn dX9_ask_28 rfl ?_
  refine sg_getR dX9_ask_29 fX9_41 rfl (wo_L rfl) hS (wo_r7 hS rfl) ?_
  refine go_aloadn dX9_ask_32 rfl ?_
  refine sg_getR dX9_ask_33 fX9_71 rfl (wo_L rfl) hS (wo_r14 hS rfl) ?_
  refine sg_rV0 (M' := mX8_compare) ([.ref 30, .ref 55]) dX9_ask_36 lX9_310 vX8_compare (va_L (rfl)) (by decide) rfl hS (r_compare W H2 (by omega) f1 h72 f2) rfl (Nat.le_of_ble_eq_true rfl) (Nat.zero_le _) (Nat.zero_le _) (fun g2 F2 => ?_)
  obtain ⟨F2, e1, e2⟩ := F2
  have hS := F2.St hS
  refine go_iloadn dX9_ask_39 rfl ?_
  refine go_if_ne (tgt := 53) dX9_ask_40 (by decide) (fun c40 => ?_) (fun c40 => ?_)
  · refine go_aloadn dX9_ask_53 rfl ?_
    refine sg_getR dX9_ask_54 fX9_78 rfl (wo_L rfl) hS (wo_r15 hS rfl) ?_
    refine sg_getI dX9_ask_57 fX9_316 rfl (va_L (rfl)) hS ?_
    skip
    refine go_ireturn dX9_ask_60 rfl rfl (Nat.zero_le _) (Nat.zero_le _) ?_
    first | exact ⟨⟨rfl, by rw [if_pos c40]; rfl⟩, F7c (F.tr F2)⟩ | exact ⟨⟨rfl, by rw [if_neg c40, e2]; rfl⟩, F7c (F.tr F2)⟩
  · refine go_aloadn dX9_ask_43 rfl ?_
    refine sg_getR dX9_ask_44 fX9_78 rfl (wo_L rfl) hS (wo_r15 hS rfl) ?_
    refine sg_getI dX9_ask_47 fX9_314 rfl (va_L (rfl)) hS ?_
    rw [e1]
    refine go_goto (tgt := 60) dX9_ask_50 (by decide) ?_
    skip
    refine go_ireturn dX9_ask_60 rfl rfl (Nat.zero_le _) (Nat.zero_le _) ?_
    first | exact ⟨⟨rfl, by rw [if_pos c40]; rfl⟩, F7c (F.tr F2)⟩ | exact ⟨⟨rfl, by rw [if_neg c40, e2]; rfl⟩, F7c (F.tr F2)⟩
def vFog (C : Cy) (T : Tn) (x n t : Int32) : An := nd (okX (cN C) x) 1 (nd (1 ≤ n ∧ n ≤ 5) 2 (nd (0 ≤ t ∧ t ≤ 10) 2 (0, fgT C T x.toNatClampNeg n.toNatClampNeg t (2 ^ n.toNatClampNeg))))
theorem k_fog {l : Launch} {d c fs fr : Nat} {z x n t : Int32} {C : Cy} {T : Tn} {h : Hp} (hl : l.stackTraces = false) (W : WC C) (K : KB h c fs fr z C T) (hD9 : tD T ≤ 9999) : Qc l (d + 7) mX9_fog [.ref 0, .int x, .int n, .int t] h (vFog C T x n t) nNSE nIAE := by
  obtain ⟨hbc, H, hv⟩ := K
  obtain ⟨hc, -, hS⟩ := H.hc
  have hth := H.1.1.2.2.2.2.1
  have hN1 := W.1.1
  have hD9' : tD (sX z T) ≤ 9999 := hD9
  refine run_lv [some (.ref 0), some (.int x), some (.int n), some (.int t)] (go := ?_)
  unfold vFog
  refine go_aloadn dX9_fog_0 rfl ?_
  refine go_iloadn dX9_fog_1 rfl ?_
  refine sg_ndV (M' := mX9_needThing) ([.int x]) dX9_fog_2 lX9_196 vX9_needThing (wo_L rfl) (by decide) rfl hS (r_needThing hl hS hc hbc hth).1 (r_needThing hl hS hc hbc hth).2 (Or.inl ⟨rfl, rfl⟩) Fq.rf (by decide) rfl rfl (Nat.le_of_ble_eq_true rfl) (fun k2 => ?_)
  refine go_iloadn dX9_fog_5 rfl ?_
  refine go_iconst (v := 1) dX9_fog_6 rfl ?_
  refine go_iconst (v := 5) dX9_fog_7 rfl ?_
  refine sg_ndS (M' := mX9_needWithin) ([.int n, .int 1, .int 5]) dX9_fog_8 lX9_244 sX9_needWithin hS (r_needWithin hl hS).1 (r_needWithin hl hS).2 (Or.inr ⟨rfl, rfl⟩) Fq.rf (by decide) rfl rfl (Nat.le_of_ble_eq_true rfl) (fun k8 => ?_)
  refine go_iloadn dX9_fog_11 rfl ?_
  refine go_iconst (v := 0) dX9_fog_12 rfl ?_
  refine go_bipush (v := 10) dX9_fog_13 rfl ?_
  refine sg_ndS (M' := mX9_needWithin) ([.int t, .int 0, .int 10]) dX9_fog_15 lX9_244 sX9_needWithin hS (r_needWithin hl hS).1 (r_needWithin hl hS).2 (Or.inr ⟨rfl, rfl⟩) Fq.rf (by decide) rfl rfl (Nat.le_of_ble_eq_true rfl) (fun k15 => ?_)
  obtain ⟨p, hp, rfl⟩ := ok_nI (by omega) k2
  obtain ⟨j, -, hj, rfl⟩ := rg_nI (a := 1) (b := 5) rfl rfl (by decide) (by decide) k8
  rw [cl_nI (show p < 2 ^ 31 by omega), cl_nI (show j < 2 ^ 31 by omega)]
  refine go_aloadn dX9_fog_18 rfl ?_
  refine sg_getR dX9_fog_19 fX9_71 rfl (wo_L rfl) hS (wo_r14 hS rfl) ?_
  refine go_aloadn dX9_fog_22 rfl ?_
  refine sg_getR dX9_fog_23 fX9_41 rfl (wo_L rfl) hS (wo_r7 hS rfl) ?_
  refine go_iloadn dX9_fog_26 rfl ?_
  refine go_iloadn dX9_fog_27 rfl ?_
  refine go_iloadn dX9_fog_28 rfl ?_
  refine sg_rVi (M' := mX7_inFog) ([.ref 30, .int (nI p), .int (nI j), .int t]) dX9_fog_29 lX9_319 vX7_inFog (tr_L (rfl)) (by decide) rfl hS (r_inFog W H (by omega) hp hj) rfl (Nat.le_of_ble_eq_true rfl) (Nat.zero_le _) (Nat.zero_le _) (fun g F => ?_)
  refine go_ireturn dX9_fog_32 rfl rfl (Nat.zero_le _) (Nat.zero_le _) ?_
  exact ⟨⟨rfl, rfl⟩, F6c F⟩
