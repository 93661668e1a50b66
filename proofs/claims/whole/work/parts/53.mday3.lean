/-! towns stay as they may be -/
theorem kept_le {x : Int32} : ∃ k, k ≤ 20 ∧ keptF x = nI k := by
  have e20 : (20 : Int32).toInt = 20 := by decide
  have e0 : (0 : Int32).toInt = 0 := by decide
  unfold keptF
  by_cases b : x < 20
  · rw [if_pos b]
    by_cases c : 0 < x
    · rw [if_pos c]
      exact nI_of2 (M := 20) (n := 20) (by decide) (fun z => by have := Int32.lt_iff_toInt_lt.mp z; have := Int32.lt_iff_toInt_lt.mp c; omega) (Int32.le_of_lt b)
    · rw [if_neg c]; exact ⟨0, by omega, rfl⟩
  · rw [if_neg b]; exact ⟨20, by omega, rfl⟩
theorem mn99_nI {n : Nat} (h : n < 1000) : mn99 (nI n) = nI (if n < 99 then n else 99) := by
  unfold mn99
  by_cases q : n < 99
  · rw [if_pos (show nI n < 99 from nI_lt (b := 99) q (by decide)), if_pos q]
  · rw [if_neg (show ¬ nI n < 99 from nI_nlt (b := 99) (by omega) (by omega)), if_neg q]; rfl
theorem mx0_nI {n : Nat} (h : n < 1000) : ∃ m, m ≤ n ∧ mx0 (nI n - 2) = nI m := by
  unfold mx0
  by_cases q : 2 < n
  · have e : nI n - 2 = nI (n - 2) := pk_sub (b := 2) (by omega)
    rw [e, if_pos (show 0 < nI (n - 2) from nI_lt (a := 0) (by omega) (by omega))]
    exact ⟨n - 2, by omega, rfl⟩
  · refine ⟨0, by omega, ?_⟩
    have : n = 0 ∨ n = 1 ∨ n = 2 := by omega
    rcases this with rfl | rfl | rfl <;> decide
theorem bd_mx0 {n : Nat} (h : n ≤ 99) : bdF (nI n - 2) 0 99 = mx0 (nI n - 2) := by
  have key : ∀ n : Fin 100, bdF (nI n.val - 2) 0 99 = mx0 (nI n.val - 2) := by decide +kernel
  exact key ⟨n, by omega⟩
theorem WT.wd {C : Cy} {T : Tn} {t w : Nat} {lk : Int32} (W : WC C) (H : WT C T) (ht : t < cN C) (hw : w < cP C) : WT C (wdT C t w lk T) := by
  obtain ⟨h1, h2, h3⟩ := H
  have hM := W.1.2.2.2.2.2
  have hH : ∀ p, p < cP C → ∃ s, s ≤ 99 ∧ upd (tH T) w (mn99 (tH T w + shT C T t w lk)) p = nI s := by
    intro p hp
    by_cases e : p = w
    · subst e
      obtain ⟨s, hs, es⟩ := (h2 p hp).1
      obtain ⟨k, hk, ek⟩ := kept_le (x := if (cSh C).1 = 0 then tX T t + bcF lk - tV T p else evP (cSh C) (svT C T t p lk))
      have ek : shT C T t p lk = nI k := ek
      rw [pk_us, es, ek, nI_add, mn99_nI (by omega)]
      exact ⟨_, by split <;> omega, rfl⟩
    · rw [pk_un e]; exact (h2 p hp).1
  unfold wdT
  split
  · exact ⟨h1, fun p hp => ⟨hH p hp, (h2 p hp).2⟩, h3⟩
  · split
    · next q =>
      refine ⟨fun i hi => ?_, fun p hp => ⟨hH p hp, (h2 p hp).2⟩, h3⟩
      obtain ⟨a1, a2, a3, a4⟩ := h1 i hi
      refine ⟨a1, a2, ?_, a4⟩
      show ∃ s, s < 100 ∧ upd (tS T) t (tS T t + 1) i = nI s
      by_cases e : i = t
      · subst e
        obtain ⟨s, hs, es⟩ := a3
        rw [pk_us, es, nI_1]
        rw [es, nI_1, nI_ltI (by omega) (by omega)] at q
        exact ⟨s + 1, by omega, rfl⟩
      · rw [pk_un e]; exact a3
    · refine ⟨fun i hi => ?_, fun p hp => ⟨hH p hp, (h2 p hp).2⟩, h3⟩
      obtain ⟨a1, a2, a3, a4⟩ := h1 i hi
      show (∃ o, o < cP C ∧ upd (tO T) t (nI w) i = nI o) ∧ (upd (tB T) t (-1) i = -1 ∨ ∃ w, w < cP C ∧ upd (tB T) t (-1) i = nI w) ∧ (∃ s, s < 100 ∧ upd (tS T) t 0 i = nI s) ∧ _
      by_cases e : i = t
      · subst e
        rw [pk_us, pk_us, pk_us]
        exact ⟨⟨w, hw, rfl⟩, Or.inl rfl, ⟨0, by omega, rfl⟩, a4⟩
      · rw [pk_un e, pk_un e, pk_un e]; exact ⟨a1, a2, a3, a4⟩
theorem WT.d1 {C : Cy} {T : Tn} {t : Nat} {fog : Int32} (W : WC C) (H : WT C T) (ht : t < cN C) : WT C (d1T C fog t T) := by
  unfold d1T
  split
  · exact H
  · next q =>
    rcases (H.1 t ht).2.1 with z | ⟨w, hw, z⟩
    · exact absurd z q
    · have e : (tB T t).toNatClampNeg = w := by rw [z]; exact cl_nI (by have := W.1.2.1; omega)
      rw [e]; exact H.wd W ht hw
theorem WT.dA {C : Cy} {T : Tn} {fog : Int32} {k : Nat} (W : WC C) (H : WT C T) (hk : k ≤ cN C) : WT C (d1A C fog T k) := by
  induction k with
  | zero => exact H
  | succ k ih => exact (ih (by omega)).d1 W (by omega)
theorem WT.ev {C : Cy} {T : Tn} {k : Nat} (H : WT C T) : WT C (evT C k T) := by
  obtain ⟨h1, h2, h3⟩ := H
  refine ⟨fun t ht => ?_, fun p hp => ?_, h3⟩
  · obtain ⟨a1, a2, a3, a4⟩ := h1 t ht
    rw [evT_B, evT_S]
    refine ⟨a1, ?_, ?_, a4⟩
    · split
      · exact Or.inl rfl
      · exact a2
    · split
      · exact ⟨0, by omega, rfl⟩
      · exact a3
  · refine ⟨?_, (h2 p hp).2⟩
    obtain ⟨s, hs, es⟩ := (h2 p hp).1
    rw [evT_H, es]
    split
    · split
      · exact ⟨0, by omega, rfl⟩
      · split
        · obtain ⟨m, hm, e⟩ := mx0_nI (n := s) (by omega)
          exact ⟨m, by omega, e⟩
        · exact ⟨s, hs, rfl⟩
    · exact ⟨s, hs, rfl⟩
theorem WT.day {C : Cy} {T : Tn} {fog : Int32} (W : WC C) (H : WT C T) : WT C (dayT C fog T) := (H.dA W (Nat.le_refl _)).ev (k := cP C)
theorem WT.dn {C : Cy} {T : Tn} {k : Nat} (W : WC C) (H : WT C T) : WT C (dnT C T k) := by
  induction k with
  | zero => exact H
  | succ k ih => exact ih.day W
theorem WT.t0 {C : Cy} {T : Tn} (H : WT C T) : WT C (t0 T) := H
/-! the model: a thing's day -/
theorem upd2 {f : Nat → Int32} {k : Nat} {x y : Int32} : upd (upd f k x) k y = upd f k y := by
  funext j
  by_cases e : j = k
  · subst e; rw [pk_us, pk_us]
  · rw [pk_un e, pk_un e, pk_un e]
theorem sdr {b k : Nat} (h : k < 105) : SD b 91 (b + k) := Or.inl ⟨rfl, by omega, by omega⟩
theorem q_thingGoes {l : Launch} {d as ar b t w : Nat} {C : Cy} {T : Tn} {h : Hp} (W : WC C) (H : MC h as ar C) (hT : MT h b C T) (ho : hI h 77 48 = tC T) (hb : b ≤ 105) (hd : tD T < 2 ^ 31) (ht : t < cN C) (hw : w < cP C) (hwt : tB T t = nI w) :
    Ey l (d + 5) mX10_thingGoes [.ref 77, .int (nI b), .int (nI t)] h none (fun g => Fz (SD b) h g ∧ MT g b C (wdT C t w (if hI h 77 47 = 0 then lkT C T w (tD T) else 0) T) ∧ hI g 77 48 = tC (wdT C t w (if hI h 77 47 = 0 then lkT C T w (tD T) else 0) T)) := by
  have hS := H.1
  have hN := W.1.1
  have hP := W.1.2.1
  obtain ⟨a1, a2, a3, a4⟩ := hT.2.1 t ht
  obtain ⟨b1, b2⟩ := hT.2.2.1 w hw
  have hsh := q_shameOf (l := l) (d := d) W H hT hb hd ht hw hwt
  rw [hwt] at a2
  generalize hlk : (if hI h 77 47 = 0 then lkT C T w (tD T) else 0) = lk at *
  refine run_lv [some (.ref 77), some (.int (nI b)), some (.int (nI t)), none] (go := ?_)
  refine go_aloadn dX10_thingGoes_0 rfl ?_
  refine sg_getR dX10_thingGoes_1 fX10_66 rfl (mo_L rfl) hS (mo_r42 hS rfl) ?_
  refine go_iloadn dX10_thingGoes_4 rfl ?_
  refine go_bipush (v := 11) dX10_thingGoes_5 rfl ?_
  refine go_iadd dX10_thingGoes_7 ?_
  refine go_iloadn dX10_thingGoes_8 rfl ?_
  refine go_iadd dX10_thingGoes_9 ?_
  refine sg_ialdN (i := b + (11 + t)) dX10_thingGoes_10 (mo_42 rfl) hS (by simp only [lit_nI, nI_add, pk_mul, Nat.add_assoc, Nat.zero_add, Nat.add_zero]) (by omega) (a2) ?_
  refine go_ist3 dX10_thingGoes_11 rfl ?_
  refine go_aloadn dX10_thingGoes_12 rfl ?_
  refine sg_getR dX10_thingGoes_13 fX10_66 rfl (mo_L rfl) hS (mo_r42 hS rfl) ?_
  refine go_iloadn dX10_thingGoes_16 rfl ?_
  refine go_bipush (v := 41) dX10_thingGoes_17 rfl ?_
  refine go_iadd dX10_thingGoes_19 ?_
  refine go_iloadn dX10_thingGoes_20 rfl ?_
  refine go_iadd dX10_thingGoes_21 ?_
  refine go_bipush (v := 99) dX10_thingGoes_22 rfl ?_
  refine go_aloadn dX10_thingGoes_24 rfl ?_
  refine sg_getR dX10_thingGoes_25 fX10_66 rfl (mo_L rfl) hS (mo_r42 hS rfl) ?_
  refine go_iloadn dX10_thingGoes_28 rfl ?_
  refine go_bipush (v := 41) dX10_thingGoes_29 rfl ?_
  refine go_iadd dX10_thingGoes_31 ?_
  refine go_iloadn dX10_thingGoes_32 rfl ?_
  refine go_iadd dX10_thingGoes_33 ?_
  refine sg_ialdN (i := b + (41 + w)) dX10_thingGoes_34 (mo_42 rfl) hS (by simp only [lit_nI, nI_add, pk_mul, Nat.add_assoc, Nat.zero_add, Nat.add_zero]) (by omega) (b1) ?_
  refine go_aloadn dX10_thingGoes_35 rfl ?_
  refine go_iloadn dX10_thingGoes_36 rfl ?_
  refine go_iloadn dX10_thingGoes_37 rfl ?_
  refine sg_rVi (M' := mX10_shameOf) ([.int (nI b), .int (nI t)]) dX10_thingGoes_38 lX10_321 vX10_shameOf (mo_L rfl) (by decide) rfl hS (hsh) rfl (Nat.le_of_ble_eq_true rfl) (Nat.zero_le _) (Nat.zero_le _) (fun g1 F1 => ?_)
  have hS := F1.St hS
  refine go_iadd dX10_thingGoes_41 ?_
  refine sg_cSi (M' := mX10_lesser) ([.int 99, .int _]) dX10_thingGoes_42 lX10_324 sX10_lesser hS (q_lesser) rfl (Nat.le_of_ble_eq_true rfl) (Nat.zero_le _) (Nat.zero_le _) ?_
  rw [ls_mn99]
  refine sg_iastN (i := b + (41 + w)) dX10_thingGoes_45 (mo_42 rfl) hS (by simp only [lit_nI, nI_add, pk_mul, Nat.add_assoc, Nat.zero_add, Nat.add_zero]) (by omega) ?_
  skip
  have H2 : MC (uI g1 91 (b + (41 + w)) (mn99 (tH T w + shT C T t w lk))) as ar C := H.sd (b := b) ((F1.sub (fun _ _ => s93d)).uI (sdr (by omega)))
  have T2 := mt_H (v := mn99 (tH T w + shT C T t w lk)) W hw (hT.s93 W F1)
  have F2 : Fz (SD b) h (uI g1 91 (b + (41 + w)) (mn99 (tH T w + shT C T t w lk))) := (F1.sub (fun _ _ => s93d)).uI (sdr (by omega))
  have hey := q_eyesOn (l := l) (d := d + 1) W H2 T2 hb hw hd
  rw [F2.I (a := 77) (k := 47) (by unfold SD; omega)] at hey
  have hey : Ex l (d + 4) mX10_eyesOn [.ref 77, .int (nI b), .int (nI w)] (uI g1 91 (b + (41 + w)) (mn99 (tH T w + shT C T t w lk))) (some (.int lk)) (uI g1 91 (b + (41 + w)) (mn99 (tH T w + shT C T t w lk))) := by rw [← hlk]; rw [← hlk] at hey; exact hey
  have ho2 : hI (uI g1 91 (b + (41 + w)) (mn99 (tH T w + shT C T t w lk))) 77 48 = tC T := by rw [hI_uI_ne (by omega), F1.I (by unfold S93; omega)]; exact ho
  generalize uI g1 91 (b + (41 + w)) (mn99 (tH T w + shT C T t w lk)) = g2 at *
  have hS := H2.1
  have a3 := (T2.2.1 t ht).2.2.1
  by_cases z : lk = 0
  · refine go_aloadn dX10_thingGoes_46 rfl ?_
    refine go_iloadn dX10_thingGoes_47 rfl ?_
    refine go_iloadn dX10_thingGoes_48 rfl ?_
    refine sg_cVi (M' := mX10_eyesOn) ([.int (nI b), .int (nI w)]) dX10_thingGoes_49 lX10_309 vX10_eyesOn (mo_L rfl) (by decide) rfl hS (hey) rfl (Nat.le_of_ble_eq_true rfl) (Nat.zero_le _) (Nat.zero_le _) ?_
    refine go_if_ne (tgt := 56) dX10_thingGoes_52 (by decide) (fun c52 => absurd z c52) (fun c52 => ?_)
    refine go_return dX10_thingGoes_55 rfl (Nat.zero_le _) (Nat.zero_le _) ?_
    exact ⟨rfl, F2, by rw [wdT, if_pos z]; exact T2, by rw [wdT, if_pos z]; exact ho2⟩
  · refine go_aloadn dX10_thingGoes_46 rfl ?_
    refine go_iloadn dX10_thingGoes_47 rfl ?_
    refine go_iloadn dX10_thingGoes_48 rfl ?_
    refine sg_cVi (M' := mX10_eyesOn) ([.int (nI b), .int (nI w)]) dX10_thingGoes_49 lX10_309 vX10_eyesOn (mo_L rfl) (by decide) rfl hS (hey) rfl (Nat.le_of_ble_eq_true rfl) (Nat.zero_le _) (Nat.zero_le _) ?_
    refine go_if_ne (tgt := 56) dX10_thingGoes_52 (by decide) (fun c52 => ?_) (fun c52 => absurd c52 z)
    refine go_aloadn dX10_thingGoes_56 rfl ?_
    refine sg_getR dX10_thingGoes_57 fX10_66 rfl (mo_L rfl) hS (mo_r42 hS rfl) ?_
    refine go_iloadn dX10_thingGoes_60 rfl ?_
    refine go_bipush (v := 21) dX10_thingGoes_61 rfl ?_
    refine go_iadd dX10_thingGoes_63 ?_
    refine go_iloadn dX10_thingGoes_64 rfl ?_
    refine go_iadd dX10_thingGoes_65 ?_
    refine go_dup2 dX10_thingGoes_66 rfl rfl ?_
    refine sg_ialdN (i := b + (21 + t)) dX10_thingGoes_67 (mo_42 rfl) hS (by simp only [lit_nI, nI_add, pk_mul, Nat.add_assoc, Nat.zero_add, Nat.add_zero]) (by omega) (a3) ?_
    refine go_iconst (v := 1) dX10_thingGoes_68 rfl ?_
    refine go_iadd dX10_thingGoes_69 ?_
    refine sg_iastN (i := b + (21 + t)) dX10_thingGoes_70 (mo_42 rfl) hS (by simp only [lit_nI, nI_add, pk_mul, Nat.add_assoc, Nat.zero_add, Nat.add_zero]) (by omega) ?_
    skip
    have T3 := mt_S (v := tS T t + 1) W ht T2
    have F3 : Fz (SD b) h (uI g2 91 (b + (21 + t)) (tS T t + 1)) := F2.uI (sdr (by omega))
    have H3 : MC (uI g2 91 (b + (21 + t)) (tS T t + 1)) as ar C := H.sd F3
    have ho3 : hI (uI g2 91 (b + (21 + t)) (tS T t + 1)) 77 48 = tC T := by rw [hI_uI_ne (by omega)]; exact ho2
    have a3' : hI (uI g2 91 (b + (21 + t)) (tS T t + 1)) 91 (b + (21 + t)) = tS T t + 1 := hI_uI_eq
    refine go_cong (h' := uI g2 91 (b + (21 + t)) (tS T t + 1)) ?_ rfl rfl
    generalize uI g2 91 (b + (21 + t)) (tS T t + 1) = g3 at *
    have hS := H3.1
    refine go_aloadn dX10_thingGoes_71 rfl ?_
    refine sg_getR dX10_thingGoes_72 fX10_66 rfl (mo_L rfl) hS (mo_r42 hS rfl) ?_
    refine go_iloadn dX10_thingGoes_75 rfl ?_
    refine go_bipush (v := 21) dX10_thingGoes_76 rfl ?_
    refine go_iadd dX10_thingGoes_78 ?_
    refine go_iloadn dX10_thingGoes_79 rfl ?_
    refine go_iadd dX10_thingGoes_80 ?_
    refine sg_ialdN (i := b + (21 + t)) dX10_thingGoes_81 (mo_42 rfl) hS (by simp only [lit_nI, nI_add, pk_mul, Nat.add_assoc, Nat.zero_add, Nat.add_zero]) (by omega) (a3') ?_
    refine go_aloadn dX10_thingGoes_82 rfl ?_
    refine sg_getI dX10_thingGoes_83 fX10_13 rfl (mo_L rfl) hS ?_
    rw [H3.2.1.2.2.2]
    refine go_icmp_ge (tgt := 90) dX10_thingGoes_86 (by decide) (fun c86 => ?_) (fun c86 => ?_)
    · refine go_aloadn dX10_thingGoes_90 rfl ?_
      refine sg_getR dX10_thingGoes_91 fX10_66 rfl (mo_L rfl) hS (mo_r42 hS rfl) ?_
      refine go_iloadn dX10_thingGoes_94 rfl ?_
      refine go_iconst (v := 1) dX10_thingGoes_95 rfl ?_
      refine go_iadd dX10_thingGoes_96 ?_
      refine go_iloadn dX10_thingGoes_97 rfl ?_
      refine go_iadd dX10_thingGoes_98 ?_
      refine go_iloadn dX10_thingGoes_99 rfl ?_
      refine sg_iastN (i := b + (1 + t)) dX10_thingGoes_100 (mo_42 rfl) hS (by simp only [lit_nI, nI_add, pk_mul, Nat.add_assoc, Nat.zero_add, Nat.add_zero]) (by omega) ?_
      refine go_aloadn dX10_thingGoes_101 rfl ?_
      refine go_iloadn dX10_thingGoes_102 rfl ?_
      refine go_iloadn dX10_thingGoes_103 rfl ?_
      refine sg_cV0 (M' := mX10_isOff) ([.int (nI b), .int (nI t)]) dX10_thingGoes_104 lX10_327 vX10_isOff (mo_L rfl) (by decide) rfl hS (q_isOff hS hb (by omega)) rfl (Nat.le_of_ble_eq_true rfl) (Nat.zero_le _) (Nat.zero_le _) ?_
      refine go_aloadn dX10_thingGoes_107 rfl ?_
      refine go_dup dX10_thingGoes_108 rfl ?_
      refine sg_getI dX10_thingGoes_109 fX10_330 rfl (mo_L rfl) hS ?_
      refine go_iconst (v := 1) dX10_thingGoes_112 rfl ?_
      refine go_iadd dX10_thingGoes_113 ?_
      refine sg_putI dX10_thingGoes_114 fX10_330 rfl rfl (mo_L rfl) hS ?_
      refine go_return dX10_thingGoes_117 rfl (Nat.zero_le _) (Nat.zero_le _) ?_
      exact ⟨rfl, (((F3.uI (sdr (by omega))).uI (sdr (by omega))).uI (sdr (by omega))).uI (Or.inr (Or.inr (Or.inr ⟨rfl, rfl⟩))), by rw [wdT, if_neg z, if_neg (Int32.not_lt.mpr c86)]; exact ((mt_S W ht (mt_B W ht (mt_O W ht T3))).fz (S := fun a k => a = 77) W (Fz.rf.uI rfl) (fun k _ _ => by omega)).cong rfl (fun i hi => ⟨rfl, rfl, congrFun upd2 i, rfl⟩) (fun _ _ => ⟨rfl, rfl⟩) (fun _ _ => rfl), by rw [wdT, if_neg z, if_neg (Int32.not_lt.mpr c86), hI_uI_eq, hI_uI_ne (by omega), hI_uI_ne (by omega), hI_uI_ne (by omega), ho3]⟩
    · refine go_return dX10_thingGoes_89 rfl (Nat.zero_le _) (Nat.zero_le _) ?_
      exact ⟨rfl, F3, by rw [wdT, if_neg z, if_pos (Int32.not_le.mp c86)]; exact T3, by rw [wdT, if_neg z, if_pos (Int32.not_le.mp c86)]; exact ho3⟩
def gv2 (C : Cy) (T : Tn) (p : Nat) : Bool := if (cRe C).1 = 0 then !decide (tH T p < 40) else !decide (evP (cRe C) (rvT T p (mnT C T p)) ≤ 0)
theorem gv_gv2 {C : Cy} {T : Tn} {p : Nat} : gvT C T p = (!decide (mnT C T p = 0) && gv2 C T p) := rfl
theorem q_returns0 {l : Launch} {d as ar b p : Nat} {C : Cy} {T : Tn} {h : Hp} (W : WC C) (H : MC h as ar C) (hT : MT h b C T) (hb : b ≤ 105) (hp : p < cP C) :
    Ey l (d + 3) mX10_returns0 [.ref 77, .int (nI b), .int (nI p)] h (some (.int (if gv2 C T p = true then 1 else 0))) (Fz S93 h) := by
  have hS := H.1
  have hN := W.1.1
  have hP := W.1.2.1
  obtain ⟨b1, b2⟩ := hT.2.2.1 p hp
  have hbits : bi10 (btF (fun t => tB T t = nI p) (cN C)) 10 = nI (mnT C T p) := bc_ct hN
  refine run_lv [some (.ref 77), some (.int (nI b)), some (.int (nI p))] (go := ?_)
  by_cases z : (cRe C).1 = 0
  · have hsa : hI h 77 6 = -1 := by rw [H.2.2.1.2, if_pos z]
    refine go_aloadn dX10_returns0_0 rfl ?_
    refine sg_getI dX10_returns0_1 fX10_19 rfl (mo_L rfl) hS ?_
    rw [hsa]
    refine go_iconst (v := -1) dX10_returns0_4 rfl ?_
    refine go_icmp_ne (tgt := 30) dX10_returns0_5 (by decide) (fun c5 => absurd rfl c5) (fun c5 => ?_)
    refine go_aloadn dX10_returns0_8 rfl ?_
    refine sg_getR dX10_returns0_9 fX10_66 rfl (mo_L rfl) hS (mo_r42 hS rfl) ?_
    refine go_iloadn dX10_returns0_12 rfl ?_
    refine go_bipush (v := 41) dX10_returns0_13 rfl ?_
    refine go_iadd dX10_returns0_15 ?_
    refine go_iloadn dX10_returns0_16 rfl ?_
    refine go_iadd dX10_returns0_17 ?_
    refine sg_ialdN (i := b + (41 + p)) dX10_returns0_18 (mo_42 rfl) hS (by simp only [lit_nI, nI_add, pk_mul, Nat.add_assoc, Nat.zero_add, Nat.add_zero]) (by omega) (b1) ?_
    refine go_bipush (v := 40) dX10_returns0_19 rfl ?_
    refine go_icmp_lt (tgt := 28) dX10_returns0_21 (by decide) (fun c21 => ?_) (fun c21 => ?_)
    · refine go_iconst (v := 0) dX10_returns0_28 rfl ?_
      refine go_ireturn dX10_returns0_29 rfl rfl (Nat.zero_le _) (Nat.zero_le _) ?_
      exact ⟨by rw [gv2, if_pos z]; first | (have q := Int32.not_lt.mpr c21; simp [q]; done) | simp [c21], Fz.rf⟩
    · refine go_iconst (v := 1) dX10_returns0_24 rfl ?_
      refine go_goto (tgt := 29) dX10_returns0_25 (by decide) ?_
      refine go_ireturn dX10_returns0_29 rfl rfl (Nat.zero_le _) (Nat.zero_le _) ?_
      exact ⟨by rw [gv2, if_pos z]; first | (have q := Int32.not_lt.mpr c21; simp [q]; done) | simp [c21], Fz.rf⟩
  · have hsa : hI h 77 6 = nI ar := by rw [H.2.2.1.2, if_neg z]
    have hPM := H.2.2.2.2.2.2 z
    have hWP := W.2.2.1.2
    have e91 : ∀ (g : Hp) (k : Nat) (v : Int32) (i : Nat), hI (uI g 93 k v) 91 i = hI g 91 i := fun _ _ _ _ => hI_uI_ne (by omega)
    have e77 : ∀ (g : Hp) (k : Nat) (v : Int32) (i : Nat), hI (uI g 93 k v) 77 i = hI g 77 i := fun _ _ _ _ => hI_uI_ne (by omega)
    have hrec : Ey l (d + 2) mX10_reckons [.ref 77, .int (nI ar)] (uI (uI (uI (uI h 93 7 (tH T p)) 93 5 (tV T p)) 93 8 (nI (mnT C T p))) 93 6 (nI (tD T))) (some (.int (evP (cRe C) (rvT T p (mnT C T p))))) (Fz S94 (uI (uI (uI (uI h 93 7 (tH T p)) 93 5 (tV T p)) 93 8 (nI (mnT C T p))) 93 6 (nI (tD T)))) := by
      refine q_reckons (A := reA) hS ?_ hWP (by omega) (fun k hk _ => ?_)
      · have : hI (uI (uI (uI (uI h 93 7 (tH T p)) 93 5 (tV T p)) 93 8 (nI (mnT C T p))) 93 6 (nI (tD T))) 80 = hI h 80 := by
          funext k; rw [hI_uI_ne (by omega), hI_uI_ne (by omega), hI_uI_ne (by omega), hI_uI_ne (by omega)]
        rw [this]; exact hPM
      · rcases hk with rfl | rfl | rfl | rfl <;> simp [mvN, hI_uI, rvT]
    refine go_aloadn dX10_returns0_0 rfl ?_
    refine sg_getI dX10_returns0_1 fX10_19 rfl (mo_L rfl) hS ?_
    rw [hsa]
    refine go_iconst (v := -1) dX10_returns0_4 rfl ?_
    refine go_icmp_ne (tgt := 30) dX10_returns0_5 (by decide) (fun c5 => ?_) (fun c5 => absurd c5 (nI_m1 (by have := hPM.2.2; omega)))
    refine go_aloadn dX10_returns0_30 rfl ?_
    refine sg_getR dX10_returns0_31 fX10_72 rfl (mo_L rfl) hS (mo_r45 hS rfl) ?_
    refine go_bipush (v := 7) dX10_returns0_34 rfl ?_
    refine go_aloadn dX10_returns0_36 rfl ?_
    refine sg_getR dX10_returns0_37 fX10_66 rfl (mo_L rfl) hS (mo_r42 hS rfl) ?_
    refine go_iloadn dX10_returns0_40 rfl ?_
    refine go_bipush (v := 41) dX10_returns0_41 rfl ?_
    refine go_iadd dX10_returns0_43 ?_
    refine go_iloadn dX10_returns0_44 rfl ?_
    refine go_iadd dX10_returns0_45 ?_
    refine sg_ialdN (i := b + (41 + p)) dX10_returns0_46 (mo_42 rfl) hS (by simp only [lit_nI, nI_add, pk_mul, Nat.add_assoc, Nat.zero_add, Nat.add_zero]) (by omega) (b1) ?_
    refine sg_iastN (i := 7) dX10_returns0_47 (mo_45 rfl) hS (by simp only [lit_nI, nI_add, pk_mul, Nat.add_assoc, Nat.zero_add, Nat.add_zero]) (by omega) ?_
    refine go_aloadn dX10_returns0_48 rfl ?_
    refine sg_getR dX10_returns0_49 fX10_72 rfl (mo_L rfl) hS (mo_r45 hS rfl) ?_
    refine go_iconst (v := 5) dX10_returns0_52 rfl ?_
    refine go_aloadn dX10_returns0_53 rfl ?_
    refine sg_getR dX10_returns0_54 fX10_66 rfl (mo_L rfl) hS (mo_r42 hS rfl) ?_
    refine go_iloadn dX10_returns0_57 rfl ?_
    refine go_bipush (v := 49) dX10_returns0_58 rfl ?_
    refine go_iadd dX10_returns0_60 ?_
    refine go_iloadn dX10_returns0_61 rfl ?_
    refine go_iadd dX10_returns0_62 ?_
    refine sg_ialdN (i := b + (49 + p)) (x := tV T p) dX10_returns0_63 (mo_42 rfl) hS (by simp only [lit_nI, nI_add, pk_mul, Nat.add_assoc, Nat.zero_add, Nat.add_zero]) (by omega) ((by rw [e91]; exact b2)) ?_
    refine sg_iastN (i := 5) dX10_returns0_64 (mo_45 rfl) hS (by simp only [lit_nI, nI_add, pk_mul, Nat.add_assoc, Nat.zero_add, Nat.add_zero]) (by omega) ?_
    refine go_aloadn dX10_returns0_65 rfl ?_
    refine sg_getR dX10_returns0_66 fX10_72 rfl (mo_L rfl) hS (mo_r45 hS rfl) ?_
    refine go_bipush (v := 8) dX10_returns0_69 rfl ?_
    refine go_aloadn dX10_returns0_71 rfl ?_
    refine go_iloadn dX10_returns0_72 rfl ?_
    refine go_iloadn dX10_returns0_73 rfl ?_
    refine sg_cVi (M' := mX10_wornBy) ([.int (nI b), .int (nI p)]) dX10_returns0_74 lX10_300 vX10_wornBy (mo_L rfl) (by decide) rfl hS (q_wornBy W (H.sd (b := b) ((Fz.rf.uI (s93d (Or.inl rfl))).uI (s93d (Or.inl rfl)))) (hT.s93 W ((Fz.rf.uI (Or.inl rfl)).uI (Or.inl rfl))) hb) rfl (Nat.le_of_ble_eq_true rfl) (Nat.zero_le _) (Nat.zero_le _) ?_
    refine sg_cSi (M' := mX10_bits) ([.int _]) dX10_returns0_77 lX10_312 sX10_bits hS (q_bits) rfl (Nat.le_of_ble_eq_true rfl) (Nat.zero_le _) (Nat.zero_le _) ?_
    rw [hbits]
    refine sg_iastN (i := 8) dX10_returns0_80 (mo_45 rfl) hS (by simp only [lit_nI, nI_add, pk_mul, Nat.add_assoc, Nat.zero_add, Nat.add_zero]) (by omega) ?_
    refine go_aloadn dX10_returns0_81 rfl ?_
    refine sg_getR dX10_returns0_82 fX10_72 rfl (mo_L rfl) hS (mo_r45 hS rfl) ?_
    refine go_bipush (v := 6) dX10_returns0_85 rfl ?_
    refine go_aloadn dX10_returns0_87 rfl ?_
    refine sg_getR dX10_returns0_88 fX10_66 rfl (mo_L rfl) hS (mo_r42 hS rfl) ?_
    refine go_iloadn dX10_returns0_91 rfl ?_
    refine go_iconst (v := 0) dX10_returns0_92 rfl ?_
    refine go_iadd dX10_returns0_93 ?_
    refine sg_ialdN (i := b) (x := nI (tD T)) dX10_returns0_94 (mo_42 rfl) hS (by simp only [lit_nI, nI_add, pk_mul, Nat.add_assoc, Nat.zero_add, Nat.add_zero]) (by omega) ((by rw [e91, e91, e91]; exact hT.1)) ?_
    refine sg_iastN (i := 6) dX10_returns0_95 (mo_45 rfl) hS (by simp only [lit_nI, nI_add, pk_mul, Nat.add_assoc, Nat.zero_add, Nat.add_zero]) (by omega) ?_
    refine go_aloadn dX10_returns0_96 rfl ?_
    refine go_aloadn dX10_returns0_97 rfl ?_
    refine sg_getI dX10_returns0_98 fX10_19 rfl (mo_L rfl) hS ?_
    rw [e77, e77, e77, e77, hsa]
    refine sg_rVi (M' := mX10_reckons) ([.int (nI ar)]) dX10_returns0_101 lX10_318 vX10_reckons (mo_L rfl) (by decide) rfl hS (hrec) rfl (Nat.le_of_ble_eq_true rfl) (Nat.zero_le _) (Nat.zero_le _) (fun g F => ?_)
    have hS := F.St hS
    refine go_if_le (tgt := 111) dX10_returns0_104 (by decide) (fun c104 => ?_) (fun c104 => ?_)
    · refine go_iconst (v := 0) dX10_returns0_111 rfl ?_
      refine go_ireturn dX10_returns0_112 rfl rfl (Nat.zero_le _) (Nat.zero_le _) ?_
      exact ⟨by rw [gv2, if_neg z]; simp [c104], (((((Fz.rf.uI (Or.inl rfl)).uI (Or.inl rfl)).uI (Or.inl rfl)).uI (Or.inl rfl)).tr (F.sub (fun a k q => Or.inr q)))⟩
    · refine go_iconst (v := 1) dX10_returns0_107 rfl ?_
      refine go_goto (tgt := 112) dX10_returns0_108 (by decide) ?_
      refine go_ireturn dX10_returns0_112 rfl rfl (Nat.zero_le _) (Nat.zero_le _) ?_
      exact ⟨by rw [gv2, if_neg z]; simp [c104], (((((Fz.rf.uI (Or.inl rfl)).uI (Or.inl rfl)).uI (Or.inl rfl)).uI (Or.inl rfl)).tr (F.sub (fun a k q => Or.inr q)))⟩
def ofK (T : Tn) (p k : Nat) : Tn := (tD T, tC T, tO T, fun t => if t < k ∧ tB T t = nI p then -1 else tB T t, fun t => if t < k ∧ tB T t = nI p then 0 else tS T t, tX T, tH T, tV T, tW T)
theorem ofK_0 {T : Tn} {p : Nat} : ofK T p 0 = T := by simp [ofK]
theorem mt_off {g : Hp} {b p k : Nat} {C : Cy} {T : Tn} (W : WC C) (hk : k < cN C) (H : MT g b C (ofK T p k)) : (tB T k = nI p → MT (uI (uI g 91 (b + (11 + k)) (-1)) 91 (b + (21 + k)) 0) b C (ofK T p (k + 1))) ∧ (¬ tB T k = nI p → MT g b C (ofK T p (k + 1))) := by
  refine ⟨fun q => ?_, fun q => ?_⟩
  · refine (mt_S W hk (mt_B W hk H)).cong rfl (fun t ht => ⟨rfl, ?_, ?_, rfl⟩) (fun _ _ => ⟨rfl, rfl⟩) (fun _ _ => rfl)
    · show upd (fun t => if t < k ∧ tB T t = nI p then (-1 : Int32) else tB T t) k (-1) t = if t < k + 1 ∧ tB T t = nI p then -1 else tB T t
      by_cases e : t = k
      · subst e; rw [pk_us, if_pos ⟨by omega, q⟩]
      · rw [pk_un e]
        have : (t < k + 1) ↔ t < k := by omega
        simp only [this]
    · show upd (fun t => if t < k ∧ tB T t = nI p then (0 : Int32) else tS T t) k 0 t = if t < k + 1 ∧ tB T t = nI p then 0 else tS T t
      by_cases e : t = k
      · subst e; rw [pk_us, if_pos ⟨by omega, q⟩]
      · rw [pk_un e]
        have : (t < k + 1) ↔ t < k := by omega
        simp only [this]
  · refine H.cong rfl (fun t ht => ⟨rfl, ?_, ?_, rfl⟩) (fun _ _ => ⟨rfl, rfl⟩) (fun _ _ => rfl)
    · show (if t < k ∧ tB T t = nI p then (-1 : Int32) else tB T t) = if t < k + 1 ∧ tB T t = nI p then -1 else tB T t
      by_cases e : t = k
      · subst e; rw [if_neg (fun z => q z.2), if_neg (fun z => q z.2)]
      · have : (t < k + 1) ↔ t < k := by omega
        simp only [this]
    · show (if t < k ∧ tB T t = nI p then (0 : Int32) else tS T t) = if t < k + 1 ∧ tB T t = nI p then 0 else tS T t
      by_cases e : t = k
      · subst e; rw [if_neg (fun z => q z.2), if_neg (fun z => q z.2)]
      · have : (t < k + 1) ↔ t < k := by omega
        simp only [this]
theorem q_givesAll {l : Launch} {d as ar b p : Nat} {C : Cy} {T : Tn} {h : Hp} (W : WC C) (H : MC h as ar C) (hT : MT h b C T) (hb : b ≤ 105) : Ey l (d + 2) mX10_givesAll [.ref 77, .int (nI b), .int (nI p)] h none (fun g => Fz (fun a k => a = 91 ∧ b ≤ k ∧ k < b + 105) h g ∧ MT g b C (ofK T p (cN C))) := by
  have hN := W.1.1
  refine run_lv [some (.ref 77), some (.int (nI b)), some (.int (nI p)), none] (go := ?_)
  have hS := H.1
  refine go_iconst (v := 0) dX10_givesAll_0 rfl ?_
  refine go_ist3 dX10_givesAll_1 rfl ?_
  refine go_loopR (lvf := fun k => [some (.ref 77), some (.int (nI b)), some (.int (nI p)), some (.int (nI k))]) (cN C) (fun k g => Fz (fun a k => a = 91 ∧ b ≤ k ∧ k < b + 105) h g ∧ MT g b C (ofK T p k)) (fun k g hk hh ih => ?_) (fun g hh => ?_) 0 h (Nat.zero_le _) ⟨Fz.rf, by rw [ofK_0]; exact hT⟩
  · obtain ⟨F, T2⟩ := hh
    have H2 := H.sd (b := b) (F.sub (fun _ _ => Or.inl))
    have hS := H2.1
    have hth := H2.2.1.2.2.1
    have eb : hI g 91 (b + (11 + k)) = tB T k := by rw [(T2.2.1 k hk).2.1]; exact if_neg (fun z => absurd z.1 (Nat.lt_irrefl _))
    obtain ⟨m1, m2⟩ := mt_off W hk T2
    refine go_iloadn dX10_givesAll_2 rfl ?_
    refine go_aloadn dX10_givesAll_3 rfl ?_
    refine sg_getI dX10_givesAll_4 fX10_276 rfl (mo_L rfl) hS ?_
    rw [hth]
    refine go_icmp_ge (tgt := 37) dX10_givesAll_7 (by decide) (fun c7 => absurd c7 (nI_ge hk (by omega))) (fun c7 => ?_)
    refine go_aloadn dX10_givesAll_10 rfl ?_
    refine sg_getR dX10_givesAll_11 fX10_66 rfl (mo_L rfl) hS (mo_r42 hS rfl) ?_
    refine go_iloadn dX10_givesAll_14 rfl ?_
    refine go_bipush (v := 11) dX10_givesAll_15 rfl ?_
    refine go_iadd dX10_givesAll_17 ?_
    refine go_iloadn dX10_givesAll_18 rfl ?_
    refine go_iadd dX10_givesAll_19 ?_
    refine sg_ialdN (i := b + (11 + k)) dX10_givesAll_20 (mo_42 rfl) hS (by simp only [lit_nI, nI_add, pk_mul, Nat.add_assoc, Nat.zero_add, Nat.add_zero]) (by omega) (eb) ?_
    refine go_iloadn dX10_givesAll_21 rfl ?_
    refine go_icmp_ne (tgt := 31) dX10_givesAll_22 (by decide) (fun c22 => ?_) (fun c22 => ?_)
    · refine go_iinc3 (c1 := 1) dX10_givesAll_31 rfl rfl ?_
      refine go_goto (tgt := 2) dX10_givesAll_34 (by decide) ?_
      first | exact go_cong (ih g ⟨F, m2 c22⟩) (by simp [nI_1]) rfl | exact go_cong (ih _ ⟨(F.uI ⟨rfl, by omega, by omega⟩).uI ⟨rfl, by omega, by omega⟩, m1 (Decidable.not_not.mp c22)⟩) (by simp [nI_1]) rfl | exact go_cong (ih _ ⟨(F.uI ⟨rfl, by omega, by omega⟩).uI ⟨rfl, by omega, by omega⟩, m1 c22⟩) (by simp [nI_1]) rfl
    · refine go_aloadn dX10_givesAll_25 rfl ?_
      refine go_iloadn dX10_givesAll_26 rfl ?_
      refine go_iloadn dX10_givesAll_27 rfl ?_
      refine sg_cV0 (M' := mX10_isOff) ([.int (nI b), .int (nI k)]) dX10_givesAll_28 lX10_327 vX10_isOff (mo_L rfl) (by decide) rfl hS (q_isOff hS hb (by omega)) rfl (Nat.le_of_ble_eq_true rfl) (Nat.zero_le _) (Nat.zero_le _) ?_
      refine go_iinc3 (c1 := 1) dX10_givesAll_31 rfl rfl ?_
      refine go_goto (tgt := 2) dX10_givesAll_34 (by decide) ?_
      first | exact go_cong (ih g ⟨F, m2 c22⟩) (by simp [nI_1]) rfl | exact go_cong (ih _ ⟨(F.uI ⟨rfl, by omega, by omega⟩).uI ⟨rfl, by omega, by omega⟩, m1 (Decidable.not_not.mp c22)⟩) (by simp [nI_1]) rfl | exact go_cong (ih _ ⟨(F.uI ⟨rfl, by omega, by omega⟩).uI ⟨rfl, by omega, by omega⟩, m1 c22⟩) (by simp [nI_1]) rfl
  · obtain ⟨F, T2⟩ := hh
    have H2 := H.sd (b := b) (F.sub (fun _ _ => Or.inl))
    have hS := H2.1
    have hth := H2.2.1.2.2.1
    refine go_iloadn dX10_givesAll_2 rfl ?_
    refine go_aloadn dX10_givesAll_3 rfl ?_
    refine sg_getI dX10_givesAll_4 fX10_276 rfl (mo_L rfl) hS ?_
    rw [hth]
    refine go_icmp_ge (tgt := 37) dX10_givesAll_7 (by decide) (fun c7 => ?_) (fun c7 => absurd (nI_le (Nat.le_refl _) (by omega)) c7)
    refine go_return dX10_givesAll_37 rfl (Nat.zero_le _) (Nat.zero_le _) ?_
    exact ⟨rfl, F, T2⟩
