/-! the class's questions -/
/-- the class's city and town -/
def KB (h : Hp) (c fs fr : Nat) (x : Int32) (C : Cy) (T : Tn) : Prop := hR h 0 5 = some c ∧ TV h 30 c fs fr C (sX x T) ∧ ∀ p, p < cP C → hI h (c + 1) p = tV T p
theorem wtF_cong {f g : Nat → Int32} {v : Int32} {n : Nat} (h : ∀ t, t < n → f t = g t) : wtF f v n = wtF g v n := foF_cong (fun i hi a => by rw [h i hi])
theorem smF_cong {f g : Nat → Int32} {n : Nat} (h : ∀ t, t < n → f t = g t) : smF f n = smF g n := foF_cong (fun i hi a => by rw [h i hi])
theorem be1 {a x : Int32} {P P' : Prop} [Decidable P] [Decidable P'] (h : P ↔ P') : (if P then x else a) = if P' then x else a := by
  by_cases z : P
  · rw [if_pos z, if_pos (h.mp z)]
  · rw [if_neg z, if_neg (fun y => z (h.mpr y))]
theorem be2 {A B : Prop} {a u v u' v' : Int32} (h1 : A ↔ B) (h2 : v = v') (h3 : a = -1 ∨ u = u') : (A ∧ (a = -1 ∨ u < v)) ↔ (B ∧ (a = -1 ∨ u' < v')) := by
  subst h2
  rcases h3 with q | q
  · exact ⟨fun z => ⟨h1.mp z.1, Or.inl q⟩, fun z => ⟨h1.mpr z.1, Or.inl q⟩⟩
  · rw [h1, q]
theorem be3 {Q : Nat → Prop} [DecidablePred Q] {f g : Nat → Int32} {n : Nat} (hn : n < 1000) (h : ∀ t, t < n → f t = g t) : beF Q f n = -1 ∨ f (beF Q f n).toNatClampNeg = g (beF Q f n).toNatClampNeg := by
  rcases beF_in Q f (n := n) (Nat.lt_trans hn (by decide)) with q | ⟨j, hj, q⟩
  · exact Or.inl q
  · right
    have e : (beF Q f n).toNatClampNeg = j := by rw [q]; exact cl_nI (by omega)
    rw [e]; exact h j hj
theorem be0 {Q : Nat → Prop} [DecidablePred Q] {f : Nat → Int32} : beF Q f 0 = -1 := rfl
theorem beF_cong {Q Q' : Nat → Prop} [DecidablePred Q] [DecidablePred Q'] {f g : Nat → Int32} {n : Nat} (hn : n < 1000) (hq : ∀ t, t < n → (Q t ↔ Q' t)) (h : ∀ t, t < n → f t = g t) : beF Q f n = beF Q' g n := by
  induction n with
  | zero => rw [be0, be0]
  | succ n ih =>
    have ih := ih (by omega) (fun t ht => hq t (by omega)) (fun t ht => h t (by omega))
    have h4 := be1 (x := nI n) (a := beF Q f n) (be2 (hq n (by omega)) (h n (by omega)) (be3 (Q := Q) (f := f) (g := g) (n := n) (by omega) (fun t ht => h t (by omega))))
    rw [beF_s, beF_s, ← ih]
    exact h4
theorem kd_eq {j n : Nat} (hn : n < 2 ^ 30) (hj : j ≤ n) (c : ∀ i, i < n → ¬ nI j = nI (0 + i)) : j = n := by
  rcases Nat.lt_or_ge j n with q | q
  · exact absurd (by rw [Nat.zero_add]) (c j q)
  · omega
abbrev weT (C : Cy) (T : Tn) (p : Nat) : Int32 := wtF (cWt C) (btF (fun t => tO T t = nI p) (cN C)) (cN C)
theorem ow_TV {h : Hp} {b c fs fr : Nat} {C : Cy} {T : Tn} (H : TV h b c fs fr C T) {p : Int32} : btF (fun t => hI h (b + 5) t = p) (cN C) = btF (fun t => tO T t = p) (cN C) := btF_cong (fun t ht => by rw [(H.2.2.1 t ht).1])
theorem wt_TV {h : Hp} {b c fs fr : Nat} {C : Cy} {T : Tn} (H : TV h b c fs fr C T) {v : Int32} : wtF (hI h (c + 5)) v (cN C) = wtF (cWt C) v (cN C) := wtF_cong (fun t ht => H.2.1.2.2.1 t ht)
def pvF (C : Cy) (T : Tn) (p w : Nat) : Int32 := if w = 0 then tV T p else if w = 1 then plT C T p (tD T) else if w = 2 then tH T p else if w = 3 then cBl C p else if w = 4 then btF (fun t => tB T t = nI p) (cN C) else if w = 5 then wtF (cWt C) (btF (fun t => tB T t = nI p) (cN C)) (cN C) else if w = 6 then btF (fun t => tO T t = nI p) (cN C) &&& woT C T else if w = 7 then weT C T p else beF (fun t => tB T t = nI p) (tX T) (cN C)
def vPerson (C : Cy) (T : Tn) (x w : Int32) : An := nd (okX (cP C) x) 1 (nd (0 ≤ w ∧ w ≤ 8) 1 (0, pvF C T x.toNatClampNeg w.toNatClampNeg))
theorem k_person {l : Launch} {d c fs fr : Nat} {z x w : Int32} {C : Cy} {T : Tn} {h : Hp} (hl : l.stackTraces = false) (W : WC C) (K : KB h c fs fr z C T) : Qc l (d + 7) mX9_person [.ref 0, .int x, .int w] h (vPerson C T x w) nNSE nIAE := by
  obtain ⟨hbc, H, hv⟩ := K
  obtain ⟨hc, -, hS⟩ := H.hc
  have hpe := H.1.1.2.2.2.2.2.2.1
  have hP := W.1.2.1
  have hN1 := W.1.1
  have hD := H.1.2.2.2.2.1
  have hDl := H.1.2.2.2.2.2
  refine run_lv [some (.ref 0), some (.int x), some (.int w)] (go := ?_)
  unfold vPerson
  refine go_aloadn dX9_person_0 rfl ?_
  refine go_iloadn dX9_person_1 rfl ?_
  refine sg_ndV (M' := mX9_needPerson) ([.int x]) dX9_person_2 lX9_165 vX9_needPerson (wo_L rfl) (by decide) rfl hS (r_needPerson hl hS hc hbc hpe).1 (r_needPerson hl hS hc hbc hpe).2 (Or.inl ⟨rfl, rfl⟩) Fq.rf (by decide) rfl rfl (Nat.le_of_ble_eq_true rfl) (fun k2 => ?_)
  refine go_iloadn dX9_person_5 rfl ?_
  refine go_bipush (v := 8) dX9_person_6 rfl ?_
  refine sg_ndS (M' := mX9_needWhat) ([.int w, .int 8]) dX9_person_8 lX9_131 sX9_needWhat hS (r_needWhat hl hS).1 (r_needWhat hl hS).2 (Or.inl ⟨rfl, rfl⟩) Fq.rf (by decide) rfl rfl (Nat.le_of_ble_eq_true rfl) (fun k8 => ?_)
  obtain ⟨p, hp, rfl⟩ := ok_nI (by omega) k2
  obtain ⟨j, -, hj, rfl⟩ := rg_nI (a := 0) (b := 8) rfl rfl (by decide) (by decide) k8
  have e0 : (nI p).toNatClampNeg = p := cl_nI (by omega)
  rw [e0, cl_nI (show j < 2 ^ 31 by omega)]
  refine go_iloadn dX9_person_11 rfl ?_
  refine go_tab 8 0 142 [60, 70, 86, 96, 106, 115, 124, 133] dX9_person_12 rfl rfl rfl rfl rfl (by decide) (fun c12 => ?_) (fun i hi c12 => ?_)
  · have e := kd_eq (by decide) hj c12
    subst e
    refine go_aloadn dX9_person_142 rfl ?_
    refine sg_getR dX9_person_143 fX9_41 rfl (wo_L rfl) hS (wo_r7 hS rfl) ?_
    refine go_iloadn dX9_person_146 rfl ?_
    refine sg_cVi (M' := mX6_oddest) ([.int (nI p)]) dX9_person_147 lX9_193 vX6_oddest (tw_L (at30)) (by decide) rfl hS (r_oddest H.1.1) rfl (Nat.le_of_ble_eq_true rfl) (Nat.zero_le _) (Nat.zero_le _) ?_
    refine go_ireturn dX9_person_150 rfl rfl (Nat.zero_le _) (Nat.zero_le _) ?_
    exact ⟨⟨rfl, congrArg (fun z => some (Value.int z)) (beF_cong (by omega) (fun t ht => by rw [(H.2.2.1 t ht).2.1]; exact Iff.rfl) (fun t ht => (H.2.2.1 t ht).2.2.2))⟩, Fq.rf⟩
  · match i, hi, c12 with
    | 0, _, c12 =>
      have e := (nI_eq (by omega) (by omega)).mp c12
      subst e
      refine go_aloadn dX9_person_60 rfl ?_
      refine sg_getR dX9_person_61 fX9_31 rfl (wo_L rfl) hS hbc ?_
      refine sg_getR dX9_person_64 fX9_168 rfl (ct_L hc) hS (ct_r4 hS hc) ?_
      refine go_iloadn dX9_person_67 rfl ?_
      refine sg_ialdN (i := p) dX9_person_68 (ct_4 hc) hS (by simp only [lit_nI, nI_add, pk_mul, Nat.add_assoc, Nat.zero_add, Nat.add_zero]) (by omega) (hv p hp) ?_
      refine go_ireturn dX9_person_69 rfl rfl (Nat.zero_le _) (Nat.zero_le _) ?_
      exact ⟨⟨rfl, rfl⟩, Fq.rf⟩
    | 1, _, c12 =>
      have e := (nI_eq (by omega) (by omega)).mp c12
      subst e
      refine go_aloadn dX9_person_70 rfl ?_
      refine sg_getR dX9_person_71 fX9_41 rfl (wo_L rfl) hS (wo_r7 hS rfl) ?_
      refine go_iloadn dX9_person_74 rfl ?_
      refine go_aloadn dX9_person_75 rfl ?_
      refine sg_getR dX9_person_76 fX9_41 rfl (wo_L rfl) hS (wo_r7 hS rfl) ?_
      refine sg_getI dX9_person_79 fX9_147 rfl (tw_L (at30)) hS ?_
      rw [hD]
      refine sg_cVi (M' := mX6_placeOn) ([.int (nI p), .int (nI (tD T))]) dX9_person_82 lX9_171 vX6_placeOn (tw_L (at30)) (by decide) rfl hS (r_pl W H hp (by have : tD T < 2 ^ 30 := hDl; omega)) rfl (Nat.le_of_ble_eq_true rfl) (Nat.zero_le _) (Nat.zero_le _) ?_
      refine go_ireturn dX9_person_85 rfl rfl (Nat.zero_le _) (Nat.zero_le _) ?_
      exact ⟨⟨rfl, rfl⟩, Fq.rf⟩
    | 2, _, c12 =>
      have e := (nI_eq (by omega) (by omega)).mp c12
      subst e
      refine go_aloadn dX9_person_86 rfl ?_
      refine sg_getR dX9_person_87 fX9_41 rfl (wo_L rfl) hS (wo_r7 hS rfl) ?_
      refine sg_getR dX9_person_90 fX9_174 rfl (tw_L (at30)) hS (tw_r4 hS (at30)) ?_
      refine go_iloadn dX9_person_93 rfl ?_
      refine sg_ialdN (i := p) dX9_person_94 (tw_4 (at30)) hS (by simp only [lit_nI, nI_add, pk_mul, Nat.add_assoc, Nat.zero_add, Nat.add_zero]) (by omega) ((H.2.2.2.1 p hp).1) ?_
      refine go_ireturn dX9_person_95 rfl rfl (Nat.zero_le _) (Nat.zero_le _) ?_
      exact ⟨⟨rfl, rfl⟩, Fq.rf⟩
    | 3, _, c12 =>
      have e := (nI_eq (by omega) (by omega)).mp c12
      subst e
      refine go_aloadn dX9_person_96 rfl ?_
      refine sg_getR dX9_person_97 fX9_31 rfl (wo_L rfl) hS hbc ?_
      refine sg_getR dX9_person_100 fX9_177 rfl (ct_L hc) hS (ct_r5 hS hc) ?_
      refine go_iloadn dX9_person_103 rfl ?_
      refine sg_ialdN (i := p) dX9_person_104 (ct_5 hc) hS (by simp only [lit_nI, nI_add, pk_mul, Nat.add_assoc, Nat.zero_add, Nat.add_zero]) (by omega) ((H.2.1.2.1 p hp).1) ?_
      refine go_ireturn dX9_person_105 rfl rfl (Nat.zero_le _) (Nat.zero_le _) ?_
      exact ⟨⟨rfl, rfl⟩, Fq.rf⟩
    | 4, _, c12 =>
      have e := (nI_eq (by omega) (by omega)).mp c12
      subst e
      refine go_aloadn dX9_person_106 rfl ?_
      refine sg_getR dX9_person_107 fX9_41 rfl (wo_L rfl) hS (wo_r7 hS rfl) ?_
      refine go_iloadn dX9_person_110 rfl ?_
      refine sg_cVi (M' := mX6_wearsBits) ([.int (nI p)]) dX9_person_111 lX9_180 vX6_wearsBits (tw_L (at30)) (by decide) rfl hS (r_wearsBits H.1.1) rfl (Nat.le_of_ble_eq_true rfl) (Nat.zero_le _) (Nat.zero_le _) ?_
      refine go_ireturn dX9_person_114 rfl rfl (Nat.zero_le _) (Nat.zero_le _) ?_
      exact ⟨⟨rfl, congrArg (fun z => some (Value.int z)) (we_TV H)⟩, Fq.rf⟩
    | 5, _, c12 =>
      have e := (nI_eq (by omega) (by omega)).mp c12
      subst e
      refine go_aloadn dX9_person_115 rfl ?_
      refine sg_getR dX9_person_116 fX9_41 rfl (wo_L rfl) hS (wo_r7 hS rfl) ?_
      refine go_iloadn dX9_person_119 rfl ?_
      refine sg_cVi (M' := mX6_load) ([.int (nI p)]) dX9_person_120 lX9_184 vX6_load (tw_L (at30)) (by decide) rfl hS (r_load H.1.1) rfl (Nat.le_of_ble_eq_true rfl) (Nat.zero_le _) (Nat.zero_le _) ?_
      refine go_ireturn dX9_person_123 rfl rfl (Nat.zero_le _) (Nat.zero_le _) ?_
      exact ⟨⟨rfl, congrArg (fun z => some (Value.int z)) (by rw [we_TV H, wt_TV H]; rfl)⟩, Fq.rf⟩
    | 6, _, c12 =>
      have e := (nI_eq (by omega) (by omega)).mp c12
      subst e
      refine go_aloadn dX9_person_124 rfl ?_
      refine sg_getR dX9_person_125 fX9_41 rfl (wo_L rfl) hS (wo_r7 hS rfl) ?_
      refine go_iloadn dX9_person_128 rfl ?_
      refine sg_cVi (M' := mX6_missed) ([.int (nI p)]) dX9_person_129 lX9_187 vX6_missed (tw_L (at30)) (by decide) rfl hS (r_missed H.1.1) rfl (Nat.le_of_ble_eq_true rfl) (Nat.zero_le _) (Nat.zero_le _) ?_
      refine go_ireturn dX9_person_132 rfl rfl (Nat.zero_le _) (Nat.zero_le _) ?_
      exact ⟨⟨rfl, congrArg (fun z => some (Value.int z)) (by rw [ow_TV H, wo_TV H]; rfl)⟩, Fq.rf⟩
    | 7, _, c12 =>
      have e := (nI_eq (by omega) (by omega)).mp c12
      subst e
      refine go_aloadn dX9_person_133 rfl ?_
      refine sg_getR dX9_person_134 fX9_41 rfl (wo_L rfl) hS (wo_r7 hS rfl) ?_
      refine go_iloadn dX9_person_137 rfl ?_
      refine sg_cVi (M' := mX6_wealth) ([.int (nI p)]) dX9_person_138 lX9_190 vX6_wealth (tw_L (at30)) (by decide) rfl hS (r_wealth H.1.1) rfl (Nat.le_of_ble_eq_true rfl) (Nat.zero_le _) (Nat.zero_le _) ?_
      refine go_ireturn dX9_person_141 rfl rfl (Nat.zero_le _) (Nat.zero_le _) ?_
      exact ⟨⟨rfl, congrArg (fun z => some (Value.int z)) (by rw [ow_TV H, wt_TV H]; rfl)⟩, Fq.rf⟩
    | (i + 8), hi, _ => exact absurd hi (by omega)
def tvF (C : Cy) (T : Tn) (t w : Nat) : Int32 := if w = 0 then cWt C t else if w = 1 then tX T t else if w = 2 then tO T t else if w = 3 then tB T t else if w = 4 then tS T t else if tB T t = -1 then 0 else shT C T t (tB T t).toNatClampNeg (lkT C T (tB T t).toNatClampNeg (tD T))
def vThing (C : Cy) (T : Tn) (x w : Int32) : An := nd (okX (cN C) x) 1 (nd (0 ≤ w ∧ w ≤ 5) 1 (0, tvF C T x.toNatClampNeg w.toNatClampNeg))
theorem Fts {h g : Hp} (F : Fr (Ts 30) h g) : Fc h g := F.fc (fun a q => by unfold Ts at q; unfold Sc; omega)
theorem r_shT30 {l : Launch} {d c fs fr t : Nat} {C : Cy} {T : Tn} {h : Hp} (W : WC C) (H : TV h 30 c fs fr C T) (ht : t < cN C) : Ey l (d + 4) mX6_shameToday [.ref 30, .int (nI t)] h (some (.int (if tB T t = -1 then 0 else shT C T t (tB T t).toNatClampNeg (lkT C T (tB T t).toNatClampNeg (tD T))))) (Fc h) := by
  refine Run.mono (r_shameToday H.1 ht) (fun v g q => ?_) (fun _ _ z => z)
  obtain ⟨F, q⟩ := q
  have eb := (H.2.2.1 t ht).2.1
  refine ⟨?_, Fts F⟩
  rcases q with ⟨q1, q2⟩ | ⟨w, g1, hw, q1, F1, q2⟩
  · have q1 : hI h 36 t = -1 := q1
    have eb : hI h 36 t = tB T t := eb
    rw [q2, if_pos (by rw [← eb]; exact q1)]
  · have q1 : hI h 36 t = nI w := q1
    have eb : hI h 36 t = tB T t := eb
    have ew : tB T t = nI w := by rw [← eb]; exact q1
    have hP := W.1.2.1
    have hb : TownAt 30 := at30
    have hc := H.hc.1
    have hD1 : hI g1 30 1 = nI (tD T) := by rw [F1.I (a := 30) (by unfold Ts; omega)]; exact H.1.2.2.2.2.1
    rw [q2, if_neg (by rw [ew]; exact nI_m1 (by omega)), ew, cl_nI (by omega), lkA_lkT W H.2.1 H.2.2 hw]
    have hC1 : CC g1 c fs fr C := H.2.1.fr hb hc ⟨F1.1, F1.2.1, F1.2.2.1, fun a k q => F1.2.2.2 a k (fun z => q (ts_tt z))⟩
    rw [sbF_shT W hC1 (H.2.2.fs F1) hD1 ht hw]
theorem k_thing {l : Launch} {d c fs fr : Nat} {z x w : Int32} {C : Cy} {T : Tn} {h : Hp} (hl : l.stackTraces = false) (W : WC C) (K : KB h c fs fr z C T) : Qc l (d + 7) mX9_thing [.ref 0, .int x, .int w] h (vThing C T x w) nNSE nIAE := by
  obtain ⟨hbc, H, hv⟩ := K
  obtain ⟨hc, -, hS⟩ := H.hc
  have hth := H.1.1.2.2.2.2.1
  have hP := W.1.2.1
  have hN1 := W.1.1
  refine run_lv [some (.ref 0), some (.int x), some (.int w)] (go := ?_)
  unfold vThing
  refine go_aloadn dX9_thing_0 rfl ?_
  refine go_iloadn dX9_thing_1 rfl ?_
  refine sg_ndV (M' := mX9_needThing) ([.int x]) dX9_thing_2 lX9_196 vX9_needThing (wo_L rfl) (by decide) rfl hS (r_needThing hl hS hc hbc hth).1 (r_needThing hl hS hc hbc hth).2 (Or.inl ⟨rfl, rfl⟩) Fq.rf (by decide) rfl rfl (Nat.le_of_ble_eq_true rfl) (fun k2 => ?_)
  refine go_iloadn dX9_thing_5 rfl ?_
  refine go_iconst (v := 5) dX9_thing_6 rfl ?_
  refine sg_ndS (M' := mX9_needWhat) ([.int w, .int 5]) dX9_thing_7 lX9_131 sX9_needWhat hS (r_needWhat hl hS).1 (r_needWhat hl hS).2 (Or.inl ⟨rfl, rfl⟩) Fq.rf (by decide) rfl rfl (Nat.le_of_ble_eq_true rfl) (fun k7 => ?_)
  obtain ⟨p, hp, rfl⟩ := ok_nI (by omega) k2
  obtain ⟨j, -, hj, rfl⟩ := rg_nI (a := 0) (b := 5) rfl rfl (by decide) (by decide) k7
  have e0 : (nI p).toNatClampNeg = p := cl_nI (by omega)
  rw [e0, cl_nI (show j < 2 ^ 31 by omega)]
  refine go_iloadn dX9_thing_10 rfl ?_
  refine go_tab 5 0 94 [44, 54, 64, 74, 84] dX9_thing_11 rfl rfl rfl rfl rfl (by decide) (fun c11 => ?_) (fun i hi c11 => ?_)
  · have e := kd_eq (by decide) hj c11
    subst e
    refine go_aloadn dX9_thing_94 rfl ?_
    refine sg_getR dX9_thing_95 fX9_41 rfl (wo_L rfl) hS (wo_r7 hS rfl) ?_
    refine go_iloadn dX9_thing_98 rfl ?_
    refine sg_rVi (M' := mX6_shameToday) ([.int (nI p)]) dX9_thing_99 lX9_214 vX6_shameToday (tw_L (at30)) (by decide) rfl hS (r_shT30 W H hp) rfl (Nat.le_of_ble_eq_true rfl) (Nat.zero_le _) (Nat.zero_le _) (fun g F => ?_)
    refine go_ireturn dX9_thing_102 rfl rfl (Nat.zero_le _) (Nat.zero_le _) ?_
    exact ⟨⟨rfl, rfl⟩, F⟩
  · match i, hi, c11 with
    | 0, _, c11 =>
      have e := (nI_eq (by omega) (by omega)).mp c11
      subst e
      refine go_aloadn dX9_thing_44 rfl ?_
      refine sg_getR dX9_thing_45 fX9_31 rfl (wo_L rfl) hS hbc ?_
      refine sg_getR dX9_thing_48 fX9_199 rfl (ct_L hc) hS (ct_r8 hS hc) ?_
      refine go_iloadn dX9_thing_51 rfl ?_
      refine sg_ialdN (i := p) dX9_thing_52 (ct_8 hc) hS (by simp only [lit_nI, nI_add, pk_mul, Nat.add_assoc, Nat.zero_add, Nat.add_zero]) (by omega) (H.2.1.2.2.1 p hp) ?_
      refine go_ireturn dX9_thing_53 rfl rfl (Nat.zero_le _) (Nat.zero_le _) ?_
      exact ⟨⟨rfl, rfl⟩, Fq.rf⟩
    | 1, _, c11 =>
      have e := (nI_eq (by omega) (by omega)).mp c11
      subst e
      refine go_aloadn dX9_thing_54 rfl ?_
      refine sg_getR dX9_thing_55 fX9_41 rfl (wo_L rfl) hS (wo_r7 hS rfl) ?_
      refine sg_getR dX9_thing_58 fX9_202 rfl (tw_L (at30)) hS (tw_r6 hS (at30)) ?_
      refine go_iloadn dX9_thing_61 rfl ?_
      refine sg_ialdN (i := p) dX9_thing_62 (tw_6 (at30)) hS (by simp only [lit_nI, nI_add, pk_mul, Nat.add_assoc, Nat.zero_add, Nat.add_zero]) (by omega) ((H.2.2.1 p hp).2.2.2) ?_
      refine go_ireturn dX9_thing_63 rfl rfl (Nat.zero_le _) (Nat.zero_le _) ?_
      exact ⟨⟨rfl, rfl⟩, Fq.rf⟩
    | 2, _, c11 =>
      have e := (nI_eq (by omega) (by omega)).mp c11
      subst e
      refine go_aloadn dX9_thing_64 rfl ?_
      refine sg_getR dX9_thing_65 fX9_41 rfl (wo_L rfl) hS (wo_r7 hS rfl) ?_
      refine sg_getR dX9_thing_68 fX9_205 rfl (tw_L (at30)) hS (tw_r7 hS (at30)) ?_
      refine go_iloadn dX9_thing_71 rfl ?_
      refine sg_ialdN (i := p) dX9_thing_72 (tw_7 (at30)) hS (by simp only [lit_nI, nI_add, pk_mul, Nat.add_assoc, Nat.zero_add, Nat.add_zero]) (by omega) ((H.2.2.1 p hp).1) ?_
      refine go_ireturn dX9_thing_73 rfl rfl (Nat.zero_le _) (Nat.zero_le _) ?_
      exact ⟨⟨rfl, rfl⟩, Fq.rf⟩
    | 3, _, c11 =>
      have e := (nI_eq (by omega) (by omega)).mp c11
      subst e
      refine go_aloadn dX9_thing_74 rfl ?_
      refine sg_getR dX9_thing_75 fX9_41 rfl (wo_L rfl) hS (wo_r7 hS rfl) ?_
      refine sg_getR dX9_thing_78 fX9_208 rfl (tw_L (at30)) hS (tw_r8 hS (at30)) ?_
      refine go_iloadn dX9_thing_81 rfl ?_
      refine sg_ialdN (i := p) dX9_thing_82 (tw_8 (at30)) hS (by simp only [lit_nI, nI_add, pk_mul, Nat.add_assoc, Nat.zero_add, Nat.add_zero]) (by omega) ((H.2.2.1 p hp).2.1) ?_
      refine go_ireturn dX9_thing_83 rfl rfl (Nat.zero_le _) (Nat.zero_le _) ?_
      exact ⟨⟨rfl, rfl⟩, Fq.rf⟩
    | 4, _, c11 =>
      have e := (nI_eq (by omega) (by omega)).mp c11
      subst e
      refine go_aloadn dX9_thing_84 rfl ?_
      refine sg_getR dX9_thing_85 fX9_41 rfl (wo_L rfl) hS (wo_r7 hS rfl) ?_
      refine sg_getR dX9_thing_88 fX9_211 rfl (tw_L (at30)) hS (tw_r9 hS (at30)) ?_
      refine go_iloadn dX9_thing_91 rfl ?_
      refine sg_ialdN (i := p) dX9_thing_92 (tw_9 (at30)) hS (by simp only [lit_nI, nI_add, pk_mul, Nat.add_assoc, Nat.zero_add, Nat.add_zero]) (by omega) ((H.2.2.1 p hp).2.2.1) ?_
      refine go_ireturn dX9_thing_93 rfl rfl (Nat.zero_le _) (Nat.zero_le _) ?_
      exact ⟨⟨rfl, rfl⟩, Fq.rf⟩
    | (i + 5), hi, _ => exact absurd hi (by omega)
theorem r_lk30 {l : Launch} {d c fs fr p dd : Nat} {C : Cy} {T : Tn} {h : Hp} (W : WC C) (H : TV h 30 c fs fr C T) (hp : p < cP C) (hd : dd < 2 ^ 31) : Ey l (d + 3) mX6_lookersOn [.ref 30, .int (nI p), .int (nI dd)] h (some (.int (lkT C T p dd))) (Fc h) := by
  have := (r_lookers (l := l) (d := d) H.1.1 H.1.2.1 hp hd).mono (fun g q => Fts q)
  rw [lkA_lkT W H.2.1 H.2.2 hp] at this
  exact this
def vWhere (C : Cy) (T : Tn) (x k w : Int32) : An := nd (okX (cP C) x) 1 (nd (0 ≤ w ∧ w ≤ 1) 1 (nd (1 ≤ k ∧ k ≤ 100) 2 (0, if w = 0 then plT C T x.toNatClampNeg (tD T + (k.toNatClampNeg - 1)) else lkT C T x.toNatClampNeg (tD T + (k.toNatClampNeg - 1)))))
theorem k_where {l : Launch} {d c fs fr : Nat} {z x k w : Int32} {C : Cy} {T : Tn} {h : Hp} (hl : l.stackTraces = false) (W : WC C) (K : KB h c fs fr z C T) (hD9 : tD T ≤ 9999) : Qc l (d + 7) mX9_where [.ref 0, .int x, .int k, .int w] h (vWhere C T x k w) nNSE nIAE := by
  obtain ⟨hbc, H, hv⟩ := K
  obtain ⟨hc, -, hS⟩ := H.hc
  have hpe := H.1.1.2.2.2.2.2.2.1
  have hP := W.1.2.1
  have hD := H.1.2.2.2.2.1
  refine run_lv [some (.ref 0), some (.int x), some (.int k), some (.int w), none] (go := ?_)
  unfold vWhere
  refine go_aloadn dX9_where_0 rfl ?_
  refine go_iloadn dX9_where_1 rfl ?_
  refine sg_ndV (M' := mX9_needPerson) ([.int x]) dX9_where_2 lX9_165 vX9_needPerson (wo_L rfl) (by decide) rfl hS (r_needPerson hl hS hc hbc hpe).1 (r_needPerson hl hS hc hbc hpe).2 (Or.inl ⟨rfl, rfl⟩) Fq.rf (by decide) rfl rfl (Nat.le_of_ble_eq_true rfl) (fun k2 => ?_)
  refine go_iloadn dX9_where_5 rfl ?_
  refine go_iconst (v := 1) dX9_where_6 rfl ?_
  refine sg_ndS (M' := mX9_needWhat) ([.int w, .int 1]) dX9_where_7 lX9_131 sX9_needWhat hS (r_needWhat hl hS).1 (r_needWhat hl hS).2 (Or.inl ⟨rfl, rfl⟩) Fq.rf (by decide) rfl rfl (Nat.le_of_ble_eq_true rfl) (fun k7 => ?_)
  refine go_iloadn dX9_where_10 rfl ?_
  refine go_iconst (v := 1) dX9_where_11 rfl ?_
  refine go_bipush (v := 100) dX9_where_12 rfl ?_
  refine sg_ndS (M' := mX9_needWithin) ([.int k, .int 1, .int 100]) dX9_where_14 lX9_244 sX9_needWithin hS (r_needWithin hl hS).1 (r_needWithin hl hS).2 (Or.inr ⟨rfl, rfl⟩) Fq.rf (by decide) rfl rfl (Nat.le_of_ble_eq_true rfl) (fun k14 => ?_)
  obtain ⟨p, hp, rfl⟩ := ok_nI (by omega) k2
  obtain ⟨j, hj1, hj, rfl⟩ := rg_nI (a := 1) (b := 100) rfl rfl (by decide) (by decide) k14
  obtain ⟨i, rfl⟩ : ∃ i, j = i + 1 := ⟨j - 1, by omega⟩
  rw [cl_nI (show p < 2 ^ 31 by omega), cl_nI (show i + 1 < 2 ^ 31 by omega), Nat.add_sub_cancel]
  refine go_aloadn dX9_where_17 rfl ?_
  refine sg_getR dX9_where_18 fX9_41 rfl (wo_L rfl) hS (wo_r7 hS rfl) ?_
  refine sg_getI dX9_where_21 fX9_147 rfl (tw_L (at30)) hS ?_
  rw [hD]
  refine go_iloadn dX9_where_24 rfl ?_
  refine go_iadd dX9_where_25 ?_
  refine go_iconst (v := 1) dX9_where_26 rfl ?_
  refine go_isub dX9_where_27 ?_
  rw [nI_cs]
  refine go_ist4 dX9_where_28 rfl ?_
  refine go_iloadn dX9_where_30 rfl ?_
  refine go_if_ne (tgt := 47) dX9_where_31 (by decide) (fun c31 => ?_) (fun c31 => ?_)
  · refine go_aloadn dX9_where_47 rfl ?_
    refine sg_getR dX9_where_48 fX9_41 rfl (wo_L rfl) hS (wo_r7 hS rfl) ?_
    refine go_iloadn dX9_where_51 rfl ?_
    refine go_iload dX9_where_52 rfl ?_
    refine sg_rVi (M' := mX6_lookersOn) ([.int (nI p), .int (nI (tD T + i))]) dX9_where_54 lX9_268 vX6_lookersOn (tw_L (at30)) (by decide) rfl hS (r_lk30 W H hp (by omega)) rfl (Nat.le_of_ble_eq_true rfl) (Nat.zero_le _) (Nat.zero_le _) (fun g F => ?_)
    refine go_ireturn dX9_where_57 rfl rfl (Nat.zero_le _) (Nat.zero_le _) ?_
    first | exact ⟨⟨rfl, by rw [if_pos c31]; rfl⟩, Fq.rf⟩ | exact ⟨⟨rfl, by rw [if_neg c31]; rfl⟩, F⟩
  · refine go_aloadn dX9_where_34 rfl ?_
    refine sg_getR dX9_where_35 fX9_41 rfl (wo_L rfl) hS (wo_r7 hS rfl) ?_
    refine go_iloadn dX9_where_38 rfl ?_
    refine go_iload dX9_where_39 rfl ?_
    refine sg_cVi (M' := mX6_placeOn) ([.int (nI p), .int (nI (tD T + i))]) dX9_where_41 lX9_171 vX6_placeOn (tw_L (at30)) (by decide) rfl hS (r_pl W H hp (by omega)) rfl (Nat.le_of_ble_eq_true rfl) (Nat.zero_le _) (Nat.zero_le _) ?_
    refine go_goto (tgt := 57) dX9_where_44 (by decide) ?_
    refine go_ireturn dX9_where_57 rfl rfl (Nat.zero_le _) (Nat.zero_le _) ?_
    first | exact ⟨⟨rfl, by rw [if_pos c31]; rfl⟩, Fq.rf⟩ | exact ⟨⟨rfl, by rw [if_neg c31]; rfl⟩, F⟩
def vThen (C : Cy) (T : Tn) (x n w : Int32) : An := nd (okX (cN C) x) 1 (nd (0 ≤ w ∧ w ≤ 2) 1 (nd (0 ≤ n ∧ n ≤ 100) 2 (0, if w = 0 then tB (dnT C (t0 T) n.toNatClampNeg) x.toNatClampNeg else if w = 1 then tO (dnT C (t0 T) n.toNatClampNeg) x.toNatClampNeg else tS (dnT C (t0 T) n.toNatClampNeg) x.toNatClampNeg)))
theorem k_then {l : Launch} {d c fs fr : Nat} {z x n w : Int32} {C : Cy} {T : Tn} {h : Hp} (hl : l.stackTraces = false) (W : WC C) (K : KB h c fs fr z C T) (hD9 : tD T ≤ 9999) : Qc l (d + 8) mX9_then [.ref 0, .int x, .int n, .int w] h (vThen C T x n w) nNSE nIAE := by
  obtain ⟨hbc, H, hv⟩ := K
  obtain ⟨hc, -, hS⟩ := H.hc
  have hth := H.1.1.2.2.2.2.1
  have hN1 := W.1.1
  have hD9' : tD (sX z T) ≤ 9999 := hD9
  refine run_lv [some (.ref 0), some (.int x), some (.int n), some (.int w), none] (go := ?_)
  unfold vThen
  refine go_aloadn dX9_then_0 rfl ?_
  refine go_iloadn dX9_then_1 rfl ?_
  refine sg_ndV (M' := mX9_needThing) ([.int x]) dX9_then_2 lX9_196 vX9_needThing (wo_L rfl) (by decide) rfl hS (r_needThing hl hS hc hbc hth).1 (r_needThing hl hS hc hbc hth).2 (Or.inl ⟨rfl, rfl⟩) Fq.rf (by decide) rfl rfl (Nat.le_of_ble_eq_true rfl) (fun k2 => ?_)
  refine go_iloadn dX9_then_5 rfl ?_
  refine go_iconst (v := 2) dX9_then_6 rfl ?_
  refine sg_ndS (M' := mX9_needWhat) ([.int w, .int 2]) dX9_then_7 lX9_131 sX9_needWhat hS (r_needWhat hl hS).1 (r_needWhat hl hS).2 (Or.inl ⟨rfl, rfl⟩) Fq.rf (by decide) rfl rfl (Nat.le_of_ble_eq_true rfl) (fun k7 => ?_)
  refine go_iloadn dX9_then_10 rfl ?_
  refine go_iconst (v := 0) dX9_then_11 rfl ?_
  refine go_bipush (v := 100) dX9_then_12 rfl ?_
  refine sg_ndS (M' := mX9_needWithin) ([.int n, .int 0, .int 100]) dX9_then_14 lX9_244 sX9_needWithin hS (r_needWithin hl hS).1 (r_needWithin hl hS).2 (Or.inr ⟨rfl, rfl⟩) Fq.rf (by decide) rfl rfl (Nat.le_of_ble_eq_true rfl) (fun k14 => ?_)
  obtain ⟨p, hp, rfl⟩ := ok_nI (by omega) k2
  obtain ⟨j, -, hj, rfl⟩ := rg_nI (a := 0) (b := 100) rfl rfl (by decide) (by decide) k14
  rw [cl_nI (show p < 2 ^ 31 by omega), cl_nI (show j < 2 ^ 31 by omega)]
  refine go_aloadn dX9_then_17 rfl ?_
  refine sg_getR dX9_then_18 fX9_71 rfl (wo_L rfl) hS (wo_r14 hS rfl) ?_
  refine go_aloadn dX9_then_21 rfl ?_
  refine sg_getR dX9_then_22 fX9_41 rfl (wo_L rfl) hS (wo_r7 hS rfl) ?_
  refine go_iloadn dX9_then_25 rfl ?_
  refine sg_rVi (M' := mX7_behind) ([.ref 30, .int (nI j)]) dX9_then_26 lX9_248 vX7_behind (tr_L (rfl)) (by decide) rfl hS (r_behind W H (by omega)) rfl (Nat.le_of_ble_eq_true rfl) (Nat.zero_le _) (Nat.zero_le _) (fun g F => ?_)
  have hS := F.2.hc.2.2
  refine go_ast4 dX9_then_29 rfl ?_
  refine go_iloadn dX9_then_31 rfl ?_
  refine go_if_ne (tgt := 43) dX9_then_32 (by decide) (fun c32 => ?_) (fun c32 => ?_)
  · refine go_iloadn dX9_then_43 rfl ?_
    refine go_iconst (v := 1) dX9_then_44 rfl ?_
    refine go_icmp_ne (tgt := 58) dX9_then_45 (by decide) (fun c45 => ?_) (fun c45 => ?_)
    · refine go_aload dX9_then_58 rfl ?_
      refine sg_getR dX9_then_60 fX9_211 rfl (tw_L at56) hS (tw_r9 hS at56) ?_
      refine go_iloadn dX9_then_63 rfl ?_
      refine sg_ialdN (i := p) dX9_then_64 (tw_9 at56) hS (by simp only [lit_nI, nI_add, pk_mul, Nat.add_assoc, Nat.zero_add, Nat.add_zero]) (by omega) ((F.2.2.2.1 p hp).2.2.1) ?_
      refine go_ireturn dX9_then_65 rfl rfl (Nat.zero_le _) (Nat.zero_le _) ?_
      first | exact ⟨⟨rfl, by rw [if_pos c32]; rfl⟩, F6c F.1⟩ | exact ⟨⟨rfl, by rw [if_neg c32, if_pos c45]; rfl⟩, F6c F.1⟩ | exact ⟨⟨rfl, by rw [if_neg c32, if_neg c45]; rfl⟩, F6c F.1⟩
    · refine go_aload dX9_then_48 rfl ?_
      refine sg_getR dX9_then_50 fX9_205 rfl (tw_L at56) hS (tw_r7 hS at56) ?_
      refine go_iloadn dX9_then_53 rfl ?_
      refine sg_ialdN (i := p) dX9_then_54 (tw_7 at56) hS (by simp only [lit_nI, nI_add, pk_mul, Nat.add_assoc, Nat.zero_add, Nat.add_zero]) (by omega) ((F.2.2.2.1 p hp).1) ?_
      refine go_goto (tgt := 65) dX9_then_55 (by decide) ?_
      refine go_ireturn dX9_then_65 rfl rfl (Nat.zero_le _) (Nat.zero_le _) ?_
      first | exact ⟨⟨rfl, by rw [if_pos c32]; rfl⟩, F6c F.1⟩ | exact ⟨⟨rfl, by rw [if_neg c32, if_pos c45]; rfl⟩, F6c F.1⟩ | exact ⟨⟨rfl, by rw [if_neg c32, if_neg c45]; rfl⟩, F6c F.1⟩
  · refine go_aload dX9_then_35 rfl ?_
    refine sg_getR dX9_then_37 fX9_208 rfl (tw_L at56) hS (tw_r8 hS at56) ?_
    refine go_iloadn dX9_then_40 rfl ?_
    refine sg_ialdN (i := p) dX9_then_41 (tw_8 at56) hS (by simp only [lit_nI, nI_add, pk_mul, Nat.add_assoc, Nat.zero_add, Nat.add_zero]) (by omega) ((F.2.2.2.1 p hp).2.1) ?_
    refine go_ireturn dX9_then_42 rfl rfl (Nat.zero_le _) (Nat.zero_le _) ?_
    first | exact ⟨⟨rfl, by rw [if_pos c32]; rfl⟩, F6c F.1⟩ | exact ⟨⟨rfl, by rw [if_neg c32, if_pos c45]; rfl⟩, F6c F.1⟩ | exact ⟨⟨rfl, by rw [if_neg c32, if_neg c45]; rfl⟩, F6c F.1⟩
def vLater (C : Cy) (T : Tn) (x n w : Int32) : An := nd (okX (cP C) x) 1 (nd (0 ≤ w ∧ w ≤ 1) 1 (nd (0 ≤ n ∧ n ≤ 100) 2 (0, if w = 0 then tH (dnT C (t0 T) n.toNatClampNeg) x.toNatClampNeg else weT C (dnT C (t0 T) n.toNatClampNeg) x.toNatClampNeg)))
theorem k_later {l : Launch} {d c fs fr : Nat} {z x n w : Int32} {C : Cy} {T : Tn} {h : Hp} (hl : l.stackTraces = false) (W : WC C) (K : KB h c fs fr z C T) (hD9 : tD T ≤ 9999) : Qc l (d + 8) mX9_later [.ref 0, .int x, .int n, .int w] h (vLater C T x n w) nNSE nIAE := by
  obtain ⟨hbc, H, hv⟩ := K
  obtain ⟨hc, -, hS⟩ := H.hc
  have hpe := H.1.1.2.2.2.2.2.2.1
  have hP := W.1.2.1
  have hD9' : tD (sX z T) ≤ 9999 := hD9
  refine run_lv [some (.ref 0), some (.int x), some (.int n), some (.int w), none] (go := ?_)
  unfold vLater
  refine go_aloadn dX9_later_0 rfl ?_
  refine go_iloadn dX9_later_1 rfl ?_
  refine sg_ndV (M' := mX9_needPerson) ([.int x]) dX9_later_2 lX9_165 vX9_needPerson (wo_L rfl) (by decide) rfl hS (r_needPerson hl hS hc hbc hpe).1 (r_needPerson hl hS hc hbc hpe).2 (Or.inl ⟨rfl, rfl⟩) Fq.rf (by decide) rfl rfl (Nat.le_of_ble_eq_true rfl) (fun k2 => ?_)
  refine go_iloadn dX9_later_5 rfl ?_
  refine go_iconst (v := 1) dX9_later_6 rfl ?_
  refine sg_ndS (M' := mX9_needWhat) ([.int w, .int 1]) dX9_later_7 lX9_131 sX9_needWhat hS (r_needWhat hl hS).1 (r_needWhat hl hS).2 (Or.inl ⟨rfl, rfl⟩) Fq.rf (by decide) rfl rfl (Nat.le_of_ble_eq_true rfl) (fun k7 => ?_)
  refine go_iloadn dX9_later_10 rfl ?_
  refine go_iconst (v := 0) dX9_later_11 rfl ?_
  refine go_bipush (v := 100) dX9_later_12 rfl ?_
  refine sg_ndS (M' := mX9_needWithin) ([.int n, .int 0, .int 100]) dX9_later_14 lX9_244 sX9_needWithin hS (r_needWithin hl hS).1 (r_needWithin hl hS).2 (Or.inr ⟨rfl, rfl⟩) Fq.rf (by decide) rfl rfl (Nat.le_of_ble_eq_true rfl) (fun k14 => ?_)
  obtain ⟨p, hp, rfl⟩ := ok_nI (by omega) k2
  obtain ⟨j, -, hj, rfl⟩ := rg_nI (a := 0) (b := 100) rfl rfl (by decide) (by decide) k14
  rw [cl_nI (show p < 2 ^ 31 by omega), cl_nI (show j < 2 ^ 31 by omega)]
  refine go_aloadn dX9_later_17 rfl ?_
  refine sg_getR dX9_later_18 fX9_71 rfl (wo_L rfl) hS (wo_r14 hS rfl) ?_
  refine go_aloadn dX9_later_21 rfl ?_
  refine sg_getR dX9_later_22 fX9_41 rfl (wo_L rfl) hS (wo_r7 hS rfl) ?_
  refine go_iloadn dX9_later_25 rfl ?_
  refine sg_rVi (M' := mX7_behind) ([.ref 30, .int (nI j)]) dX9_later_26 lX9_248 vX7_behind (tr_L (rfl)) (by decide) rfl hS (r_behind W H (by omega)) rfl (Nat.le_of_ble_eq_true rfl) (Nat.zero_le _) (Nat.zero_le _) (fun g F => ?_)
  have hS := F.2.hc.2.2
  refine go_ast4 dX9_later_29 rfl ?_
  refine go_iloadn dX9_later_31 rfl ?_
  refine go_if_ne (tgt := 45) dX9_later_32 (by decide) (fun c32 => ?_) (fun c32 => ?_)
  · refine go_aload dX9_later_45 rfl ?_
    refine go_iloadn dX9_later_47 rfl ?_
    refine sg_cVi (M' := mX6_wealth) ([.int (nI p)]) dX9_later_48 lX9_190 vX6_wealth (tw_L at56) (by decide) rfl hS (r_wealth F.2.1.1) rfl (Nat.le_of_ble_eq_true rfl) (Nat.zero_le _) (Nat.zero_le _) ?_
    refine go_ireturn dX9_later_51 rfl rfl (Nat.zero_le _) (Nat.zero_le _) ?_
    first | exact ⟨⟨rfl, by rw [if_pos c32]; rfl⟩, F6c F.1⟩ | exact ⟨⟨rfl, by rw [if_neg c32, ow_TV F.2, wt_TV F.2]; rfl⟩, F6c F.1⟩
  · refine go_aload dX9_later_35 rfl ?_
    refine sg_getR dX9_later_37 fX9_174 rfl (tw_L at56) hS (tw_r4 hS at56) ?_
    refine go_iloadn dX9_later_40 rfl ?_
    refine sg_ialdN (i := p) dX9_later_41 (tw_4 at56) hS (by simp only [lit_nI, nI_add, pk_mul, Nat.add_assoc, Nat.zero_add, Nat.add_zero]) (by omega) ((F.2.2.2.2.1 p hp).1) ?_
    refine go_goto (tgt := 51) dX9_later_42 (by decide) ?_
    refine go_ireturn dX9_later_51 rfl rfl (Nat.zero_le _) (Nat.zero_le _) ?_
    first | exact ⟨⟨rfl, by rw [if_pos c32]; rfl⟩, F6c F.1⟩ | exact ⟨⟨rfl, by rw [if_neg c32, ow_TV F.2, wt_TV F.2]; rfl⟩, F6c F.1⟩
def vWhen (C : Cy) (T : Tn) (x w : Int32) : An := nd (okX (cN C) x) 1 (nd (0 ≤ w ∧ w ≤ 1) 1 (0, eoT C (t0 T) x.toNatClampNeg (if w = 0 then 1 else 0)))
theorem k_when {l : Launch} {d c fs fr : Nat} {z x w : Int32} {C : Cy} {T : Tn} {h : Hp} (hl : l.stackTraces = false) (W : WC C) (K : KB h c fs fr z C T) (hD9 : tD T ≤ 9999) : Qc l (d + 8) mX9_when [.ref 0, .int x, .int w] h (vWhen C T x w) nNSE nIAE := by
  obtain ⟨hbc, H, hv⟩ := K
  obtain ⟨hc, -, hS⟩ := H.hc
  have hth := H.1.1.2.2.2.2.1
  have hN1 := W.1.1
  have hD9' : tD (t0 (sX z T)) ≤ 9999 := hD9
  refine run_lv [some (.ref 0), some (.int x), some (.int w)] (go := ?_)
  unfold vWhen
  refine go_aloadn dX9_when_0 rfl ?_
  refine go_iloadn dX9_when_1 rfl ?_
  refine sg_ndV (M' := mX9_needThing) ([.int x]) dX9_when_2 lX9_196 vX9_needThing (wo_L rfl) (by decide) rfl hS (r_needThing hl hS hc hbc hth).1 (r_needThing hl hS hc hbc hth).2 (Or.inl ⟨rfl, rfl⟩) Fq.rf (by decide) rfl rfl (Nat.le_of_ble_eq_true rfl) (fun k2 => ?_)
  refine go_iloadn dX9_when_5 rfl ?_
  refine go_iconst (v := 1) dX9_when_6 rfl ?_
  refine sg_ndS (M' := mX9_needWhat) ([.int w, .int 1]) dX9_when_7 lX9_131 sX9_needWhat hS (r_needWhat hl hS).1 (r_needWhat hl hS).2 (Or.inl ⟨rfl, rfl⟩) Fq.rf (by decide) rfl rfl (Nat.le_of_ble_eq_true rfl) (fun k7 => ?_)
  obtain ⟨p, hp, rfl⟩ := ok_nI (by omega) k2
  rw [cl_nI (show p < 2 ^ 31 by omega)]
  refine go_aloadn dX9_when_10 rfl ?_
  refine sg_getR dX9_when_11 fX9_71 rfl (wo_L rfl) hS (wo_r14 hS rfl) ?_
  refine go_aloadn dX9_when_14 rfl ?_
  refine sg_getR dX9_when_15 fX9_41 rfl (wo_L rfl) hS (wo_r7 hS rfl) ?_
  refine sg_rV0 (M' := mX7_start) ([.ref 30]) dX9_when_18 lX9_252 vX7_start (tr_L (rfl)) (by decide) rfl hS (r_start H) rfl (Nat.le_of_ble_eq_true rfl) (Nat.zero_le _) (Nat.zero_le _) (fun g F => ?_)
  have hS := F.2.hc.2.2
  refine go_aloadn dX9_when_21 rfl ?_
  refine sg_getR dX9_when_22 fX9_71 rfl (wo_L rfl) hS (wo_r14 hS rfl) ?_
  refine go_iloadn dX9_when_25 rfl ?_
  refine go_iloadn dX9_when_26 rfl ?_
  refine go_if_ne (tgt := 34) dX9_when_27 (by decide) (fun c27 => ?_) (fun c27 => ?_)
  · refine go_iconst (v := 0) dX9_when_34 rfl ?_
    refine sg_rVi (M' := mX7_endOfWearing) ([.int (nI p), .int _]) dX9_when_35 lX9_255 vX7_endOfWearing (tr_L (rfl)) (by decide) rfl hS (r_endOfWearing W F.2 (by omega) hp) rfl (Nat.le_of_ble_eq_true rfl) (Nat.zero_le _) (Nat.zero_le _) (fun g2 F2 => ?_)
    refine go_ireturn dX9_when_38 rfl rfl (Nat.zero_le _) (Nat.zero_le _) ?_
    first | exact ⟨⟨rfl, by rw [if_pos c27]; rfl⟩, F6c (F.1.tr F2)⟩ | exact ⟨⟨rfl, by rw [if_neg c27]; rfl⟩, F6c (F.1.tr F2)⟩
  · refine go_iconst (v := 1) dX9_when_30 rfl ?_
    refine go_goto (tgt := 35) dX9_when_31 (by decide) ?_
    refine sg_rVi (M' := mX7_endOfWearing) ([.int (nI p), .int _]) dX9_when_35 lX9_255 vX7_endOfWearing (tr_L (rfl)) (by decide) rfl hS (r_endOfWearing W F.2 (by omega) hp) rfl (Nat.le_of_ble_eq_true rfl) (Nat.zero_le _) (Nat.zero_le _) (fun g2 F2 => ?_)
    refine go_ireturn dX9_when_38 rfl rfl (Nat.zero_le _) (Nat.zero_le _) ?_
    first | exact ⟨⟨rfl, by rw [if_pos c27]; rfl⟩, F6c (F.1.tr F2)⟩ | exact ⟨⟨rfl, by rw [if_neg c27]; rfl⟩, F6c (F.1.tr F2)⟩
def vAll (C : Cy) (T : Tn) (n w : Int32) : An := nd (0 ≤ w ∧ w ≤ 3) 1 (nd (0 ≤ n ∧ n ≤ 100) 2 (0, if w = 0 then beF (fun _ => True) (weT C (dnT C (t0 T) n.toNatClampNeg)) (cP C) else if w = 1 then beF (fun _ => True) (tH (dnT C (t0 T) n.toNatClampNeg)) (cP C) else if w = 2 then woT C (dnT C (t0 T) n.toNatClampNeg) else tC (dnT C (t0 T) n.toNatClampNeg)))
theorem k_all {l : Launch} {d c fs fr : Nat} {z n w : Int32} {C : Cy} {T : Tn} {h : Hp} (hl : l.stackTraces = false) (W : WC C) (K : KB h c fs fr z C T) (hD9 : tD T ≤ 9999) : Qc l (d + 8) mX9_all [.ref 0, .int n, .int w] h (vAll C T n w) nNSE nIAE := by
  obtain ⟨hbc, H, hv⟩ := K
  obtain ⟨hc, -, hS⟩ := H.hc
  have hP := W.1.2.1
  have hN1 := W.1.1
  have hD9' : tD (sX z T) ≤ 9999 := hD9
  refine run_lv [some (.ref 0), some (.int n), some (.int w), none] (go := ?_)
  unfold vAll
  refine go_iloadn dX9_all_0 rfl ?_
  refine go_iconst (v := 3) dX9_all_1 rfl ?_
  refine sg_ndS (M' := mX9_needWhat) ([.int w, .int 3]) dX9_all_2 lX9_131 sX9_needWhat hS (r_needWhat hl hS).1 (r_needWhat hl hS).2 (Or.inl ⟨rfl, rfl⟩) Fq.rf (by decide) rfl rfl (Nat.le_of_ble_eq_true rfl) (fun k2 => ?_)
  refine go_iloadn dX9_all_5 rfl ?_
  refine go_iconst (v := 0) dX9_all_6 rfl ?_
  refine go_bipush (v := 100) dX9_all_7 rfl ?_
  refine sg_ndS (M' := mX9_needWithin) ([.int n, .int 0, .int 100]) dX9_all_9 lX9_244 sX9_needWithin hS (r_needWithin hl hS).1 (r_needWithin hl hS).2 (Or.inr ⟨rfl, rfl⟩) Fq.rf (by decide) rfl rfl (Nat.le_of_ble_eq_true rfl) (fun k9 => ?_)
  obtain ⟨i, -, hi, rfl⟩ := rg_nI (a := 0) (b := 3) rfl rfl (by decide) (by decide) k2
  obtain ⟨j, -, hj, rfl⟩ := rg_nI (a := 0) (b := 100) rfl rfl (by decide) (by decide) k9
  rw [cl_nI (show j < 2 ^ 31 by omega)]
  refine go_aloadn dX9_all_12 rfl ?_
  refine sg_getR dX9_all_13 fX9_71 rfl (wo_L rfl) hS (wo_r14 hS rfl) ?_
  refine go_aloadn dX9_all_16 rfl ?_
  refine sg_getR dX9_all_17 fX9_41 rfl (wo_L rfl) hS (wo_r7 hS rfl) ?_
  refine go_iloadn dX9_all_20 rfl ?_
  refine sg_rVi (M' := mX7_behind) ([.ref 30, .int (nI j)]) dX9_all_21 lX9_248 vX7_behind (tr_L (rfl)) (by decide) rfl hS (r_behind W H (by omega)) rfl (Nat.le_of_ble_eq_true rfl) (Nat.zero_le _) (Nat.zero_le _) (fun g F => ?_)
  have hS := F.2.hc.2.2
  refine go_ast3 dX9_all_24 rfl ?_
  refine go_iloadn dX9_all_25 rfl ?_
  refine go_tab 3 0 67 [52, 57, 62] dX9_all_26 rfl rfl rfl rfl rfl (by decide) (fun c26 => ?_) (fun i hi c26 => ?_)
  · have e := kd_eq (by decide) hi c26
    subst e
    refine go_aloadn dX9_all_67 rfl ?_
    refine sg_getI dX9_all_68 fX9_265 rfl (tw_L at56) hS ?_
    rw [F.2.2.2.2.2.2]
    refine go_ireturn dX9_all_71 rfl rfl (Nat.zero_le _) (Nat.zero_le _) ?_
    exact ⟨⟨rfl, rfl⟩, F6c F.1⟩
  · match i, hi, c26 with
    | 0, _, c26 =>
      have e := (nI_eq (by omega) (by omega)).mp c26
      subst e
      refine go_aloadn dX9_all_52 rfl ?_
      refine sg_cVi (M' := mX6_richest) ([]) dX9_all_53 lX9_259 vX6_richest (tw_L at56) (by decide) rfl hS (r_richest F.2.1.1) rfl (Nat.le_of_ble_eq_true rfl) (Nat.zero_le _) (Nat.zero_le _) ?_
      refine go_ireturn dX9_all_56 rfl rfl (Nat.zero_le _) (Nat.zero_le _) ?_
      exact ⟨⟨rfl, congrArg (fun z => some (Value.int z)) (beF_cong (by omega) (fun _ _ => Iff.rfl) (fun t ht => by show weF g 56 c (cN C) (nI t) = _; rw [weF, ow_TV F.2, wt_TV F.2]; rfl))⟩, F6c F.1⟩
    | 1, _, c26 =>
      have e := (nI_eq (by omega) (by omega)).mp c26
      subst e
      refine go_aloadn dX9_all_57 rfl ?_
      refine sg_cVi (M' := mX6_mostAshamed) ([]) dX9_all_58 lX9_262 vX6_mostAshamed (tw_L at56) (by decide) rfl hS (r_mostAshamed F.2.1.1) rfl (Nat.le_of_ble_eq_true rfl) (Nat.zero_le _) (Nat.zero_le _) ?_
      refine go_ireturn dX9_all_61 rfl rfl (Nat.zero_le _) (Nat.zero_le _) ?_
      exact ⟨⟨rfl, congrArg (fun z => some (Value.int z)) (beF_cong (by omega) (fun _ _ => Iff.rfl) (fun t ht => (F.2.2.2.2.1 t ht).1))⟩, F6c F.1⟩
    | 2, _, c26 =>
      have e := (nI_eq (by omega) (by omega)).mp c26
      subst e
      refine go_aloadn dX9_all_62 rfl ?_
      refine sg_cVi (M' := mX6_wornBits) ([]) dX9_all_63 lX9_150 vX6_wornBits (tw_L at56) (by decide) rfl hS (r_wornBits F.2.1.1) rfl (Nat.le_of_ble_eq_true rfl) (Nat.zero_le _) (Nat.zero_le _) ?_
      refine go_ireturn dX9_all_66 rfl rfl (Nat.zero_le _) (Nat.zero_le _) ?_
      exact ⟨⟨rfl, congrArg (fun z => some (Value.int z)) (wo_TV F.2)⟩, F6c F.1⟩
    | (i + 3), hi, _ => exact absurd hi (by omega)
