/-! the class's city: all of it -/
theorem yi_fin {b : Nat → Nat} {n : Nat} : ∀ (k : Nat) (Y : Ry), n + 1 - yS Y ≤ k → (yF Y).1 = 0 → YI n Y → (yF (yFin b n Y)).1 = 0 → YI n (yFin b n Y) := by
  intro k
  induction k with
  | zero => intro Y hk _ I; have := I.1.1.1; omega
  | succ k ih =>
    intro Y hk f0 I h
    by_cases z : tkK b n (yS Y) = 0
    · rw [yfin_t (fun q => q.2 z)]; exact I
    · rw [← yfin_l f0 z] at h ⊢
      by_cases y : (yF (yLine b n Y)).1 = 0
      · obtain ⟨I2, lt⟩ := yi_line I y
        exact ih (yLine b n Y) (by omega) y I2 h
      · rw [yfin_t (fun q => y q.1)] at h; exact absurd h y
theorem cy_ok {S : Sx} {n : Nat} (n7 : n ≤ 700) (h : (yF (cyY S n)).1 = 0) : YI n (cyY S n) := by
  have sn : tkW (sP S).2 n 0 ≤ n := (spn_ok (p := fun j => isW ((sP S).2 j)) (n := n) (i := 0)).2.2.2 (Nat.zero_le _)
  exact yi_fin (n + 1) _ (by show n + 1 - tkW (sP S).2 n 0 ≤ n + 1; omega) rfl (yi_00 sn n7) h
theorem on_3 {b : Nat → Nat} {n s m : Nat} : onF b n s m ≤ 3 := by
  unfold onF; split; split; decide; split <;> decide; decide
theorem nm_2' {b : Nat → Nat} {n s lo hi : Nat} : nmF b n s lo hi ≤ 2 := by
  unfold nmF; split; split <;> decide; decide
theorem end_5 {b : Nat → Nat} {n s : Nat} {Y : Ry} (h : (yF Y).1 ≤ 5) : (yF (yEnd b n Y s)).1 ≤ 5 := by
  unfold yEnd
  split
  · exact h
  · show 1 ≤ 5; decide
theorem rule_5 {b : Nat → Nat} {n sh : Nat} {Y : Ry} (I : YI n Y) (h : (yF Y).1 = 0) (sn : yS Y < n) : (yF (yRule b n sh Y)).1 ≤ 5 := by
  unfold yRule
  split
  · show 5 ≤ 5; decide
  · have ng := nx_gt (b := b) sn
    have nl := nx_le (b := b) (Nat.le_of_lt sn)
    obtain ⟨r1, r2, r3, r4, r5⟩ := ru_done (b := b) (n := n) (sh := sh) ru_A (n + 1) (ru0 (nx b n (yS Y))) (by omega) rfl (uv_0 nl I.1.1.2.1)
    unfold yRu2
    split
    · refine end_5 ?_
      unfold yRu1
      split <;> (show (yF Y).1 ≤ 5; omega)
    · rename_i q
      exact Nat.le_trans (r5 q).2 (by decide)
theorem wk_3 {b : Nat → Nat} {n L o : Nat} : ∀ (k i s : Nat) (W : Nat → Int32), (wkR b n L o k i s W).1 ≤ 3 := by
  intro k
  induction k with
  | zero => intro i s W; show 2 ≤ 3; decide
  | succ k ih =>
    intro i s W
    have ew : wkR b n L o (k + 1) i s W = if onF b n s L = 0 then (if tkK b n (nx b n s) = 2 then wkR b n L o k (i + 1) (nx b n s) (upd W (o + i) (nI (nvT b n s))) else (0, nx b n s, i + 1, upd W (o + i) (nI (nvT b n s)))) else (onF b n s L, s, i, W) := rfl
    rw [ew]
    split
    · split
      · exact ih _ _ _
      · exact Nat.zero_le _
    · exact on_3
theorem line_5 {b : Nat → Nat} {n : Nat} {Y : Ry} (I : YI n Y) (h : (yF Y).1 = 0) : (yF (yLine b n Y)).1 ≤ 5 := by
  have h5 : (yF Y).1 ≤ 5 := by omega
  have nm : ∀ s lo hi, nmF b n s lo hi ≤ 2 := fun s lo hi => nm_2' 
  unfold yLine
  split
  · unfold yPlaces
    split
    · show 4 ≤ 5; decide
    · split
      · show 5 ≤ 5; decide
      · split
        · exact end_5 h5
        · exact Nat.le_trans (nm _ _ _) (by decide)
  · split
    · unfold yPerson
      split
      · show 2 ≤ 5; decide
      · split
        · unfold yPer2
          split
          · exact end_5 h5
          · exact Nat.le_trans (wk_3 _ _ _ _) (by decide)
        · exact Nat.le_trans (nm _ _ _) (by decide)
    · split
      · unfold yPerson
        split
        · show 2 ≤ 5; decide
        · split
          · unfold yPer2
            split
            · exact end_5 h5
            · exact Nat.le_trans (wk_3 _ _ _ _) (by decide)
          · exact Nat.le_trans (nm _ _ _) (by decide)
      · split
        · unfold yThing
          split
          · show 2 ≤ 5; decide
          · split
            · split
              · split
                · unfold yTh2
                  split
                  · split
                    · split
                      · show 4 ≤ 5; decide
                      · exact end_5 h5
                    · exact Nat.le_trans on_3 (by decide)
                  · exact end_5 h5
                · exact Nat.le_trans on_3 (by decide)
              · exact Nat.le_trans (nm _ _ _) (by decide)
            · exact Nat.le_trans (nm _ _ _) (by decide)
        · split
          · unfold yTerm
            split
            · show 5 ≤ 5; decide
            · split
              · exact end_5 h5
              · exact Nat.le_trans (nm _ _ _) (by decide)
          · have sn : kwN b n (yS Y) < 20 → yS Y < n := fun q => by
              have w := (kwN_iff (b := b) (n := n) (s := yS Y) q).mp rfl
              exact tk3 (b := b) (n := n) (s := yS Y) (by rw [w.1]; decide)
            split
            · rename_i k
              exact rule_5 I h (sn (by omega))
            · split
              · rename_i k
                exact rule_5 I h (sn (by omega))
              · show 1 ≤ 5; decide
theorem yf_5 {b : Nat → Nat} {n : Nat} : ∀ (k : Nat) (Y : Ry), n + 1 - yS Y ≤ k → (yF Y).1 = 0 → YI n Y → (yF (yFin b n Y)).1 ≤ 5 := by
  intro k
  induction k with
  | zero => intro Y hk _ I; have := I.1.1.1; omega
  | succ k ih =>
    intro Y hk f0 I
    by_cases z : tkK b n (yS Y) = 0
    · rw [yfin_t (fun q => q.2 z)]; omega
    · rw [← yfin_l f0 z]
      by_cases y : (yF (yLine b n Y)).1 = 0
      · obtain ⟨I2, lt⟩ := yi_line I y
        exact ih (yLine b n Y) (by omega) y I2
      · rw [yfin_t (fun q => y q.1)]; exact line_5 I f0
theorem cy_5 {S : Sx} {n : Nat} (n7 : n ≤ 700) : (yF (cyY S n)).1 ≤ 5 := by
  have sn : tkW (sP S).2 n 0 ≤ n := (spn_ok (p := fun j => isW ((sP S).2 j)) (n := n) (i := 0)).2.2.2 (Nat.zero_le _)
  exact yf_5 (n + 1) _ (by show n + 1 - tkW (sP S).2 n 0 ≤ n + 1; omega) rfl (yi_00 sn n7)
theorem st_05 {h : Hp} {k : Nat} {v : Option Nat} (hS : St h) (hk : k = 5 ∨ k = 6) : St (uR h 0 k v) := ⟨hS.1, fun q hq => by
  have z := (frefs_0 q hq).2.2.1
  have : hR (uR h 0 k v) q.1 q.2.1 = hR h q.1 q.2.1 := by
    simp only [hR, uR, up2]
    rw [if_neg (fun y => z ⟨y.1, by rw [y.2]; exact hk⟩)]
  rw [this]; exact hS.2 q hq⟩
theorem le_nI {m : Nat} {x : Int32} (hm : m ≤ 700) (h : 0 ≤ x ∧ x ≤ nI m) : ∃ j, j ≤ m ∧ x = nI j ∧ x.toNatClampNeg = j := by
  obtain ⟨j, j1, j2⟩ := ok_nI (n := m + 1) (by omega) ⟨h.1, Int32.lt_of_le_of_lt h.2 (nI_lt (by omega) (by omega))⟩
  exact ⟨j, by omega, j2, by rw [j2, cl_nI (by omega)]⟩
theorem ws_city {S : Sx} {x : Int32} (W : WS S) : WS (oCity S x).2.2 := by
  unfold oCity
  obtain ⟨w1, w2, w3, w4, w5, w6, w7⟩ := W
  by_cases q : 0 ≤ x ∧ x ≤ nI (sP S).1
  · rw [if_pos q]
    have n7 : x.toNatClampNeg ≤ 700 := by
      obtain ⟨j, j1, j2, j3⟩ := le_nI w6 q
      omega
    by_cases y : (yF (cyY S x.toNatClampNeg)).1 = 0
    · rw [if_pos y]
      obtain ⟨-, i1, i2, i3, ⟨i4, -⟩, -⟩ := cy_ok n7 y
      exact ⟨i1, ⟨i2, i3, by show tD (yT (cyY S x.toNatClampNeg)) ≤ 9999; rw [i4]; decide, fun _ _ => rfl⟩, ⟨Nat.zero_le _, fun i hi => absurd hi (Nat.not_lt_zero _)⟩, ⟨Nat.zero_le _, fun i hi => absurd hi (Nat.not_lt_zero _)⟩, True.intro, Nat.zero_le _, w7⟩
    · rw [if_neg y]; exact ⟨w1, w2, w3, w4, w5, Nat.zero_le _, w7⟩
  · rw [if_neg q]; exact ⟨w1, w2, w3, w4, w5, w6, w7⟩
theorem k_city {l : Launch} {d : Nat} {x : Int32} {S : Sx} {h : Hp} (hl : l.stackTraces = false) (W : WS S) (K : KI h S) : Run l (d + 11) (1, 6) mX9_city [.ref 0, .int x] h (Qa (oCity S x) h) (Xi (oCity S x) h) := by
  have K0 := K
  obtain ⟨c0, c, fs, fr, z, ⟨hc, hcc, hC6⟩, K1, K2⟩ := K
  have hC5 := K1.1
  have K0h6 := hC6
  have hc0 := K1.2.1.hc.1
  have hS := K1.2.1.hc.2.2
  have hc' := at_c hc
  have hc0' := at_c hc0
  have w6 := W.2.2.2.2.2.1
  have w7 := W.2.2.2.2.2.2
  have e01 := K2.2.2.2.1.1
  have tp := K2.2.2.2.1.2
  refine run_lv [some (.ref 0), some (.int x), none, none] (go := ?_)
  unfold oCity
  by_cases q : 0 ≤ x ∧ x ≤ nI (sP S).1
  · rw [if_pos q]
    obtain ⟨n, n1, n2, n3⟩ := le_nI w6 q
    rw [n3]
    have cyo := cy_ok (S := S) (n := n) (by omega)
    have cyd : cyY S n = yFin (sP S).2 n (y00 (tkW (sP S).2 n 0)) := rfl
    have sn : tkW (sP S).2 n 0 ≤ n := (spn_ok (p := fun j => isW ((sP S).2 j)) (n := n) (i := 0)).2.2.2 (Nat.zero_le _)
    have F1 : Fz (fun a k => a = 0 ∧ k = 1) h (uI h 0 1 0) := Fz.rf.uI ⟨rfl, rfl⟩
    have v1 : hI (uI h 0 1 0) 0 1 = 0 := hI_uI_eq
    generalize hgO : (if (yF (cyY S n)).1 = 0 then ((0, 0, (yC (cyY S n), yT (cyY S n), [], Q00, none, (0, (sP S).2), -1, sR S)) : Sa) else (0, nI (yF (cyY S n)).1, (sC S, sT S, sA S, sQ S, sM S, (0, (sP S).2), nI (yF (cyY S n)).2, upd (sR S) 0 (sR S 0 + 1)))) = O
    have fin : ∀ h1, h1 = uI h 0 1 0 → Go l (rmOf (d + 11) (1, 6)) mX9_city (hN h) (Zm (1, 6) (Qa O h) (Xi O h)) 25 [some (.ref 0), some (.int x), none, none] [] h1 0 0 := by
      intro h1 hg
      rw [← hg] at F1 v1
      have hS := F1.St hS
      have hC6 : hR h1 0 6 = some c := by rw [F1.1]; exact hC6
      have bg := fun d => r_rBegin (l := l) (d := d) (n := n) (b := (sP S).2) hS hc (by omega) (fun i hi => ⟨by rw [F1.I (by omega)]; exact tp i (by omega), w7 i⟩)
      have cont : ∀ g2 v2 v3, CE h1 g2 c (yFin (sP S).2 n (y00 (tkW (sP S).2 n 0))) → Go l (rmOf (d + 11) (1, 6)) mX9_city (hN h) (Zm (1, 6) (Qa O h) (Xi O h)) 80 [some (.ref 0), some (.int x), some (.int v2), some (.int v3)] [] g2 0 0 := by
        rw [← cyd]
        intro g v2 v3 E
        obtain ⟨FF, hS, E1, E2⟩ := E
        have eI : ∀ a k, ¬ (a = 3 ∨ a = 5 ∨ (c ≤ a ∧ a ≤ c + 11) ∨ (a = 0 ∧ k = 1)) → hI g a k = hI h a k := fun a k z => (FF.2.2.2 a k (by omega)).trans (F1.I (by omega))
        have eR : ∀ a k, ¬ a = 3 → hR g a k = hR h a k := fun a k z => (FF.2.2.1 a k z).trans (by rw [F1.1])
        have eN : hN g = hN h := FF.1.trans F1.2.1
        have eJ : hJ g = hJ h := FF.2.1.trans F1.2.2.1
        have g01 : hI g 0 1 = 0 := (FF.2.2.2 0 1 (by omega)).trans v1
        have hC5 : hR g 0 5 = some c0 := (eR 0 5 (by omega)).trans hC5
        have hC6 : hR g 0 6 = some c := (FF.2.2.1 0 6 (by omega)).trans hC6
        by_cases y : (yF (cyY S n)).1 = 0
        · rw [if_pos y] at hgO
          subst hgO
          have KK := E1 y
          have I := cyo y
          generalize cyY S n = Y at *
          have e10 := KK.2.1.2.2.2.2.1
          have e11 := KK.2.1.2.2.2.2.2
          have St1 : St (uR (uI g 0 2 (-1)) 0 5 (some c)) := st_05 hS (Or.inl rfl)
          have St2 : St (uR (uR (uI g 0 2 (-1)) 0 5 (some c)) 0 6 (some c0)) := st_05 St1 (Or.inr rfl)
          have bI : ∀ a k, hI (uR (uR (uI g 0 2 (-1)) 0 5 (some c)) 0 6 (some c0)) a k = if a = 0 ∧ k = 2 then -1 else hI g a k := fun a k => by
            show hI (uI g 0 2 (-1)) a k = _
            rw [hI_uI_if]
          have bR : ∀ a k, hR (uR (uR (uI g 0 2 (-1)) 0 5 (some c)) 0 6 (some c0)) a k = if a = 0 ∧ k = 6 then some c0 else if a = 0 ∧ k = 5 then some c else hR g a k := fun a k => rfl
          have bN : hN (uR (uR (uI g 0 2 (-1)) 0 5 (some c)) 0 6 (some c0)) = hN g := rfl
          have bJ : hJ (uR (uR (uI g 0 2 (-1)) 0 5 (some c)) 0 6 (some c0)) = hJ g := rfl
          refine go_aloadn dX9_city_80 rfl ?_
          refine go_aloadn dX9_city_81 rfl ?_
          refine sg_getR dX9_city_82 fX9_24 rfl (wo_L rfl) hS (wo_r4 hS rfl) ?_
          refine sg_getI dX9_city_85 fX9_113 rfl (rd_L (rfl)) hS ?_
          rw [e11]
          refine sg_putI dX9_city_88 fX9_13 rfl rfl (wo_L rfl) hS ?_
          refine go_aloadn dX9_city_91 rfl ?_
          refine sg_getR dX9_city_92 fX9_24 rfl (wo_L rfl) hS (wo_r4 hS rfl) ?_
          refine sg_getI dX9_city_95 fX9_116 rfl (rd_L (rfl)) hS ?_
          rw [hI_uI_ne (by omega), e10]
          refine go_if_eq (tgt := 114) dX9_city_98 (by decide) (fun c98 => ?_) (fun c98 => absurd rfl c98)
          refine go_aloadn dX9_city_114 rfl ?_
          refine sg_getR dX9_city_115 fX9_31 rfl (wo_L rfl) hS hC5 ?_
          refine go_ast3 dX9_city_118 rfl ?_
          refine go_aloadn dX9_city_119 rfl ?_
          refine go_aloadn dX9_city_120 rfl ?_
          refine sg_getR dX9_city_121 fX9_35 rfl (wo_L rfl) hS hC6 ?_
          refine sg_putR dX9_city_124 fX9_31 rfl rfl (wo_L rfl) hS ?_
          have hS := St1
          refine go_aloadn dX9_city_127 rfl ?_
          refine go_aloadn dX9_city_128 rfl ?_
          refine sg_putR dX9_city_129 fX9_35 rfl rfl (wo_L rfl) hS ?_
          skip
          generalize uR (uR (uI g 0 2 (-1)) 0 5 (some c)) 0 6 (some c0) = h4 at *
          have hC5 : hR h4 0 5 = some c := by rw [bR, if_neg (by omega), if_pos (by omega)]
          have hS := St2
          have bgn := fun d => r_begin (l := l) (d := d) hS at30 hc
          obtain ⟨j1, ⟨j2, j3⟩, j4, j5, j6⟩ := bg_I (h := h4) hc'
          have j7 := bgH_2 (h := h4) (b := 30) (c := c)
          have S5 : St (bgH h4 30 c) := St.of (st_uR hS at30) j7
          have j8 : ∀ a k, hR (bgH h4 30 c) a k = if a = 30 ∧ k = 0 then some c else hR h4 a k := fun a k => by unfold hR; rw [j7]; rfl
          have j9 : hN (bgH h4 30 c) = hN h4 := by unfold hN; rw [j7]; rfl
          have j10 : hJ (bgH h4 30 c) = hJ h4 := by unfold hJ; rw [j7]; rfl
          refine go_aloadn dX9_city_132 rfl ?_
          refine sg_getR dX9_city_133 fX9_41 rfl (wo_L rfl) hS (wo_r7 hS rfl) ?_
          refine go_aloadn dX9_city_136 rfl ?_
          refine sg_getR dX9_city_137 fX9_31 rfl (wo_L rfl) hS hC5 ?_
          refine sg_cV0 (M' := mX6_begin) ([.ref c]) dX9_city_140 lX9_89 vX6_begin (tw_L (at30)) (by decide) rfl hS (bgn _) rfl (Nat.le_of_ble_eq_true rfl) (Nat.zero_le _) (Nat.zero_le _) ?_
          skip
          generalize bgH h4 30 c = h5 at *
          have hS := S5
          have F6 : Fz (fun a k => (a = 42 ∧ (k = 1 ∨ k = 2)) ∨ (a = 44 ∧ k = 0) ∨ (a = 0 ∧ k = 10)) h5 (uI (uI (uI (uI h5 42 1 0) 42 2 0) 44 0 0) 0 10 0) := (((Fz.rf.uI (by omega)).uI (by omega)).uI (by omega)).uI (by omega)
          have u1 : hI (uI (uI (uI (uI h5 42 1 0) 42 2 0) 44 0 0) 0 10 0) 42 1 = 0 := by repeat first | rw [hI_uI_ne (by omega)] | rw [hI_uI_eq]
          have u2 : hI (uI (uI (uI (uI h5 42 1 0) 42 2 0) 44 0 0) 0 10 0) 42 2 = 0 := by repeat first | rw [hI_uI_ne (by omega)] | rw [hI_uI_eq]
          have u3 : hI (uI (uI (uI (uI h5 42 1 0) 42 2 0) 44 0 0) 0 10 0) 44 0 = 0 := by repeat first | rw [hI_uI_ne (by omega)] | rw [hI_uI_eq]
          have u4 : hI (uI (uI (uI (uI h5 42 1 0) 42 2 0) 44 0 0) 0 10 0) 0 10 = 0 := hI_uI_eq
          have fi2 : ∀ h6, h6 = uI (uI (uI (uI h5 42 1 0) 42 2 0) 44 0 0) 0 10 0 → KI h6 (yC Y, yT Y, [], Q00, none, (0, (sP S).2), -1, sR S) ∧ Fw h h6 := by
            intro h6 hg6
            rw [← hg6] at F6 u1 u2 u3 u4
            have S6 := F6.St S5
            have R6 : ∀ a k, ¬ a = 3 → hR h6 a k = if a = 30 ∧ k = 0 then some c else if a = 0 ∧ k = 6 then some c0 else if a = 0 ∧ k = 5 then some c else hR h a k := fun a k z => by rw [F6.1, j8, bR, eR a k z]
            have I6 : ∀ a k, ¬ ((a = 42 ∧ (k = 1 ∨ k = 2)) ∨ (a = 44 ∧ k = 0) ∨ (a = 0 ∧ k = 10)) → ¬ (30 ≤ a ∧ a ≤ 37) → ¬ (a = 0 ∧ k = 2) → hI h6 a k = hI g a k := fun a k z1 z2 z3 => by rw [F6.I z1, j1 a k z2, bI, if_neg z3]
            have Ib : ∀ a k, ¬ (a = 42 ∨ a = 44 ∨ a = 0) → hI h6 a k = hI h5 a k := fun a k z => F6.I (by omega)
            have Ic : ∀ a k, c ≤ a → a ≤ c + 11 → hI h4 a k = hI g a k := fun a k z1 z2 => by rw [bI, if_neg (by omega)]
            refine ⟨⟨c, c0, (yR Y).1, (yR Y).2.1, 0, ⟨hc0, fun q => hcc q.symm, by rw [R6 _ _ (by omega), if_neg (by omega), if_pos (by omega)]⟩, ?_, ?_⟩, ?_⟩
            · refine kb_new S6 KK I (by rw [R6 _ _ (by omega), if_neg (by omega), if_neg (by omega), if_pos (by omega)]) (by rw [R6 _ _ (by omega), if_pos (by omega)]) (fun a k z1 z2 => I6 a k (by omega) (by omega) (by omega)) (by rw [Ib _ _ (by omega)]; exact j2) (by rw [Ib _ _ (by omega)]; exact j3) (fun p hp => ?_) (fun i hi => ?_) (fun t ht => ?_)
              · rw [Ib _ _ (by omega), Ib _ _ (by omega), (j4 p hp).1, (j4 p hp).2, Ic _ _ (by omega) (by omega)]; exact ⟨rfl, rfl⟩
              · rw [Ib _ _ (by omega), j5 i hi, Ic _ _ (by omega) (by omega)]
              · rw [Ib _ _ (by omega), Ib _ _ (by omega), Ib _ _ (by omega), Ib _ _ (by omega), (j6 t ht).1, (j6 t ht).2.1, (j6 t ht).2.2.1, (j6 t ht).2.2.2, Ic _ _ (by omega) (by omega), Ic _ _ (by omega) (by omega), Ic _ _ (by omega) (by omega)]; exact ⟨rfl, rfl, rfl, rfl⟩
            · refine ⟨⟨0, ⟨⟨u1, by decide⟩, u2, Nat.zero_le _⟩, fun i hi => absurd hi (Nat.not_lt_zero _)⟩, ⟨⟨u3, Nat.zero_le _, fun i hi => absurd hi (Nat.not_lt_zero _)⟩, fun i hi => absurd hi (Nat.not_lt_zero _)⟩, u4, ⟨by rw [I6 _ _ (by omega) (by omega) (by omega)]; exact g01, fun i hi => absurd hi (Nat.not_lt_zero _)⟩, by rw [F6.I (by omega), j1 _ _ (by omega), bI, if_pos (by omega)], fun i hi => ?_⟩
              rw [I6 _ _ (by omega) (by omega) (by omega), eI _ _ (by omega)]
              exact K2.2.2.2.2.2 i hi
            · refine ⟨by rw [F6.2.1, j9, bN, eN], by rw [F6.2.2.1, j10, bJ, eJ], fun a ha => ⟨fun k => ?_, fun k => ?_⟩⟩
              · rw [I6 _ _ (by omega) (by omega) (by omega), eI _ _ (by omega)]
              · rw [R6 _ _ (by omega), if_neg (by omega), if_neg (by omega), if_neg (by omega)]
          have acl := fun d => r_aClear (l := l) (d := d) hS at42
          have S7 : St (uI (uI h5 42 1 0) 42 2 0) := (Fz.rf.uI (S := fun _ _ => True) True.intro |>.uI True.intro).St S5
          have ncl := fun d => r_nClear (l := l) (d := d) S7 at44
          have S8 : St (uI (uI (uI h5 42 1 0) 42 2 0) 44 0 0) := (Fz.rf.uI (S := fun _ _ => True) True.intro).St S7
          refine go_aloadn dX9_city_143 rfl ?_
          refine sg_getR dX9_city_144 fX9_48 rfl (wo_L rfl) hS (wo_r8 hS rfl) ?_
          refine sg_cV0 (M' := mX0_clear) ([]) dX9_city_147 lX9_123 vX0_clear (ac_L (at42)) (by decide) rfl hS (acl _) rfl (Nat.le_of_ble_eq_true rfl) (Nat.zero_le _) (Nat.zero_le _) ?_
          have hS := S7
          refine go_aloadn dX9_city_150 rfl ?_
          refine sg_getR dX9_city_151 fX9_55 rfl (wo_L rfl) hS (wo_r9 hS rfl) ?_
          refine sg_cV0 (M' := mX2_clear) ([]) dX9_city_154 lX9_126 vX2_clear (no_L (at44)) (by decide) rfl hS (ncl _) rfl (Nat.le_of_ble_eq_true rfl) (Nat.zero_le _) (Nat.zero_le _) ?_
          have hS := S8
          refine go_aloadn dX9_city_157 rfl ?_
          refine go_iconst (v := 0) dX9_city_158 rfl ?_
          refine sg_putZ dX9_city_159 fX9_127 rfl rfl (wo_L rfl) hS (Or.inl rfl) ?_
          refine go_iconst (v := 0) dX9_city_162 rfl ?_
          refine go_ireturn dX9_city_163 rfl rfl (Nat.zero_le _) (Nat.zero_le _) ?_
          exact ⟨⟨rfl, rfl⟩, fi2 _ rfl⟩
        · rw [if_neg y] at hgO
          subst hgO
          obtain ⟨E3, E4⟩ := E2 y
          have k5 := cy_5 (S := S) (n := n) (by omega)
          generalize cyY S n = Y at *
          have S9 : St (uI g 0 2 (nI (yF Y).2)) := (Fz.rf.uI (S := fun _ _ => True) True.intro).St hS
          have rfu := fun d => r_refuse (l := l) (d := d) (k := 0) (v := nI (yF Y).1) S9 (by decide)
          have F6 : Fz (fun a k => (a = 0 ∧ k = 2) ∨ (a = 2 ∧ k = 0)) g (uI (uI g 0 2 (nI (yF Y).2)) 2 0 (hI (uI g 0 2 (nI (yF Y).2)) 2 0 + 1)) := (Fz.rf.uI (by omega)).uI (by omega)
          have u1 : hI (uI (uI g 0 2 (nI (yF Y).2)) 2 0 (hI (uI g 0 2 (nI (yF Y).2)) 2 0 + 1)) 0 2 = nI (yF Y).2 := by rw [hI_uI_ne (by omega), hI_uI_eq]
          have u2 : hI (uI (uI g 0 2 (nI (yF Y).2)) 2 0 (hI (uI g 0 2 (nI (yF Y).2)) 2 0 + 1)) 2 0 = sR S 0 + 1 := by
            rw [hI_uI_eq, hI_uI_ne (by omega), eI _ _ (by omega)]
            have := K2.2.2.2.2.2 0 (by decide)
            rw [this]
          have fi2 : ∀ h6, h6 = uI (uI g 0 2 (nI (yF Y).2)) 2 0 (hI (uI g 0 2 (nI (yF Y).2)) 2 0 + 1) → KI h6 (sC S, sT S, sA S, sQ S, sM S, (0, (sP S).2), nI (yF Y).2, upd (sR S) 0 (sR S 0 + 1)) ∧ Fw h h6 := by
            intro h6 hg6
            rw [← hg6] at F6 u1 u2
            have S6 := F6.St hS
            have R6 : ∀ a k, ¬ a = 3 → hR h6 a k = hR h a k := fun a k z => by rw [F6.1, eR a k z]
            have I6 : ∀ a k, ¬ ((a = 0 ∧ k = 2) ∨ (a = 2 ∧ k = 0)) → ¬ (a = 3 ∨ a = 5 ∨ (c ≤ a ∧ a ≤ c + 11) ∨ (a = 0 ∧ k = 1)) → hI h6 a k = hI h a k := fun a k z1 z2 => by rw [F6.I z1, eI a k z2]
            have cd : ¬ c = c0 := hcc
            refine ⟨⟨c0, c, fs, fr, z, ⟨hc, hcc, by rw [R6 _ _ (by omega)]; exact K0h6⟩, K1.cy W.1 S6 (R6 _ _ (by omega)) (R6 _ _ (by omega)) (fun a k q => I6 a k (by omega) (by omega)), ?_⟩, ?_⟩
            · have K3 : KR h6 (sC S) (sA S) (sQ S) (sM S) (0, (sP S).2) (nI (yF Y).2) (upd (sR S) 0 (sR S 0 + 1)) := by
                obtain ⟨m1, m2, m3, -, -, m6⟩ := K2
                refine ⟨m1.fr (fun k => I6 _ _ (by omega) (by omega)) (funext fun k => I6 _ _ (by omega) (by omega)), m2.eq (fun i hi k => I6 _ _ (by omega) (by omega)), ?_, ⟨by rw [F6.I (by omega)]; exact g01, fun i hi => absurd hi (Nat.not_lt_zero _)⟩, u1, fun i hi => ?_⟩
                · cases hm : sM S with
                  | none =>
                    rw [hm] at m3
                    have m3 : hI h 0 10 = 0 := m3
                    exact (I6 _ _ (by omega) (by omega)).trans m3
                  | some J =>
                    rw [hm] at m3
                    obtain ⟨i1, i2, i3, i4⟩ := m3
                    exact ⟨(I6 _ _ (by omega) (by omega)).trans i1, by rw [show hI h6 48 = hI h 48 from funext fun k => I6 _ _ (by omega) (by omega)]; exact i2, i3.fr (fun k => I6 _ _ (by omega) (by omega)) (funext fun k => I6 _ _ (by omega) (by omega)), i4.eq (fun i hi k => I6 _ _ (by omega) (by omega))⟩
                · by_cases q : i = 0
                  · rw [q, pk_us]; exact u2
                  · rw [pk_un q, I6 _ _ (by omega) (by omega)]; exact m6 i hi
              exact K3
            · refine ⟨by rw [F6.2.1, eN], by rw [F6.2.2.1, eJ], fun a ha => ⟨fun k => I6 _ _ (by omega) (by omega), fun k => R6 _ _ (by omega)⟩⟩
          refine go_aloadn dX9_city_80 rfl ?_
          refine go_aloadn dX9_city_81 rfl ?_
          refine sg_getR dX9_city_82 fX9_24 rfl (wo_L rfl) hS (wo_r4 hS rfl) ?_
          refine sg_getI dX9_city_85 fX9_113 rfl (rd_L (rfl)) hS ?_
          rw [E4]
          refine sg_putI dX9_city_88 fX9_13 rfl rfl (wo_L rfl) hS ?_
          refine go_aloadn dX9_city_91 rfl ?_
          refine sg_getR dX9_city_92 fX9_24 rfl (wo_L rfl) hS (wo_r4 hS rfl) ?_
          refine sg_getI dX9_city_95 fX9_116 rfl (rd_L (rfl)) hS ?_
          rw [hI_uI_ne (by omega), E3]
          refine go_if_eq (tgt := 114) dX9_city_98 (by decide) (fun c98 => absurd c98 (nI_ne0 (by omega) (by omega))) (fun c98 => ?_)
          have hS := S9
          refine go_aloadn dX9_city_101 rfl ?_
          refine go_iconst (v := 0) dX9_city_102 rfl ?_
          refine go_aloadn dX9_city_103 rfl ?_
          refine sg_getR dX9_city_104 fX9_24 rfl (wo_L rfl) hS (wo_r4 hS rfl) ?_
          refine sg_getI dX9_city_107 fX9_116 rfl (rd_L (rfl)) hS ?_
          rw [hI_uI_ne (by omega), E3]
          refine sg_cVi (M' := mX9_refuse) ([.int (nI 0), .int (nI (yF Y).1)]) dX9_city_110 lX9_119 vX9_refuse (wo_L rfl) (by decide) rfl hS (rfu _) rfl (Nat.le_of_ble_eq_true rfl) (Nat.zero_le _) (Nat.zero_le _) ?_
          refine go_ireturn dX9_city_113 rfl rfl (Nat.zero_le _) (Nat.zero_le _) ?_
          exact ⟨⟨rfl, rfl⟩, fi2 _ rfl⟩
      have lp := r_ct45 (l := l) (d := d) (n := n) (c := c) (x := x) (b := (sP S).2) (h := h1) (Z := Zm (1, 6) (Qa O h) (Xi O h)) (n0 := hN h) hc (n + 1) (y00 (tkW (sP S).2 n 0))
      refine go_aloadn dX9_city_25 rfl ?_
      refine sg_getR dX9_city_26 fX9_24 rfl (wo_L rfl) hS (wo_r4 hS rfl) ?_
      refine go_aloadn dX9_city_29 rfl ?_
      refine sg_getR dX9_city_30 fX9_9 rfl (wo_L rfl) hS (wo_r0 hS rfl) ?_
      refine go_iloadn dX9_city_33 rfl ?_
      refine go_aloadn dX9_city_34 rfl ?_
      refine sg_getR dX9_city_35 fX9_35 rfl (wo_L rfl) hS hC6 ?_
      rw [n2]
      refine sg_rV0 (M' := mX3_begin) ([.ref 1, .int (nI n), .ref c]) dX9_city_38 lX9_103 vX3_begin (rd_L (rfl)) (by decide) rfl hS (bg _) rfl (Nat.le_of_ble_eq_true rfl) (Nat.zero_le _) (Nat.zero_le _) (fun g G => ?_)
      refine go_iconst (v := 1) dX9_city_41 rfl ?_
      refine go_ist2 dX9_city_42 rfl ?_
      refine go_iconst (v := 0) dX9_city_43 rfl ?_
      refine go_ist3 dX9_city_44 rfl ?_
      rw [← n2]; exact lp g 0 (by omega) rfl (yi_00 sn (by omega)) (Nat.zero_le _) G.2.2.1 G.2.2.2 G.1 G.2.1 cont
    refine go_iloadn dX9_city_0 rfl ?_
    refine go_if_lt (tgt := 12) dX9_city_1 (by decide) (fun c1 => absurd c1 (Int32.not_lt.mpr q.1)) (fun c1 => ?_)
    refine go_iloadn dX9_city_4 rfl ?_
    refine go_aloadn dX9_city_5 rfl ?_
    refine sg_getI dX9_city_6 fX9_93 rfl (wo_L rfl) hS ?_
    rw [e01]
    refine go_icmp_le (tgt := 20) dX9_city_9 (by decide) (fun c9 => ?_) (fun c9 => absurd q.2 c9)
    refine go_aloadn dX9_city_20 rfl ?_
    refine go_iconst (v := 0) dX9_city_21 rfl ?_
    refine sg_putI dX9_city_22 fX9_93 rfl rfl (wo_L rfl) hS ?_
    exact fin _ rfl
  · rw [if_neg q]
    refine go_iloadn dX9_city_0 rfl ?_
    refine go_if_lt (tgt := 12) dX9_city_1 (by decide) (fun c1 => ?_) (fun c1 => ?_)
    · exact go_throwI hl rfl (by decide) rfl dX9_city_12 dX9_city_15 dX9_city_16 dX9_city_19 (Nat.le_of_ble_eq_true rfl) (by simp only [rmOf]; omega) (by simp only [rmOf]; omega) (Nat.le_refl _) (Nat.le_refl _) (Nat.le_refl _) (Nat.le_refl _) hS.1 ⟨⟨rfl, rfl⟩, K0, Fw.rf⟩
    · refine go_iloadn dX9_city_4 rfl ?_
      refine go_aloadn dX9_city_5 rfl ?_
      refine sg_getI dX9_city_6 fX9_93 rfl (wo_L rfl) hS ?_
      rw [e01]
      refine go_icmp_le (tgt := 20) dX9_city_9 (by decide) (fun c9 => absurd ⟨Int32.not_lt.mp c1, c9⟩ q) (fun c9 => ?_)
      exact go_throwI hl rfl (by decide) rfl dX9_city_12 dX9_city_15 dX9_city_16 dX9_city_19 (Nat.le_of_ble_eq_true rfl) (by simp only [rmOf]; omega) (by simp only [rmOf]; omega) (Nat.le_refl _) (Nat.le_refl _) (Nat.le_refl _) (Nat.le_refl _) hS.1 ⟨⟨rfl, rfl⟩, K0, Fw.rf⟩
