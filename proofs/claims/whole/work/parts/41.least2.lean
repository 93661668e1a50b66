/-! Ties: least shame, the tables -/
theorem lsS_some {C : Cy} {T : Tn} {t : Nat} {W : List Nat} {k n v : Nat} (h : lsS C T t W k n = some v) : ∃ p, p < n ∧ cgB T t p k = true ∧ ∃ v', lsL C T W (k ||| 2 ^ p) = some v' := by
  induction n generalizing v with
  | zero => cases h
  | succ n ih =>
    have h : (if cgB T t n k = true then mnO (lsS C T t W k n) ((lsL C T W (k ||| 2 ^ n)).map (coN T t n + ·)) else lsS C T t W k n) = some v := h
    by_cases q : cgB T t n k = true
    · rw [if_pos q] at h
      cases hl : lsL C T W (k ||| 2 ^ n) with
      | some v' => exact ⟨n, by omega, q, v', hl⟩
      | none =>
        rw [hl] at h
        have h2 : lsS C T t W k n = some v := by
          generalize lsS C T t W k n = o at h
          cases o with
          | none => cases h
          | some o => exact h
        obtain ⟨p, hp, z⟩ := ih h2
        exact ⟨p, by omega, z⟩
    · rw [if_neg q] at h
      obtain ⟨p, hp, z⟩ := ih h
      exact ⟨p, by omega, z⟩
theorem cg_tb {T : Tn} {t p k : Nat} (h : cgB T t p k = true) : k.testBit p = false := by
  unfold cgB at h
  cases q : k.testBit p
  · rfl
  · rw [q] at h; simp at h
theorem ls_some {C : Cy} {T : Tn} (hP : cP C ≤ 8) : ∀ (W : List Nat) (k v : Nat), k < 2 ^ cP C → lsL C T W k = some v → W.length + pop k ≤ cP C
  | [], k, v, hk, _ => by
    have := pop_le ⟨k, by have := p8 hP; omega⟩ ⟨cP C, by omega⟩ hk
    dsimp only at this
    simpa using this
  | t :: W, k, v, hk, h => by
    rw [lsL_c] at h
    obtain ⟨p, hp, hc, v', hv⟩ := lsS_some h
    have h8 := p8 hP
    have h1 := pop_or ⟨k, by omega⟩ ⟨p, by omega⟩ (cg_tb hc)
    dsimp only at h1
    have := ls_some hP W _ v' (or_lt2 hk hp) hv
    rw [List.length_cons]
    omega
theorem drop_end {W : List Nat} {i : Nat} (h : W.length ≤ i) : W.drop i = [] := List.drop_eq_nil_of_le h
theorem r_fillLeft {l : Launch} {d c fs fr : Nat} {C : Cy} {T : Tn} {L : List Nat} {h : Hp} (W : WC C) (H : TV h 30 c fs fr C T) (O : WO C T) (hL : ∀ t ∈ L, t < cN C) (hL10 : L.length ≤ 10) (hW : WL h L) : Ey l (d + 2) mX5_fillLeft [.ref 73, .ref 30] h none (fun g => F8 h g ∧ WL g L ∧ LT g C T L 0) := by
  obtain ⟨hc, hbc, hS⟩ := H.hc
  have hN1 := W.1.1
  have hP := W.1.2.1
  have h8 := p8 hP
  have p0 : 0 < 2 ^ cP C := Nat.two_pow_pos _
  have hpe := H.1.1.2.2.2.2.2.2.1
  have s6 := sh6 ⟨cP C, by omega⟩
  dsimp only at s6
  refine run_lv [some (.ref 73), some (.ref 30), none, none, none] (go := ?_)
  refine go_iconst (v := 1) dX5_fillLeft_0 rfl ?_
  refine go_aloadn dX5_fillLeft_1 rfl ?_
  refine sg_getR dX5_fillLeft_2 fX5_21 rfl (tw_L at30) hS hbc ?_
  refine sg_getI dX5_fillLeft_5 fX5_27 rfl (ct_L hc) hS ?_
  rw [hpe]
  refine go_ishl dX5_fillLeft_8 ?_
  refine go_iconst (v := 1) dX5_fillLeft_9 rfl ?_
  refine go_isub dX5_fillLeft_10 ?_
  rw [s6]
  refine go_ist2 dX5_fillLeft_11 rfl ?_
  refine go_wf (I := fun m lv g => lv = [some (.ref 73), some (.ref 30), some (.int (nI m + (-1))), none, none] ∧ m ≤ 2 ^ cP C ∧ F8 h g ∧ WL g L ∧ LT g C T L m) (fun m lv g hh ih => ?_) (2 ^ cP C) _ _ ⟨by obtain ⟨j, hj⟩ : ∃ j, 2 ^ cP C = j + 1 := ⟨2 ^ cP C - 1, by omega⟩; rw [hj, pk_m1, Nat.add_sub_cancel], Nat.le_refl _, Fq.rf, hW, fun j h1 h2 => absurd h2 (by omega)⟩
  obtain ⟨rfl, hm, F, hw, ht⟩ := hh
  have H2 := H.fc (F.sub (fun _ => s8c))
  obtain ⟨-, hbc, hS⟩ := H2.hc
  have hpe := H2.1.1.2.2.2.2.2.2.1
  obtain ⟨w1, w2⟩ := id hw
  cases m with
  | zero =>
    refine go_iloadn dX5_fillLeft_12 rfl ?_
    refine go_if_lt (tgt := 121) dX5_fillLeft_13 (by decide) (fun c13 => ?_) (fun c13 => absurd (by decide) c13)
    refine go_return dX5_fillLeft_121 rfl (Nat.zero_le _) (Nat.zero_le _) ?_
    exact ⟨rfl, F, hw, ht⟩
  | succ j =>
    obtain ⟨b1, b2⟩ := pop_at ⟨j, by omega⟩
    dsimp only at b1 b2
    have e0 : (nI j).toNatClampNeg = j := cl_nI (by omega)
    have hV : vp_in (nI j) 256 := vp_in_nI (by omega) (by decide)
    rw [pk_m1]
    by_cases q : pop j < L.length
    · have ed := wl_at q
      have hx := hL _ (wl_mem q)
      have hdl : ∀ k, leO (lsL C T (L.drop (pop j + 1)) k) 200 := fun k v e => by have := lsL_le O (L.drop (pop j + 1)) (fun t z => hL t (List.mem_of_mem_drop z)) k v e; rw [List.length_drop] at this; omega
      refine go_iloadn dX5_fillLeft_12 rfl ?_
      refine go_if_lt (tgt := 121) dX5_fillLeft_13 (by decide) (fun c13 => absurd c13 (nI_pos (by omega))) (fun c13 => ?_)
      refine go_iloadn dX5_fillLeft_16 rfl ?_
      refine sg_cSi (M' := mJ6_bitCount_0f7a4) ([.int _]) dX5_fillLeft_17 lX5_57 sJ6_bitCount_0f7a4 hS (r_bitCount) rfl (Nat.le_of_ble_eq_true rfl) (Nat.zero_le _) (Nat.zero_le _) ?_
      rw [b1]
      refine go_ist3 dX5_fillLeft_20 rfl ?_
      refine go_aloadn dX5_fillLeft_21 rfl ?_
      refine sg_getR dX5_fillLeft_22 fX5_15 rfl (ti_L rfl) hS (ti_r1 hS rfl) ?_
      refine go_iloadn dX5_fillLeft_25 rfl ?_
      refine go_iloadn dX5_fillLeft_26 rfl ?_
      refine go_aloadn dX5_fillLeft_27 rfl ?_
      refine sg_getI dX5_fillLeft_28 fX5_87 rfl (ti_L rfl) hS ?_
      rw [w1]
      refine go_icmp_lt (tgt := 38) dX5_fillLeft_31 (by decide) (fun c31 => ?_) (fun c31 => absurd (nI_lt q (by omega)) c31)
      refine go_ldc dX5_fillLeft_38 kX5_83 ?_
      refine sg_iast dX5_fillLeft_40 (ti_1 rfl) hS (hV) ?_
      rw [e0]
      refine go_iconst (v := 0) dX5_fillLeft_41 rfl ?_
      refine go_ist4 dX5_fillLeft_42 rfl ?_
      skip
      refine go_loopR (lvf := fun p => [some (.ref 73), some (.ref 30), some (.int (nI j)), some (.int (nI (pop j))), some (.int (nI p))]) (cP C) (fun p g => F8 h g ∧ WL g L ∧ LT g C T L (j + 1) ∧ hI g 75 j = enO 1000000 (lsS C T (L.getD (pop j) 0) (L.drop (pop j + 1)) j p)) (fun p g hp hh ih2 => ?_) (fun g hh => ?_) 0 _ (Nat.zero_le _) ⟨F.uI (by unfold S8; omega), ⟨by rw [hI_uI_ne (by omega)]; exact w1, fun i hi => by rw [hI_uI_ne (by omega)]; exact w2 i hi⟩, fun i h1 h2 => by rw [hI_uI_ne (by omega)]; exact ht i h1 h2, hI_uI_eq⟩
      · obtain ⟨F, hw, ht, hj⟩ := hh
        have H2 := H.fc (F.sub (fun _ => s8c))
        obtain ⟨-, hbc, hS⟩ := H2.hc
        have hpe := H2.1.1.2.2.2.2.2.2.1
        obtain ⟨w1, w2⟩ := id hw
        have es : lsS C T (L.getD (pop j) 0) (L.drop (pop j + 1)) j (p + 1) = if cgB T (L.getD (pop j) 0) p j = true then mnO (lsS C T (L.getD (pop j) 0) (L.drop (pop j + 1)) j p) ((lsL C T (L.drop (pop j + 1)) (j ||| 2 ^ p)).map (coN T (L.getD (pop j) 0) p + ·)) else lsS C T (L.getD (pop j) 0) (L.drop (pop j + 1)) j p := rfl
        rw [es] at ih2
        have hls : leO (lsS C T (L.getD (pop j) 0) (L.drop (pop j + 1)) j p) 200 := fun v e => by have := lsS_le O hx (fun k => lsL_le O (L.drop (pop j + 1)) (fun t z => hL t (List.mem_of_mem_drop z)) k) (by omega) v e; rw [List.length_drop] at this; omega
        have e1 : (nI (pop j)).toNatClampNeg = pop j := cl_nI (by omega)
        refine go_iloadn dX5_fillLeft_44 rfl ?_
        refine go_aloadn dX5_fillLeft_45 rfl ?_
        refine sg_getI dX5_fillLeft_46 fX5_87 rfl (ti_L rfl) hS ?_
        rw [w1]
        refine go_icmp_ge (tgt := 115) dX5_fillLeft_49 (by decide) (fun c49 => absurd c49 (nI_ge q (by omega))) (fun c49 => ?_)
        refine go_iload dX5_fillLeft_52 rfl ?_
        refine go_aloadn dX5_fillLeft_54 rfl ?_
        refine sg_getR dX5_fillLeft_55 fX5_21 rfl (tw_L at30) hS hbc ?_
        refine sg_getI dX5_fillLeft_58 fX5_27 rfl (ct_L hc) hS ?_
        rw [hpe]
        refine go_icmp_ge (tgt := 115) dX5_fillLeft_61 (by decide) (fun c61 => absurd c61 (nI_ge hp (by omega))) (fun c61 => ?_)
        refine go_aloadn dX5_fillLeft_64 rfl ?_
        refine go_aloadn dX5_fillLeft_65 rfl ?_
        refine sg_getR dX5_fillLeft_66 fX5_18 rfl (ti_L rfl) hS (ti_r2 hS rfl) ?_
        refine go_iloadn dX5_fillLeft_69 rfl ?_
        refine sg_iald dX5_fillLeft_70 (ti_2 rfl) hS (vp_in_nI (by omega) (by decide)) ?_
        rw [e1, w2 _ q]
        refine go_iload dX5_fillLeft_71 rfl ?_
        refine go_iloadn dX5_fillLeft_73 rfl ?_
        refine sg_cSi (M' := mX5_canGo) ([.ref 30, .int (nI (L.getD (pop j) 0)), .int (nI p), .int (nI j)]) dX5_fillLeft_74 lX5_93 sX5_canGo hS (r_canGo W H2 hx hp (by omega)) rfl (Nat.le_of_ble_eq_true rfl) (Nat.zero_le _) (Nat.zero_le _) ?_
        refine go_if_eq (tgt := 109) dX5_fillLeft_77 (by decide) (fun c77 => ?_) (fun c77 => ?_)
        · refine go_iinc4 (c1 := 1) dX5_fillLeft_109 rfl rfl ?_
          refine go_goto (tgt := 44) dX5_fillLeft_112 (by decide) ?_
          first | exact go_cong (ih2 g ⟨F, hw, ht, by rw [if_neg (fun z => by rw [if_pos z] at c77; exact absurd c77 (by decide))]; exact hj⟩) (by simp [nI_1]) rfl | exact go_cong (ih2 _ ⟨F.uI (by unfold S8; omega), ⟨by rw [hI_uI_ne (by omega)]; exact w1, fun i hi => by rw [hI_uI_ne (by omega)]; exact w2 i hi⟩, fun i h1 h2 => by rw [e0, hI_uI_ne (by omega)]; exact ht i h1 h2, by rw [e0, hI_uI_eq, if_pos cg]⟩) (by simp [nI_1]) rfl
        · refine go_aloadn dX5_fillLeft_80 rfl ?_
          refine sg_getR dX5_fillLeft_81 fX5_15 rfl (ti_L rfl) hS (ti_r1 hS rfl) ?_
          refine go_iloadn dX5_fillLeft_84 rfl ?_
          refine go_aloadn dX5_fillLeft_85 rfl ?_
          refine sg_getR dX5_fillLeft_86 fX5_15 rfl (ti_L rfl) hS (ti_r1 hS rfl) ?_
          refine go_iloadn dX5_fillLeft_89 rfl ?_
          refine sg_iald dX5_fillLeft_90 (ti_1 rfl) hS (vp_in_nI (by omega) (by decide)) ?_
          rw [e0, hj]
          refine go_aloadn dX5_fillLeft_91 rfl ?_
          refine go_aloadn dX5_fillLeft_92 rfl ?_
          refine go_aloadn dX5_fillLeft_93 rfl ?_
          refine sg_getR dX5_fillLeft_94 fX5_18 rfl (ti_L rfl) hS (ti_r2 hS rfl) ?_
          refine go_iloadn dX5_fillLeft_97 rfl ?_
          refine sg_iald dX5_fillLeft_98 (ti_2 rfl) hS (vp_in_nI (by omega) (by decide)) ?_
          rw [e1, w2 _ q]
          refine go_iload dX5_fillLeft_99 rfl ?_
          refine go_iloadn dX5_fillLeft_101 rfl ?_
          refine sg_cVi (M' := mX5_costWith) ([.ref 30, .int (nI (L.getD (pop j) 0)), .int (nI p), .int (nI j)]) dX5_fillLeft_102 lX5_97 vX5_costWith (ti_L rfl) (by decide) rfl hS (r_costWith W H2 O hx hp (by omega)) rfl (Nat.le_of_ble_eq_true rfl) (Nat.zero_le _) (Nat.zero_le _) ?_
          have cg : cgB T (L.getD (pop j) 0) p j = true := by cases z : cgB T (L.getD (pop j) 0) p j; (rw [z] at c77; exact absurd rfl c77); rfl
          have po := pop_or ⟨j, by omega⟩ ⟨p, by omega⟩ (cg_tb cg)
          dsimp only at po
          rw [ht (j ||| 2 ^ p) (by omega) (or_lt2 (by omega) hp), po.1]
          refine go_min dX5_fillLeft_105 lX5_101 (Nat.le_of_ble_eq_true rfl) (by simp only [rmOf]; omega) (by simp only [rmOf]; omega) (Nat.zero_le _) (Nat.zero_le _) ?_
          rw [enO_min hls (hdl _) (coN_le O hx hp).1 (by decide) (by decide) (by decide)]
          refine sg_iast dX5_fillLeft_108 (ti_1 rfl) hS (hV) ?_
          refine go_iinc4 (c1 := 1) dX5_fillLeft_109 rfl rfl ?_
          refine go_goto (tgt := 44) dX5_fillLeft_112 (by decide) ?_
          first | exact go_cong (ih2 g ⟨F, hw, ht, by rw [if_neg (fun z => by rw [if_pos z] at c77; exact absurd c77 (by decide))]; exact hj⟩) (by simp [nI_1]) rfl | exact go_cong (ih2 _ ⟨F.uI (by unfold S8; omega), ⟨by rw [hI_uI_ne (by omega)]; exact w1, fun i hi => by rw [hI_uI_ne (by omega)]; exact w2 i hi⟩, fun i h1 h2 => by rw [e0, hI_uI_ne (by omega)]; exact ht i h1 h2, by rw [e0, hI_uI_eq, if_pos cg]⟩) (by simp [nI_1]) rfl
      · obtain ⟨F, hw, ht, hj⟩ := hh
        have H2 := H.fc (F.sub (fun _ => s8c))
        obtain ⟨-, hbc, hS⟩ := H2.hc
        have hpe := H2.1.1.2.2.2.2.2.2.1
        refine go_iloadn dX5_fillLeft_44 rfl ?_
        refine go_aloadn dX5_fillLeft_45 rfl ?_
        refine sg_getI dX5_fillLeft_46 fX5_87 rfl (ti_L rfl) hS ?_
        rw [hw.1]
        refine go_icmp_ge (tgt := 115) dX5_fillLeft_49 (by decide) (fun c49 => absurd c49 (nI_ge q (by omega))) (fun c49 => ?_)
        refine go_iload dX5_fillLeft_52 rfl ?_
        refine go_aloadn dX5_fillLeft_54 rfl ?_
        refine sg_getR dX5_fillLeft_55 fX5_21 rfl (tw_L at30) hS hbc ?_
        refine sg_getI dX5_fillLeft_58 fX5_27 rfl (ct_L hc) hS ?_
        rw [hpe]
        refine go_icmp_ge (tgt := 115) dX5_fillLeft_61 (by decide) (fun c61 => ?_) (fun c61 => absurd (nI_le (Nat.le_refl _) (by omega)) c61)
        refine go_iinc2 (c1 := -1) dX5_fillLeft_115 rfl rfl ?_
        refine go_goto (tgt := 12) dX5_fillLeft_118 (by decide) ?_
        exact go_back (ih j _ g (by omega) ⟨rfl, by omega, F, hw, fun i h1 h2 => by by_cases e : i = j; (· subst e; rw [ed, lsL_c]; exact hj); exact ht i (by omega) h2⟩) (by simp [lsub]) rfl
    · refine go_iloadn dX5_fillLeft_12 rfl ?_
      refine go_if_lt (tgt := 121) dX5_fillLeft_13 (by decide) (fun c13 => absurd c13 (nI_pos (by omega))) (fun c13 => ?_)
      refine go_iloadn dX5_fillLeft_16 rfl ?_
      refine sg_cSi (M' := mJ6_bitCount_0f7a4) ([.int _]) dX5_fillLeft_17 lX5_57 sJ6_bitCount_0f7a4 hS (r_bitCount) rfl (Nat.le_of_ble_eq_true rfl) (Nat.zero_le _) (Nat.zero_le _) ?_
      rw [b1]
      refine go_ist3 dX5_fillLeft_20 rfl ?_
      refine go_aloadn dX5_fillLeft_21 rfl ?_
      refine sg_getR dX5_fillLeft_22 fX5_15 rfl (ti_L rfl) hS (ti_r1 hS rfl) ?_
      refine go_iloadn dX5_fillLeft_25 rfl ?_
      refine go_iloadn dX5_fillLeft_26 rfl ?_
      refine go_aloadn dX5_fillLeft_27 rfl ?_
      refine sg_getI dX5_fillLeft_28 fX5_87 rfl (ti_L rfl) hS ?_
      rw [w1]
      refine go_icmp_lt (tgt := 38) dX5_fillLeft_31 (by decide) (fun c31 => absurd c31 (nI_nlt (by omega) (by omega))) (fun c31 => ?_)
      refine go_iconst (v := 0) dX5_fillLeft_34 rfl ?_
      refine go_goto (tgt := 40) dX5_fillLeft_35 (by decide) ?_
      refine sg_iast dX5_fillLeft_40 (ti_1 rfl) hS (hV) ?_
      rw [e0]
      refine go_iconst (v := 0) dX5_fillLeft_41 rfl ?_
      refine go_ist4 dX5_fillLeft_42 rfl ?_
      refine go_iloadn dX5_fillLeft_44 rfl ?_
      refine go_aloadn dX5_fillLeft_45 rfl ?_
      refine sg_getI dX5_fillLeft_46 fX5_87 rfl (ti_L rfl) hS ?_
      rw [hI_uI_ne (by omega), w1]
      refine go_icmp_ge (tgt := 115) dX5_fillLeft_49 (by decide) (fun c49 => ?_) (fun c49 => absurd (nI_le (by omega) (by omega)) c49)
      refine go_iinc2 (c1 := -1) dX5_fillLeft_115 rfl rfl ?_
      refine go_goto (tgt := 12) dX5_fillLeft_118 (by decide) ?_
      exact go_back (ih j _ _ (by omega) ⟨rfl, by omega, F.uI (by unfold S8; omega), ⟨by rw [hI_uI_ne (by omega)]; exact w1, fun i hi => by rw [hI_uI_ne (by omega)]; exact w2 i hi⟩, fun i h1 h2 => by by_cases e : i = j; (· subst e; rw [hI_uI_eq, drop_end (by omega)]; rfl); (rw [hI_uI_ne (by omega)]; exact ht i (by omega) h2)⟩) (by simp [lsub]) rfl
/-- who gets the thing t, of those still free -/
def foO (C : Cy) (T : Tn) (t : Nat) (W : List Nat) (k : Nat) : Option Nat := fsN (fun p => cgB T t p k = true ∧ (lsL C T W (k ||| 2 ^ p)).map (coN T t p + ·) = lsL C T (t :: W) k) (cP C)
theorem en_eq {o : Option Nat} {c v n : Nat} (ho : leO o n) (hn : n ≤ 200) (hc : c ≤ 9) (hv : v ≤ 200) : (nI c + enO 1000000 o = nI v) ↔ o.map (c + ·) = some v := by
  cases o with
  | none =>
    show (nI c + nI 1000000 = nI v) ↔ none = some v
    rw [nI_add, nI_eq (by omega) (by omega)]
    constructor
    · intro e; omega
    · intro e; cases e
  | some o =>
    have := ho o rfl
    show (nI c + nI o = nI v) ↔ some (c + o) = some v
    rw [nI_add, nI_eq (by omega) (by omega), Option.some.injEq]
theorem r_firstOf {l : Launch} {d c fs fr i k v : Nat} {C : Cy} {T : Tn} {L : List Nat} {h : Hp} (W : WC C) (H : TV h 30 c fs fr C T) (O : WO C T) (hL : ∀ t ∈ L, t < cN C) (hL10 : L.length ≤ 10) (hT : LT h C T L 0) (hi : i < L.length) (hk : k < 2 ^ cP C) (hpk : pop k = i) (hv : lsL C T (L.drop i) k = some v) :
    Ex l (d + 2) mX5_firstOf [.ref 73, .ref 30, .int (nI (L.getD i 0)), .int (nI k)] h (some (.int (oN nI (foO C T (L.getD i 0) (L.drop (i + 1)) k)))) h := by
  obtain ⟨hc, hbc, hS⟩ := H.hc
  have hN1 := W.1.1
  have hP := W.1.2.1
  have h8 := p8 hP
  have hpe := H.1.1.2.2.2.2.2.2.1
  have ed := wl_at hi
  have hx := hL _ (wl_mem hi)
  have hdl : ∀ k, leO (lsL C T (L.drop (i + 1)) k) 200 := fun k v e => by have := lsL_le O (L.drop (i + 1)) (fun t z => hL t (List.mem_of_mem_drop z)) k v e; rw [List.length_drop] at this; omega
  have hv2 : v ≤ 200 := by have := lsL_le O (L.drop i) (fun t z => hL t (List.mem_of_mem_drop z)) k v hv; rw [List.length_drop] at this; omega
  have hk0 : hI h 75 k = nI v := by rw [hT k (Nat.zero_le _) hk, hpk, hv]; rfl
  rw [ed] at hv
  have e0 : (nI k).toNatClampNeg = k := cl_nI (by omega)
  generalize L.getD i 0 = t at *
  refine run_lv [some (.ref 73), some (.ref 30), some (.int (nI t)), some (.int (nI k)), none] (go := ?_)
  refine go_iconst (v := 0) dX5_firstOf_0 rfl ?_
  refine go_ist4 dX5_firstOf_1 rfl ?_
  refine go_loop (lvf := fun p => [some (.ref 73), some (.ref 30), some (.int (nI t)), some (.int (nI k)), some (.int (nI p))]) (hf := fun _ => h) (cP C) (fun p => ∀ j, j < p → ¬ (cgB T t j k = true ∧ (lsL C T (L.drop (i + 1)) (k ||| 2 ^ j)).map (coN T t j + ·) = lsL C T (t :: L.drop (i + 1)) k)) (fun p hp hh ih => ?_) (fun hh => ?_) 0 (Nat.zero_le _) (fun _ q => absurd q (by omega))
  · refine go_iload dX5_firstOf_3 rfl ?_
    refine go_aloadn dX5_firstOf_5 rfl ?_
    refine sg_getR dX5_firstOf_6 fX5_21 rfl (tw_L at30) hS hbc ?_
    refine sg_getI dX5_firstOf_9 fX5_27 rfl (ct_L hc) hS ?_
    rw [hpe]
    refine go_icmp_ge (tgt := 53) dX5_firstOf_12 (by decide) (fun c12 => absurd c12 (nI_ge hp (by omega))) (fun c12 => ?_)
    refine go_aloadn dX5_firstOf_15 rfl ?_
    refine go_iloadn dX5_firstOf_16 rfl ?_
    refine go_iload dX5_firstOf_17 rfl ?_
    refine go_iloadn dX5_firstOf_19 rfl ?_
    refine sg_cSi (M' := mX5_canGo) ([.ref 30, .int (nI t), .int (nI p), .int (nI k)]) dX5_firstOf_20 lX5_93 sX5_canGo hS (r_canGo W H hx hp (by omega)) rfl (Nat.le_of_ble_eq_true rfl) (Nat.zero_le _) (Nat.zero_le _) ?_
    refine go_if_eq (tgt := 47) dX5_firstOf_23 (by decide) (fun c23 => ?_) (fun c23 => ?_)
    · exact (by
      refine go_iinc4 (c1 := 1) dX5_firstOf_47 rfl rfl ?_
      refine go_goto (tgt := 3) dX5_firstOf_50 (by decide) ?_
      exact go_cong (ih (fun j hj => by by_cases e : j = p; (· subst e; rintro ⟨q1, -⟩; rw [if_pos q1] at c23; exact absurd c23 (by decide)); exact hh j (by omega))) (by simp [nI_1]) rfl)
    · refine go_aloadn dX5_firstOf_26 rfl ?_
      refine go_aloadn dX5_firstOf_27 rfl ?_
      refine go_iloadn dX5_firstOf_28 rfl ?_
      refine go_iload dX5_firstOf_29 rfl ?_
      refine go_iloadn dX5_firstOf_31 rfl ?_
      refine sg_cVi (M' := mX5_costWith) ([.ref 30, .int (nI t), .int (nI p), .int (nI k)]) dX5_firstOf_32 lX5_97 vX5_costWith (ti_L rfl) (by decide) rfl hS (r_costWith W H O hx hp (by omega)) rfl (Nat.le_of_ble_eq_true rfl) (Nat.zero_le _) (Nat.zero_le _) ?_
      have cg : cgB T t p k = true := by cases z : cgB T t p k; (rw [z] at c23; exact absurd rfl c23); rfl
      have po := pop_or ⟨k, by omega⟩ ⟨p, by omega⟩ (cg_tb cg)
      dsimp only at po
      rw [hT (k ||| 2 ^ p) (Nat.zero_le _) (or_lt2 hk hp), po.1, hpk]
      refine go_aloadn dX5_firstOf_35 rfl ?_
      refine sg_getR dX5_firstOf_36 fX5_15 rfl (ti_L rfl) hS (ti_r1 hS rfl) ?_
      refine go_iloadn dX5_firstOf_39 rfl ?_
      refine sg_iald dX5_firstOf_40 (ti_1 rfl) hS (vp_in_nI (by omega) (by decide)) ?_
      rw [e0, hk0]
      refine go_icmp_ne (tgt := 47) dX5_firstOf_41 (by decide) (fun c41 => ?_) (fun c41 => ?_)
      · refine go_iinc4 (c1 := 1) dX5_firstOf_47 rfl rfl ?_
        refine go_goto (tgt := 3) dX5_firstOf_50 (by decide) ?_
        exact go_cong (ih (fun j hj => by by_cases e : j = p; (· subst e; rintro ⟨-, q2⟩; rw [hv] at q2; exact c41 ((en_eq (hdl _) (by decide) (coN_le O hx hp).1 hv2).mpr q2)); exact hh j (by omega))) (by simp [nI_1]) rfl
      · refine go_iload dX5_firstOf_44 rfl ?_
        refine go_ireturn dX5_firstOf_46 rfl rfl (Nat.zero_le _) (Nat.zero_le _) ?_
        exact ⟨by rw [foO, fs_some hp ⟨cg, by rw [hv]; exact (en_eq (hdl _) (by decide) (coN_le O hx hp).1 hv2).mp c41⟩ hh]; rfl, rfl⟩
  · refine go_iload dX5_firstOf_3 rfl ?_
    refine go_aloadn dX5_firstOf_5 rfl ?_
    refine sg_getR dX5_firstOf_6 fX5_21 rfl (tw_L at30) hS hbc ?_
    refine sg_getI dX5_firstOf_9 fX5_27 rfl (ct_L hc) hS ?_
    rw [hpe]
    refine go_icmp_ge (tgt := 53) dX5_firstOf_12 (by decide) (fun c12 => ?_) (fun c12 => absurd (nI_le (Nat.le_refl _) (by omega)) c12)
    refine go_iconst (v := -1) dX5_firstOf_53 rfl ?_
    refine go_ireturn dX5_firstOf_54 rfl rfl (Nat.zero_le _) (Nat.zero_le _) ?_
    exact ⟨by rw [foO, fs_none hh]; rfl, rfl⟩
def gtT (C : Cy) (T : Tn) (x : Int32) : List Nat → Nat → Int32
  | [], _ => -1
  | t :: W, k => match foO C T t W k with
    | none => -1
    | some p => if nI t = x then nI p else gtT C T x W (k ||| 2 ^ p)
theorem foO_some {C : Cy} {T : Tn} {t : Nat} {W : List Nat} {k p v : Nat} (h : foO C T t W k = some p) (hv : lsL C T (t :: W) k = some v) : p < cP C ∧ k.testBit p = false ∧ ∃ v', lsL C T W (k ||| 2 ^ p) = some v' := by
  obtain ⟨h1, ⟨h2, h3⟩, -⟩ := fs_of_some h
  refine ⟨h1, cg_tb h2, ?_⟩
  rw [hv] at h3
  cases e : lsL C T W (k ||| 2 ^ p) with
  | none => rw [e] at h3; cases h3
  | some v' => exact ⟨v', rfl⟩
theorem r_goesTo {l : Launch} {d c fs fr v : Nat} {x : Int32} {C : Cy} {T : Tn} {L : List Nat} {h : Hp} (W : WC C) (H : TV h 30 c fs fr C T) (O : WO C T) (hL : ∀ t ∈ L, t < cN C) (hL10 : L.length ≤ 10) (hw : WL h L) (hT : LT h C T L 0) (hv : lsL C T L 0 = some v) :
    Ex l (d + 3) mX5_goesTo [.ref 73, .ref 30, .int x] h (some (.int (gtT C T x L 0))) h := by
  obtain ⟨-, -, hS⟩ := H.hc
  have hN1 := W.1.1
  have hP := W.1.2.1
  have h8 := p8 hP
  obtain ⟨w1, w2⟩ := id hw
  refine run_lv [some (.ref 73), some (.ref 30), some (.int x), none, none, none] (go := ?_)
  refine go_iconst (v := 0) dX5_goesTo_0 rfl ?_
  refine go_ist3 dX5_goesTo_1 rfl ?_
  refine go_iconst (v := 0) dX5_goesTo_2 rfl ?_
  refine go_ist4 dX5_goesTo_3 rfl ?_
  refine go_wf (I := fun m lv g => g = h ∧ ∃ i k v, lv = [some (.ref 73), some (.ref 30), some (.int x), some (.int (nI k)), some (.int (nI i)), none] ∧ i ≤ L.length ∧ m = L.length - i ∧ k < 2 ^ cP C ∧ pop k = i ∧ lsL C T (L.drop i) k = some v ∧ gtT C T x L 0 = gtT C T x (L.drop i) k) (fun m lv g hh ih => ?_) L.length _ _ ⟨rfl, 0, 0, v, rfl, Nat.zero_le _, rfl, Nat.two_pow_pos _, by decide, hv, rfl⟩
  obtain ⟨rfl, i, k, v, rfl, hi, rfl, hk, hpk, hv, hg⟩ := hh
  by_cases q : i < L.length
  · have hV : vp_in (nI i) 10 := vp_in_nI (by omega) (by decide)
    have e0 : (nI i).toNatClampNeg = i := cl_nI (by omega)
    have ed := wl_at q
    have hx := hL _ (wl_mem q)
    have hf := r_firstOf (l := l) (d := d) W H O hL hL10 hT q hk hpk hv
    rw [ed] at hv hg
    cases hfo : foO C T (L.getD i 0) (L.drop (i + 1)) k with
    | none =>
      rw [hfo] at hf
      refine go_iload dX5_goesTo_5 rfl ?_
      refine go_aloadn dX5_goesTo_7 rfl ?_
      refine sg_getI dX5_goesTo_8 fX5_87 rfl (ti_L rfl) hS ?_
      rw [w1]
      refine go_icmp_ge (tgt := 62) dX5_goesTo_11 (by decide) (fun c11 => absurd c11 (nI_ge q (by omega))) (fun c11 => ?_)
      refine go_aloadn dX5_goesTo_14 rfl ?_
      refine go_aloadn dX5_goesTo_15 rfl ?_
      refine go_aloadn dX5_goesTo_16 rfl ?_
      refine sg_getR dX5_goesTo_17 fX5_18 rfl (ti_L rfl) hS (ti_r2 hS rfl) ?_
      refine go_iload dX5_goesTo_20 rfl ?_
      refine sg_iald dX5_goesTo_22 (ti_2 rfl) hS (hV) ?_
      rw [e0, w2 i q]
      refine go_iloadn dX5_goesTo_23 rfl ?_
      refine sg_cVi (M' := mX5_firstOf) ([.ref 30, .int (nI (L.getD i 0)), .int (nI k)]) dX5_goesTo_24 lX5_115 vX5_firstOf (ti_L rfl) (by decide) rfl hS (hf) rfl (Nat.le_of_ble_eq_true rfl) (Nat.zero_le _) (Nat.zero_le _) ?_
      refine go_ist5 dX5_goesTo_27 rfl ?_
      refine go_iload dX5_goesTo_29 rfl ?_
      refine go_iconst (v := -1) dX5_goesTo_31 rfl ?_
      refine go_icmp_eq (tgt := 46) dX5_goesTo_32 (by decide) (fun c32 => ?_) (fun c32 => absurd rfl c32)
      refine go_iload dX5_goesTo_46 rfl ?_
      refine go_ireturn dX5_goesTo_48 rfl rfl (Nat.zero_le _) (Nat.zero_le _) ?_
      exact ⟨by rw [hg]; simp only [gtT, hfo]; rfl, rfl⟩
    | some p =>
      rw [hfo] at hf
      obtain ⟨hp, tb, v', hv'⟩ := foO_some hfo hv
      have po := pop_or ⟨k, by omega⟩ ⟨p, by omega⟩ tb
      dsimp only at po
      refine go_iload dX5_goesTo_5 rfl ?_
      refine go_aloadn dX5_goesTo_7 rfl ?_
      refine sg_getI dX5_goesTo_8 fX5_87 rfl (ti_L rfl) hS ?_
      rw [w1]
      refine go_icmp_ge (tgt := 62) dX5_goesTo_11 (by decide) (fun c11 => absurd c11 (nI_ge q (by omega))) (fun c11 => ?_)
      refine go_aloadn dX5_goesTo_14 rfl ?_
      refine go_aloadn dX5_goesTo_15 rfl ?_
      refine go_aloadn dX5_goesTo_16 rfl ?_
      refine sg_getR dX5_goesTo_17 fX5_18 rfl (ti_L rfl) hS (ti_r2 hS rfl) ?_
      refine go_iload dX5_goesTo_20 rfl ?_
      refine sg_iald dX5_goesTo_22 (ti_2 rfl) hS (hV) ?_
      rw [e0, w2 i q]
      refine go_iloadn dX5_goesTo_23 rfl ?_
      refine sg_cVi (M' := mX5_firstOf) ([.ref 30, .int (nI (L.getD i 0)), .int (nI k)]) dX5_goesTo_24 lX5_115 vX5_firstOf (ti_L rfl) (by decide) rfl hS (hf) rfl (Nat.le_of_ble_eq_true rfl) (Nat.zero_le _) (Nat.zero_le _) ?_
      refine go_ist5 dX5_goesTo_27 rfl ?_
      refine go_iload dX5_goesTo_29 rfl ?_
      refine go_iconst (v := -1) dX5_goesTo_31 rfl ?_
      refine go_icmp_eq (tgt := 46) dX5_goesTo_32 (by decide) (fun c32 => absurd c32 (nI_m1 (by omega))) (fun c32 => ?_)
      refine go_aloadn dX5_goesTo_35 rfl ?_
      refine sg_getR dX5_goesTo_36 fX5_18 rfl (ti_L rfl) hS (ti_r2 hS rfl) ?_
      refine go_iload dX5_goesTo_39 rfl ?_
      refine sg_iald dX5_goesTo_41 (ti_2 rfl) hS (hV) ?_
      rw [e0, w2 i q]
      refine go_iloadn dX5_goesTo_42 rfl ?_
      refine go_icmp_ne (tgt := 49) dX5_goesTo_43 (by decide) (fun c43 => ?_) (fun c43 => ?_)
      · refine go_iloadn dX5_goesTo_49 rfl ?_
        refine go_iconst (v := 1) dX5_goesTo_50 rfl ?_
        refine go_iload dX5_goesTo_51 rfl ?_
        refine go_ishl dX5_goesTo_53 ?_
        rw [show (oN nI (some p)) = nI p from rfl]
        refine go_ior dX5_goesTo_54 ?_
        rw [po.2.2.2]
        refine go_ist3 dX5_goesTo_55 rfl ?_
        refine go_iinc4 (c1 := 1) dX5_goesTo_56 rfl rfl ?_
        refine go_goto (tgt := 5) dX5_goesTo_59 (by decide) ?_
        exact go_back (ih (L.length - (i + 1)) _ g (by omega) ⟨rfl, i + 1, k ||| 2 ^ p, v', rfl, by omega, rfl, or_lt2 hk hp, by omega, hv', hg.trans (by simp only [gtT, hfo]; rw [if_neg c43])⟩) (by simp [lsub, nI_1]) rfl
      · refine go_iload dX5_goesTo_46 rfl ?_
        refine go_ireturn dX5_goesTo_48 rfl rfl (Nat.zero_le _) (Nat.zero_le _) ?_
        exact ⟨by rw [hg]; simp only [gtT, hfo]; rw [if_pos c43]; rfl, rfl⟩
  · have e : L.drop i = [] := drop_end (by omega)
    rw [e] at hg
    refine go_iload dX5_goesTo_5 rfl ?_
    refine go_aloadn dX5_goesTo_7 rfl ?_
    refine sg_getI dX5_goesTo_8 fX5_87 rfl (ti_L rfl) hS ?_
    rw [w1]
    refine go_icmp_ge (tgt := 62) dX5_goesTo_11 (by decide) (fun c11 => ?_) (fun c11 => absurd (nI_le (by omega) (by omega)) c11)
    refine go_iconst (v := -1) dX5_goesTo_62 rfl ?_
    refine go_ireturn dX5_goesTo_63 rfl rfl (Nat.zero_le _) (Nat.zero_le _) ?_
    exact ⟨by rw [hg]; rfl, rfl⟩
/-- the least shame, or to whom a thing goes -/
def leT (C : Cy) (T : Tn) (x : Int32) : Int32 := match lsL C T (wlN T (cN C)) 0 with
  | none => -2
  | some v => if x = -1 then nI v else gtT C T x (wlN T (cN C)) 0
theorem r_leastShame {l : Launch} {d c fs fr : Nat} {x : Int32} {C : Cy} {T : Tn} {h : Hp} (W : WC C) (H : TV h 30 c fs fr C T) (O : WO C T) : Ey l (d + 4) mX5_leastShame [.ref 73, .ref 30, .int x] h (some (.int (leT C T x))) (F8 h) := by
  have hS := H.hc.2.2
  have hN1 := W.1.1
  have hP := W.1.2.1
  have hlen : (wlN T (cN C)).length ≤ 10 := Nat.le_trans wlN_len hN1
  have hL : ∀ t ∈ wlN T (cN C), t < cN C := fun t => wlN_lt
  have p0 : 0 < 2 ^ cP C := Nat.two_pow_pos _
  refine run_lv [some (.ref 73), some (.ref 30), some (.int x)] (go := ?_)
  refine go_aloadn dX5_leastShame_0 rfl ?_
  refine go_aloadn dX5_leastShame_1 rfl ?_
  refine sg_rV0 (M' := mX5_listWorn) ([.ref 30]) dX5_leastShame_2 lX5_76 vX5_listWorn (ti_L rfl) (by decide) rfl hS (r_listWorn W H) rfl (Nat.le_of_ble_eq_true rfl) (Nat.zero_le _) (Nat.zero_le _) (fun g1 F1 => ?_)
  have H2 := H.fc (F1.1.sub (fun _ => s8c))
  have hS := H2.hc.2.2
  refine go_aloadn dX5_leastShame_5 rfl ?_
  refine go_aloadn dX5_leastShame_6 rfl ?_
  refine sg_rV0 (M' := mX5_fillLeft) ([.ref 30]) dX5_leastShame_7 lX5_80 vX5_fillLeft (ti_L rfl) (by decide) rfl hS (r_fillLeft W H2 O hL hlen F1.2) rfl (Nat.le_of_ble_eq_true rfl) (Nat.zero_le _) (Nat.zero_le _) (fun g2 F2 => ?_)
  have H3 := H2.fc (F2.1.sub (fun _ => s8c))
  have hS := H3.hc.2.2
  have e0 := F2.2.2 0 (Nat.zero_le _) p0
  rw [show pop 0 = 0 from by decide, List.drop_zero] at e0
  refine go_aloadn dX5_leastShame_10 rfl ?_
  refine sg_getR dX5_leastShame_11 fX5_15 rfl (ti_L rfl) hS (ti_r1 hS rfl) ?_
  refine go_iconst (v := 0) dX5_leastShame_14 rfl ?_
  refine sg_iald dX5_leastShame_15 (ti_1 rfl) hS (vp_in_nI (n := 0) (by decide) (by decide)) ?_
  skip
  show Go _ _ _ _ _ _ _ (.int (hI g2 75 0) :: []) _ _ _
  rw [e0]
  cases hv : lsL C T (wlN T (cN C)) 0 with
  | none =>
    refine go_ldc dX5_leastShame_16 kX5_83 ?_
    refine go_icmp_lt (tgt := 24) dX5_leastShame_18 (by decide) (fun c18 => absurd c18 (by decide)) (fun c18 => ?_)
    refine go_bipush (v := -2) dX5_leastShame_21 rfl ?_
    refine go_ireturn dX5_leastShame_23 rfl rfl (Nat.zero_le _) (Nat.zero_le _) ?_
    exact ⟨by rw [leT, hv], F1.1.tr F2.1⟩
  | some v =>
    have hv2 : v ≤ 200 := by have := lsL_le O _ hL 0 v hv; omega
    refine go_ldc dX5_leastShame_16 kX5_83 ?_
    refine go_icmp_lt (tgt := 24) dX5_leastShame_18 (by decide) (fun c18 => ?_) (fun c18 => absurd (nI_lt (a := v) (b := 1000000) (by omega) (by decide)) c18)
    refine go_iloadn dX5_leastShame_24 rfl ?_
    refine go_iconst (v := -1) dX5_leastShame_25 rfl ?_
    refine go_icmp_ne (tgt := 38) dX5_leastShame_26 (by decide) (fun c26 => ?_) (fun c26 => ?_)
    · refine go_aloadn dX5_leastShame_38 rfl ?_
      refine go_aloadn dX5_leastShame_39 rfl ?_
      refine go_iloadn dX5_leastShame_40 rfl ?_
      refine sg_cVi (M' := mX5_goesTo) ([.ref 30, .int x]) dX5_leastShame_41 lX5_84 vX5_goesTo (ti_L rfl) (by decide) rfl hS (r_goesTo W H3 O hL hlen F2.2.1 F2.2.2 hv) rfl (Nat.le_of_ble_eq_true rfl) (Nat.zero_le _) (Nat.zero_le _) ?_
      refine go_ireturn dX5_leastShame_44 rfl rfl (Nat.zero_le _) (Nat.zero_le _) ?_
      exact ⟨by simp only [leT, hv]; first | rw [if_pos c26] | rw [if_neg c26], F1.1.tr F2.1⟩
    · refine go_aloadn dX5_leastShame_29 rfl ?_
      refine sg_getR dX5_leastShame_30 fX5_15 rfl (ti_L rfl) hS (ti_r1 hS rfl) ?_
      refine go_iconst (v := 0) dX5_leastShame_33 rfl ?_
      refine sg_iald dX5_leastShame_34 (ti_1 rfl) hS (vp_in_nI (n := 0) (by decide) (by decide)) ?_
      rw [show hI g2 75 (Int32.toNatClampNeg 0) = nI v from by rw [← show enO 1000000 (some v) = nI v from rfl, ← hv]; exact e0]
      refine go_goto (tgt := 44) dX5_leastShame_35 (by decide) ?_
      refine go_ireturn dX5_leastShame_44 rfl rfl (Nat.zero_le _) (Nat.zero_le _) ?_
      exact ⟨by simp only [leT, hv]; first | rw [if_pos c26] | rw [if_neg c26], F1.1.tr F2.1⟩
