/-! before all cells are made -/
section
variable {l : Launch} {M : MI} {n0 : Nat} {Z : ZT} {pc : Nat} {lv : List (Option Value)} {st : List Value} {h h' : Hp} {u w d : Nat} {B0 : Nat × Nat}
theorem ns_cS0 {M' : MI} (as : List Value) {idx : Nat} {stk : List Value} (hd : decode M.2.1 pc = .ok (.invokestatic idx, 3)) (hl : inG (.methodLink M.1.cls idx M'.1)) (hc : CS M' as.length) (hx : hN h < nAll → hN h = n0 + u)
    (hr : Ex l d M' as h none h') (hstk : stk = as.reverse ++ st) (hst : (st.map (fun v => v.category)).sum ≤ 8) (hu : u ≤ B0.1) (hw : w ≤ B0.2)
    (kk : Go l (rmOf (d + 1) B0) M n0 Z (pc + 3) lv st h' u w) : Go l (rmOf (d + 1) B0) M n0 Z pc lv stk h u w :=
  go_callS_ hd hl hc hr hstk hst (Nat.le_refl _) (Nat.le_of_eq (Nat.mul_succ 40 d).symm) hu hw hx (fun v h1 q => by obtain ⟨rfl, rfl⟩ := q; exact kk) (fun _ _ q => q.elim)
theorem ns_cV0 {M' : MI} (as : List Value) {a ci idx : Nat} {stk : List Value} (hd : decode M.2.1 pc = .ok (.invokevirtual idx, 3)) (hl : inG (.methodLink M.1.cls idx M'.1)) (hc : CV M' as.length) (ha : lay a = .inl ci) (hci : ci < 11) (hcl : clR ci = M'.1.cls) (hn : a < hN h) (hx : hN h < nAll → hN h = n0 + u) {R : Room} {d' : Nat}
    (hr : Ex l d' M' (.ref a :: as) h none h') (hstk : stk = as.reverse ++ .ref a :: st) (hst : (st.map (fun v => v.category)).sum ≤ 8) (hR1 : d' + 1 ≤ R.frames) (hR2 : 40 * d' + 40 ≤ R.locals) (hu : u ≤ R.cells) (hw : w ≤ R.slots)
    (kk : Go l R M n0 Z (pc + 3) lv st h' u w) : Go l R M n0 Z pc lv stk h u w :=
  go_callV_ hd hl hc ha hci hcl hn hr hstk hst hR1 hR2 hu hw hx (fun v h1 q => by obtain ⟨rfl, rfl⟩ := q; exact kk) (fun _ _ q => q.elim)
theorem go_copyN {R : Room} {idx a b na nb : Nat} {sp dp n : Int32} (hd : decode M.2.1 pc = .ok (.invokestatic idx, 3)) (hl : inG (.methodLink M.1.cls idx arraycopyName)) (hnat : inG (.native arraycopyName)) (hsta : inG (.static arraycopyName)) (hini : inG (.initialized "java/lang/System")) (ha : lay a = .inr (0, na)) (hb : lay b = .inr (0, nb)) (hna : a < hN h) (hnb : b < hN h)
    (h1 : ¬ sp < 0) (h2 : ¬ dp < 0) (h3 : ¬ n < 0) (h4 : sp.toNatClampNeg + n.toNatClampNeg ≤ na) (h5 : dp.toNatClampNeg + n.toNatClampNeg ≤ nb) (hst : (st.map (fun v => v.category)).sum ≤ 8) (hR1 : 1 ≤ R.frames) (hR2 : 40 ≤ R.locals)
    (k : Go l R M n0 Z (pc + 3) lv st (uF h b (va_cpy (hI h a) (hI h b) sp.toNatClampNeg dp.toNatClampNeg n.toNatClampNeg)) u w) : Go l R M n0 Z pc lv (.int n :: .int dp :: .ref b :: .int sp :: .ref a :: st) h u w := by
  intro p e s m args below meth c D A ρ C cA H locs ls hWd hS hL
  have hts := C.2.2.2.2.2.1
  have hK : va_K D vwCl [(cA a, .int), (cA b, .int)] s := ⟨hWd.1.1, fun j q hj => by
    match j, hj with
    | 0, hj => cases hj; exact hWd.2.1 a 0 na hna ha
    | 1, hj => cases hj; exact hWd.2.1 b 0 nb hnb hb
    | (j + 2), hj => cases hj⟩
  refine va_copyi (ty := .int) C.1 C.2.1 (by rw [C.2.2.1]; exact hL.2.1.symm) C.2.2.2.2.1 (hts _ (inG_mem hl)) (hts _ (inG_mem hnat)) (hts _ (inG_mem hsta)) (hts _ (inG_mem hini)) hK hWd.2.2.1 hWd.2.2.2 hS a b 0 1 (by rw [hW_at hna, hE_arr ha (by decide)]) (by rw [hW_at hnb, hE_arr hb (by decide)]) rfl rfl rfl h1 h2 h3 h4 h5 (fun i _ => rfl) hR1 ?_ hd (fun H1 locs1 hP hD hS1 => ?_)
  · have e1 : ((st.map (tv ρ)).map fun v => v.category).sum ≤ 8 := by rw [List.map_map]; simpa [Function.comp_def, tv_cat] using hst
    have e2 : nativeFrameWords "java/lang/System" "arraycopy" 5 + 11 ≤ 32 := by decide +kernel
    omega
  · refine k p e s m args below meth c D A ρ C cA H1 locs1 ls (hWd.put rfl ?_ (fun _ q => hE_uF_ne q) hP hD) hS1 hL
    have e : ∀ f : Nat → Int32, hI (uF h b f) b = f := fun f => funext fun j => by simp [hI, uF]
    rw [hE_arr hb (by decide), e]
end
theorem n_fill {l : Launch} {d a n : Nat} {h : Hp} {v : Int32} (hl : a < hN h) (ha : lay a = .inr (0, n)) (hn : n < 2 ^ 31) :
    Ex l (d + 1) mJ7_fill_53178 [.ref a, .int v] h none (uF h a (flF (hI h a) v n)) := by
  refine run_lv [some (.ref a), some (.int v), none, none] (go := ?_)
  refine go_iconst (v := 0) dJ7_fill_53178_0 rfl ?_
  refine go_ist2 dJ7_fill_53178_1 rfl ?_
  refine go_aloadn dJ7_fill_53178_2 rfl ?_
  refine go_alen (v := nI n) dJ7_fill_53178_3 ha hl rfl ?_
  refine go_ist3 dJ7_fill_53178_4 rfl ?_
  refine go_cong (go_loop (lvf := fun k => [some (.ref a), some (.int v), some (.int (nI k)), some (.int (nI n))]) (hf := fun k => uF h a (flF (hI h a) v k)) n (fun _ => True) (fun k hk _ ih => ?_) (fun _ => ?_) 0 (Nat.zero_le _) trivial) rfl (by rw [flF_zero, uF_self])
  · refine go_iloadn dJ7_fill_53178_5 rfl ?_
    refine go_iloadn dJ7_fill_53178_6 rfl ?_
    refine go_icmp_ge (tgt := 20) dJ7_fill_53178_7 (by decide) (fun c7 => ?_) (fun c7 => ?_)
    · exact absurd c7 (nI_ge hk hn)
    · refine go_aloadn dJ7_fill_53178_10 rfl ?_
      refine go_iloadn dJ7_fill_53178_11 rfl ?_
      refine go_iloadn dJ7_fill_53178_12 rfl ?_
      refine go_iast dJ7_fill_53178_13 ha hl (vp_in_nI hk hn) ?_
      refine go_iinc2 (c1 := 1) dJ7_fill_53178_14 rfl rfl ?_
      refine go_goto (tgt := 5) dJ7_fill_53178_17 (by decide) ?_
      exact go_cong (ih trivial) (by simp [nI_1]) (by rw [cl_nI (by omega), uI_uF, flF_succ])
  · refine go_iloadn dJ7_fill_53178_5 rfl ?_
    refine go_iloadn dJ7_fill_53178_6 rfl ?_
    refine go_icmp_ge (tgt := 20) dJ7_fill_53178_7 (by decide) (fun c7 => ?_) (fun c7 => ?_)
    · refine go_return dJ7_fill_53178_20 rfl (Nat.zero_le _) (Nat.zero_le _) ⟨rfl, rfl⟩
    · exact absurd (nI_le (Nat.le_refl _) hn) c7
theorem n_copyRow {l : Launch} {d a b n : Nat} {h : Hp} (hla : a < hN h) (hlb : b < hN h) (ha : lay a = .inr (0, n)) (hb : lay b = .inr (0, n)) (hn : n < 2 ^ 31) : Ex l (d + 1) mX6_copyRow [.ref a, .ref b] h none (cpH h a b n) := by
  refine run_lv [some (.ref a), some (.ref b)] (go := ?_)
  refine go_aloadn dX6_copyRow_0 rfl ?_
  refine go_iconst (v := 0) dX6_copyRow_1 rfl ?_
  refine go_aloadn dX6_copyRow_2 rfl ?_
  refine go_iconst (v := 0) dX6_copyRow_3 rfl ?_
  refine go_aloadn dX6_copyRow_4 rfl ?_
  refine go_alen (v := nI n) dX6_copyRow_5 ha hla rfl ?_
  refine go_aloadn dX6_copyRow_6 rfl ?_
  refine go_alen (v := nI n) dX6_copyRow_7 hb hlb rfl ?_
  refine go_min dX6_copyRow_8 lX6_75 (Nat.le_of_ble_eq_true rfl) (by simp only [rmOf]; omega) (by simp only [rmOf]; omega) (Nat.zero_le _) (Nat.zero_le _) ?_
  rw [ite_self]
  refine go_copyN dX6_copyRow_11 ac_X6 ac_nat ac_sta ac_ini ha hb hla hlb (by decide) (by decide) (nI_pos hn) (by rw [cl_nI hn]; exact Nat.le_of_eq (Nat.zero_add _)) (by rw [cl_nI hn]; exact Nat.le_of_eq (Nat.zero_add _)) (Nat.le_of_ble_eq_true rfl) (by simp only [rmOf]; omega) (by simp only [rmOf]; omega) ?_
  refine go_return dX6_copyRow_14 rfl (Nat.zero_le _) (Nat.zero_le _) ⟨rfl, ?_⟩
  rw [cl_nI hn]
  exact congrArg (uF h b) cpF_eq
theorem n_cClear {l : Launch} {d c : Nat} {h : Hp} (hc : CityAt c) (hl : c + 12 ≤ hN h) (Hr4 : hR h c 4 = some (c + 1)) (Hr5 : hR h c 5 = some (c + 2)) (Hr6 : hR h c 6 = some (c + 3)) (Hr7 : hR h c 7 = some (c + 4)) (Hr8 : hR h c 8 = some (c + 5)) (Hr9 : hR h c 9 = some (c + 6)) (Hr10 : hR h c 10 = some (c + 7)) (Hr11 : hR h c 11 = some (c + 8)) (Hr14 : hR h c 14 = some (c + 10)) (Hr15 : hR h c 15 = some (c + 11)) : Ex l (d + 2) mX1_clear [.ref c] h none (clC (clB (clA h c) c) c) := by
  refine run_lv [some (.ref c)] (go := ?_)
  refine go_aloadn dX1_clear_0 rfl ?_
  refine go_iconst (v := 3) dX1_clear_1 rfl ?_
  refine go_putI dX1_clear_2 fX1_52 rfl rfl (ct_L hc) (show _ < hN h by omega) ?_
  refine go_aloadn dX1_clear_5 rfl ?_
  refine go_iconst (v := 0) dX1_clear_6 rfl ?_
  refine go_putI dX1_clear_7 fX1_56 rfl rfl (ct_L hc) (show _ < hN h by omega) ?_
  refine go_aloadn dX1_clear_10 rfl ?_
  refine go_iconst (v := 0) dX1_clear_11 rfl ?_
  refine go_putI dX1_clear_12 fX1_59 rfl rfl (ct_L hc) (show _ < hN h by omega) ?_
  refine go_aloadn dX1_clear_15 rfl ?_
  refine go_bipush (v := 10) dX1_clear_16 rfl ?_
  refine go_putI dX1_clear_18 fX1_62 rfl rfl (ct_L hc) (show _ < hN h by omega) ?_
  refine go_aloadn dX1_clear_21 rfl ?_
  refine go_getR dX1_clear_22 fX1_9 rfl (ct_L hc) (show _ < hN h by omega) Hr4 ?_
  refine go_iconst (v := 0) dX1_clear_25 rfl ?_
  refine ns_cS0 (M' := mJ7_fill_53178) ([.ref (c + 1), .int 0]) dX1_clear_26 lX1_65 sJ7_fill_53178 (fun _ => rfl) (n_fill (show _ < hN h by omega) (ct_4 hc) (by decide)) rfl (Nat.le_of_ble_eq_true rfl) (Nat.zero_le _) (Nat.zero_le _) ?_
  refine go_aloadn dX1_clear_29 rfl ?_
  refine go_getR dX1_clear_30 fX1_15 rfl (ct_L hc) (show _ < hN h by omega) Hr5 ?_
  refine go_iconst (v := 0) dX1_clear_33 rfl ?_
  refine ns_cS0 (M' := mJ7_fill_53178) ([.ref (c + 2), .int 0]) dX1_clear_34 lX1_65 sJ7_fill_53178 (fun _ => rfl) (n_fill (show _ < hN h by omega) (ct_5 hc) (by decide)) rfl (Nat.le_of_ble_eq_true rfl) (Nat.zero_le _) (Nat.zero_le _) ?_
  refine go_aloadn dX1_clear_37 rfl ?_
  refine go_getR dX1_clear_38 fX1_18 rfl (ct_L hc) (show _ < hN h by omega) Hr6 ?_
  refine go_iconst (v := 0) dX1_clear_41 rfl ?_
  refine ns_cS0 (M' := mJ7_fill_53178) ([.ref (c + 3), .int 0]) dX1_clear_42 lX1_65 sJ7_fill_53178 (fun _ => rfl) (n_fill (show _ < hN h by omega) (ct_6 hc) (by decide)) rfl (Nat.le_of_ble_eq_true rfl) (Nat.zero_le _) (Nat.zero_le _) ?_
  refine go_aloadn dX1_clear_45 rfl ?_
  refine go_getR dX1_clear_46 fX1_21 rfl (ct_L hc) (show _ < hN h by omega) Hr7 ?_
  refine go_iconst (v := 0) dX1_clear_49 rfl ?_
  refine ns_cS0 (M' := mJ7_fill_53178) ([.ref (c + 4), .int 0]) dX1_clear_50 lX1_65 sJ7_fill_53178 (fun _ => rfl) (n_fill (show _ < hN h by omega) (ct_7 hc) (by decide)) rfl (Nat.le_of_ble_eq_true rfl) (Nat.zero_le _) (Nat.zero_le _) ?_
  refine go_aloadn dX1_clear_53 rfl ?_
  refine go_getR dX1_clear_54 fX1_24 rfl (ct_L hc) (show _ < hN h by omega) Hr8 ?_
  refine go_iconst (v := 0) dX1_clear_57 rfl ?_
  refine ns_cS0 (M' := mJ7_fill_53178) ([.ref (c + 5), .int 0]) dX1_clear_58 lX1_65 sJ7_fill_53178 (fun _ => rfl) (n_fill (show _ < hN h by omega) (ct_8 hc) (by decide)) rfl (Nat.le_of_ble_eq_true rfl) (Nat.zero_le _) (Nat.zero_le _) ?_
  refine go_aloadn dX1_clear_61 rfl ?_
  refine go_getR dX1_clear_62 fX1_27 rfl (ct_L hc) (show _ < hN h by omega) Hr9 ?_
  refine go_iconst (v := 0) dX1_clear_65 rfl ?_
  refine ns_cS0 (M' := mJ7_fill_53178) ([.ref (c + 6), .int 0]) dX1_clear_66 lX1_65 sJ7_fill_53178 (fun _ => rfl) (n_fill (show _ < hN h by omega) (ct_9 hc) (by decide)) rfl (Nat.le_of_ble_eq_true rfl) (Nat.zero_le _) (Nat.zero_le _) ?_
  refine go_aloadn dX1_clear_69 rfl ?_
  refine go_getR dX1_clear_70 fX1_30 rfl (ct_L hc) (show _ < hN h by omega) Hr10 ?_
  refine go_iconst (v := 0) dX1_clear_73 rfl ?_
  refine ns_cS0 (M' := mJ7_fill_53178) ([.ref (c + 7), .int 0]) dX1_clear_74 lX1_65 sJ7_fill_53178 (fun _ => rfl) (n_fill (show _ < hN h by omega) (ct_10 hc) (by decide)) rfl (Nat.le_of_ble_eq_true rfl) (Nat.zero_le _) (Nat.zero_le _) ?_
  refine go_aloadn dX1_clear_77 rfl ?_
  refine go_getR dX1_clear_78 fX1_33 rfl (ct_L hc) (show _ < hN h by omega) Hr11 ?_
  refine go_iconst (v := -1) dX1_clear_81 rfl ?_
  refine ns_cS0 (M' := mJ7_fill_53178) ([.ref (c + 8), .int (-1)]) dX1_clear_82 lX1_65 sJ7_fill_53178 (fun _ => rfl) (n_fill (show _ < hN h by omega) (ct_11 hc) (by decide)) rfl (Nat.le_of_ble_eq_true rfl) (Nat.zero_le _) (Nat.zero_le _) ?_
  refine go_aloadn dX1_clear_85 rfl ?_
  refine go_iconst (v := 0) dX1_clear_86 rfl ?_
  refine go_putI dX1_clear_87 fX1_71 rfl rfl (ct_L hc) (show _ < hN h by omega) ?_
  refine go_aloadn dX1_clear_90 rfl ?_
  refine go_getR dX1_clear_91 fX1_42 rfl (ct_L hc) (show _ < hN h by omega) Hr14 ?_
  refine go_iconst (v := 0) dX1_clear_94 rfl ?_
  refine go_putI dX1_clear_95 fX1_74 rfl rfl (ru_L (ct_sh hc)) (show _ < hN h by omega) ?_
  refine go_aloadn dX1_clear_98 rfl ?_
  refine go_getR dX1_clear_99 fX1_42 rfl (ct_L hc) (show _ < hN h by omega) Hr14 ?_
  refine go_iconst (v := 0) dX1_clear_102 rfl ?_
  refine go_putI dX1_clear_103 fX1_77 rfl rfl (ru_L (ct_sh hc)) (show _ < hN h by omega) ?_
  refine go_aloadn dX1_clear_106 rfl ?_
  refine go_getR dX1_clear_107 fX1_46 rfl (ct_L hc) (show _ < hN h by omega) Hr15 ?_
  refine go_iconst (v := 0) dX1_clear_110 rfl ?_
  refine go_putI dX1_clear_111 fX1_74 rfl rfl (ru_L (ct_re hc)) (show _ < hN h by omega) ?_
  refine go_aloadn dX1_clear_114 rfl ?_
  refine go_getR dX1_clear_115 fX1_46 rfl (ct_L hc) (show _ < hN h by omega) Hr15 ?_
  refine go_iconst (v := 0) dX1_clear_118 rfl ?_
  refine go_putI dX1_clear_119 fX1_77 rfl rfl (ru_L (ct_re hc)) (show _ < hN h by omega) ?_
  refine go_return dX1_clear_122 rfl (Nat.zero_le _) (Nat.zero_le _) ?_
  exact ⟨rfl, rfl⟩
theorem n_begin {l : Launch} {d b c : Nat} {h : Hp} (hb : TownAt b) (hc : CityAt c) (hl : c + 12 ≤ hN h) (hlb : b + 12 ≤ hN h) (Hr4 : hR h c 4 = some (c + 1)) (Hr7 : hR h c 7 = some (c + 4)) (Hr9 : hR h c 9 = some (c + 6)) (Hr10 : hR h c 10 = some (c + 7)) (Hr11 : hR h c 11 = some (c + 8)) (Ht3 : hR h b 3 = some (b + 1)) (Ht4 : hR h b 4 = some (b + 2)) (Ht5 : hR h b 5 = some (b + 3)) (Ht6 : hR h b 6 = some (b + 4)) (Ht7 : hR h b 7 = some (b + 5)) (Ht8 : hR h b 8 = some (b + 6)) (Ht9 : hR h b 9 = some (b + 7)) (hbc : ¬ b = c) : Ex l (d + 2) mX6_begin [.ref b, .ref c] h none (bgH h b c) := by
  have hr : ∀ a k, ¬ (a = b ∧ k = 0) → hR (uR h b 0 (some c)) a k = hR h a k := fun a k q => by simp only [hR, uR, up2]; rw [if_neg q]
  refine run_lv [some (.ref b), some (.ref c)] (go := ?_)
  refine go_aloadn dX6_begin_0 rfl ?_
  refine go_aloadn dX6_begin_1 rfl ?_
  refine go_putR dX6_begin_2 fX6_47 rfl rfl (tw_L hb) (show _ < hN h by omega) ?_
  rw [← hr c 4 (by omega)] at Hr4; rw [← hr c 7 (by omega)] at Hr7; rw [← hr c 9 (by omega)] at Hr9; rw [← hr c 10 (by omega)] at Hr10; rw [← hr c 11 (by omega)] at Hr11; rw [← hr b 3 (by omega)] at Ht3; rw [← hr b 4 (by omega)] at Ht4; rw [← hr b 5 (by omega)] at Ht5; rw [← hr b 6 (by omega)] at Ht6; rw [← hr b 7 (by omega)] at Ht7; rw [← hr b 8 (by omega)] at Ht8; rw [← hr b 9 (by omega)] at Ht9
  refine go_aloadn dX6_begin_5 rfl ?_
  refine go_iconst (v := 0) dX6_begin_6 rfl ?_
  refine go_putI dX6_begin_7 fX6_51 rfl rfl (tw_L hb) (show _ < hN h by omega) ?_
  refine go_aloadn dX6_begin_10 rfl ?_
  refine go_iconst (v := 0) dX6_begin_11 rfl ?_
  refine go_putI dX6_begin_12 fX6_55 rfl rfl (tw_L hb) (show _ < hN h by omega) ?_
  refine go_aloadn dX6_begin_15 rfl ?_
  refine go_getR dX6_begin_16 fX6_58 rfl (ct_L hc) (show _ < hN h by omega) Hr4 ?_
  refine go_aloadn dX6_begin_19 rfl ?_
  refine go_getR dX6_begin_20 fX6_9 rfl (tw_L hb) (show _ < hN h by omega) Ht3 ?_
  refine ns_cS0 (M' := mX6_copyRow) ([.ref (c + 1), .ref (b + 1)]) dX6_begin_23 lX6_61 sX6_copyRow (fun _ => rfl) (n_copyRow (show _ < hN h by omega) (show _ < hN h by omega) (ct_4 hc) (tw_3 hb) (by decide)) rfl (Nat.le_of_ble_eq_true rfl) (Nat.zero_le _) (Nat.zero_le _) ?_
  refine go_aloadn dX6_begin_26 rfl ?_
  refine go_getR dX6_begin_27 fX6_15 rfl (tw_L hb) (show _ < hN h by omega) Ht4 ?_
  refine go_iconst (v := 0) dX6_begin_30 rfl ?_
  refine ns_cS0 (M' := mJ7_fill_53178) ([.ref (b + 2), .int 0]) dX6_begin_31 lX6_65 sJ7_fill_53178 (fun _ => rfl) (n_fill (show _ < hN h by omega) (tw_4 hb) (by decide)) rfl (Nat.le_of_ble_eq_true rfl) (Nat.zero_le _) (Nat.zero_le _) ?_
  refine go_aloadn dX6_begin_34 rfl ?_
  refine go_getR dX6_begin_35 fX6_71 rfl (ct_L hc) (show _ < hN h by omega) Hr7 ?_
  refine go_aloadn dX6_begin_38 rfl ?_
  refine go_getR dX6_begin_39 fX6_18 rfl (tw_L hb) (show _ < hN h by omega) Ht5 ?_
  refine ns_cS0 (M' := mX6_copyRow) ([.ref (c + 4), .ref (b + 3)]) dX6_begin_42 lX6_61 sX6_copyRow (fun _ => rfl) (n_copyRow (show _ < hN h by omega) (show _ < hN h by omega) (ct_7 hc) (tw_5 hb) (by decide)) rfl (Nat.le_of_ble_eq_true rfl) (Nat.zero_le _) (Nat.zero_le _) ?_
  refine go_aloadn dX6_begin_45 rfl ?_
  refine go_getR dX6_begin_46 fX6_72 rfl (ct_L hc) (show _ < hN h by omega) Hr9 ?_
  refine go_aloadn dX6_begin_49 rfl ?_
  refine go_getR dX6_begin_50 fX6_21 rfl (tw_L hb) (show _ < hN h by omega) Ht6 ?_
  refine ns_cS0 (M' := mX6_copyRow) ([.ref (c + 6), .ref (b + 4)]) dX6_begin_53 lX6_61 sX6_copyRow (fun _ => rfl) (n_copyRow (show _ < hN h by omega) (show _ < hN h by omega) (ct_9 hc) (tw_6 hb) (by decide)) rfl (Nat.le_of_ble_eq_true rfl) (Nat.zero_le _) (Nat.zero_le _) ?_
  refine go_aloadn dX6_begin_56 rfl ?_
  refine go_getR dX6_begin_57 fX6_73 rfl (ct_L hc) (show _ < hN h by omega) Hr10 ?_
  refine go_aloadn dX6_begin_60 rfl ?_
  refine go_getR dX6_begin_61 fX6_24 rfl (tw_L hb) (show _ < hN h by omega) Ht7 ?_
  refine ns_cS0 (M' := mX6_copyRow) ([.ref (c + 7), .ref (b + 5)]) dX6_begin_64 lX6_61 sX6_copyRow (fun _ => rfl) (n_copyRow (show _ < hN h by omega) (show _ < hN h by omega) (ct_10 hc) (tw_7 hb) (by decide)) rfl (Nat.le_of_ble_eq_true rfl) (Nat.zero_le _) (Nat.zero_le _) ?_
  refine go_aloadn dX6_begin_67 rfl ?_
  refine go_getR dX6_begin_68 fX6_74 rfl (ct_L hc) (show _ < hN h by omega) Hr11 ?_
  refine go_aloadn dX6_begin_71 rfl ?_
  refine go_getR dX6_begin_72 fX6_27 rfl (tw_L hb) (show _ < hN h by omega) Ht8 ?_
  refine ns_cS0 (M' := mX6_copyRow) ([.ref (c + 8), .ref (b + 6)]) dX6_begin_75 lX6_61 sX6_copyRow (fun _ => rfl) (n_copyRow (show _ < hN h by omega) (show _ < hN h by omega) (ct_11 hc) (tw_8 hb) (by decide)) rfl (Nat.le_of_ble_eq_true rfl) (Nat.zero_le _) (Nat.zero_le _) ?_
  refine go_aloadn dX6_begin_78 rfl ?_
  refine go_getR dX6_begin_79 fX6_30 rfl (tw_L hb) (show _ < hN h by omega) Ht9 ?_
  refine go_iconst (v := 0) dX6_begin_82 rfl ?_
  refine ns_cS0 (M' := mJ7_fill_53178) ([.ref (b + 7), .int 0]) dX6_begin_83 lX6_65 sJ7_fill_53178 (fun _ => rfl) (n_fill (show _ < hN h by omega) (tw_9 hb) (by decide)) rfl (Nat.le_of_ble_eq_true rfl) (Nat.zero_le _) (Nat.zero_le _) ?_
  refine go_return dX6_begin_86 rfl (Nat.zero_le _) (Nat.zero_le _) ?_
  exact ⟨rfl, rfl⟩
