/-! Acts -/
def AI (h : Hp) (a F M : Nat) : Prop := (hI h a 1 = nI F ∧ F < 40) ∧ hI h a 2 = nI M ∧ M ≤ 40
theorem r_aClear {l : Launch} {d a : Nat} {h : Hp} (hS : St h) (ha : ActsAt a) : Ex l (d + 1) mX0_clear [.ref a] h none (uI (uI h a 1 0) a 2 0) := by
  refine run_lv [some (.ref a)] (go := ?_)
  refine go_aloadn dX0_clear_0 rfl ?_
  refine go_iconst (v := 0) dX0_clear_1 rfl ?_
  refine sg_putI dX0_clear_2 fX0_17 rfl rfl (ac_L ha) hS ?_
  refine go_aloadn dX0_clear_5 rfl ?_
  refine go_iconst (v := 0) dX0_clear_6 rfl ?_
  refine sg_putI dX0_clear_7 fX0_21 rfl rfl (ac_L ha) hS ?_
  refine go_return dX0_clear_10 rfl (Nat.zero_le _) (Nat.zero_le _) ?_
  exact ⟨rfl, rfl⟩
def acH (h : Hp) (a o : Nat) : Hp := uI (uI (cpH h (o + 1) (a + 1) 760) a 1 (hI h o 1)) a 2 (hI h o 2)
theorem r_aCopy {l : Launch} {d a o : Nat} {h : Hp} (hS : St h) (ha : ActsAt a) (ho : ActsAt o) (hao : a ≠ o) : Ex l (d + 1) mX0_copyFrom [.ref a, .ref o] h none (acH h a o) := by
  have x1 : o ≠ a + 1 := by rcases ha with rfl | rfl <;> rcases ho with rfl | rfl <;> omega
  refine run_lv [some (.ref a), some (.ref o)] (go := ?_)
  refine go_aloadn dX0_copyFrom_0 rfl ?_
  refine sg_getR dX0_copyFrom_1 fX0_13 rfl (ac_L ho) hS (ac_r0 hS ho) ?_
  refine go_iconst (v := 0) dX0_copyFrom_4 rfl ?_
  refine go_aloadn dX0_copyFrom_5 rfl ?_
  refine sg_getR dX0_copyFrom_6 fX0_13 rfl (ac_L ha) hS (ac_r0 hS ha) ?_
  refine go_iconst (v := 0) dX0_copyFrom_9 rfl ?_
  refine go_aloadn dX0_copyFrom_10 rfl ?_
  refine sg_getR dX0_copyFrom_11 fX0_13 rfl (ac_L ha) hS (ac_r0 hS ha) ?_
  refine sg_alen (v := 760) dX0_copyFrom_14 (ac_0 ha) hS rfl ?_
  refine go_copy dX0_copyFrom_15 ac_X0 ac_nat ac_sta ac_ini (ac_0 ho) (ac_0 ha) hS (by decide) (by decide) (by decide) (by decide) (by decide) (Nat.le_of_ble_eq_true rfl) (by simp only [rmOf]; omega) (by simp only [rmOf]; omega) ?_
  refine go_cong (h' := cpH h (o + 1) (a + 1) 760) ?_ rfl (congrArg (uF h (a + 1)) cpF_eq)
  refine go_aloadn dX0_copyFrom_18 rfl ?_
  refine go_aloadn dX0_copyFrom_19 rfl ?_
  refine sg_getI dX0_copyFrom_20 fX0_17 rfl (ac_L ho) hS ?_
  refine sg_putI dX0_copyFrom_23 fX0_17 rfl rfl (ac_L ha) hS ?_
  refine go_aloadn dX0_copyFrom_26 rfl ?_
  refine go_aloadn dX0_copyFrom_27 rfl ?_
  refine sg_getI dX0_copyFrom_28 fX0_21 rfl (ac_L ho) hS ?_
  refine sg_putI dX0_copyFrom_31 fX0_21 rfl rfl (ac_L ha) hS ?_
  refine go_return dX0_copyFrom_34 rfl (Nat.zero_le _) (Nat.zero_le _) ?_
  exact ⟨rfl, by rw [acH]; congr 1; (· congr 1; exact hI_uF_ne x1); rw [hI_uI_ne (fun q => hao q.1.symm)]; exact hI_uF_ne x1⟩
def kpH (h : Hp) (a b F M : Nat) : Hp := if M < 40 then uI (uF h (a + 1) (pkF h b (19 * ((F + M) % 40)) (hI h (a + 1)))) a 2 (nI (M + 1)) else uI (uF h (a + 1) (pkF h b (19 * ((F + M) % 40)) (hI h (a + 1)))) a 1 (nI ((F + 1) % 40))
theorem ix19 {k : Nat} (hk : k < 80) : nI k - nI k / 40 * 40 = nI (k % 40) ∧ nI (k % 40) * 19 = nI (19 * (k % 40)) ∧ 19 * (k % 40) + 19 ≤ 760 := by
  refine ⟨pk_rem (by omega) (by decide) (by decide), ?_, by omega⟩
  rw [show (19 : Int32) = nI 19 from rfl, pk_mul, Nat.mul_comm]
theorem r_keep {l : Launch} {d a b F M : Nat} {h : Hp} (hS : St h) (ha : ActsAt a) (hb : TownAt b) (A : AI h a F M) : Ex l (d + 2) mX0_keep [.ref a, .ref b] h none (kpH h a b F M) := by
  obtain ⟨⟨h1, h1'⟩, h2, h2'⟩ := A
  have hab : ∀ i, i ≤ 11 → b + i ≠ a + 1 := fun i hi => by rcases ha with rfl | rfl <;> rcases hb with rfl | rfl <;> omega
  obtain ⟨x1, x2, x3⟩ := ix19 (k := F + M) (by omega)
  refine run_lv [some (.ref a), some (.ref b)] (go := ?_)
  refine go_aloadn dX0_keep_0 rfl ?_
  refine go_aloadn dX0_keep_1 rfl ?_
  refine sg_getR dX0_keep_2 fX0_13 rfl (ac_L ha) hS (ac_r0 hS ha) ?_
  refine go_aloadn dX0_keep_5 rfl ?_
  refine sg_getI dX0_keep_6 fX0_17 rfl (ac_L ha) hS ?_
  refine go_aloadn dX0_keep_9 rfl ?_
  refine sg_getI dX0_keep_10 fX0_21 rfl (ac_L ha) hS ?_
  rw [h1, h2]
  refine go_iadd dX0_keep_13 ?_
  rw [nI_add]
  refine go_bipush (v := 40) dX0_keep_14 rfl ?_
  refine go_irem dX0_keep_16 (by decide) ?_
  rw [x1]
  refine go_bipush (v := 19) dX0_keep_17 rfl ?_
  refine go_imul dX0_keep_19 ?_
  rw [x2]
  refine sg_cV0 (M' := mX6_pack) ([.ref (a + 1), .int (nI (19 * ((F + M) % 40)))]) dX0_keep_20 lX0_30 vX6_pack (tw_L hb) (by decide) rfl hS (r_pack hS hb (ac_0 ha) hab (by decide) x3) rfl (Nat.le_of_ble_eq_true rfl) (Nat.zero_le _) (Nat.zero_le _) ?_
  refine go_aloadn dX0_keep_23 rfl ?_
  refine sg_getI dX0_keep_24 fX0_21 rfl (ac_L ha) hS ?_
  rw [hI_uF_ne (by omega), h2]
  refine go_bipush (v := 40) dX0_keep_27 rfl ?_
  refine go_icmp_ge (tgt := 45) dX0_keep_29 (by decide) (fun c29 => ?_) (fun c29 => ?_)
  · refine go_aloadn dX0_keep_45 rfl ?_
    refine go_aloadn dX0_keep_46 rfl ?_
    refine sg_getI dX0_keep_47 fX0_17 rfl (ac_L ha) hS ?_
    rw [hI_uF_ne (by omega), h1]
    refine go_iconst (v := 1) dX0_keep_50 rfl ?_
    refine go_iadd dX0_keep_51 ?_
    refine go_bipush (v := 40) dX0_keep_52 rfl ?_
    refine go_irem dX0_keep_54 (by decide) ?_
    refine sg_putI dX0_keep_55 fX0_17 rfl rfl (ac_L ha) hS ?_
    refine go_return dX0_keep_58 rfl (Nat.zero_le _) (Nat.zero_le _) ?_
    first | exact ⟨rfl, by rw [kpH, if_neg (fun q => nI_ge (b := 40) q (by decide) c29), nI_1, show (40 : Int32) = nI 40 from rfl, pk_rem (by omega) (by decide) (by decide)]⟩ | exact ⟨rfl, by rw [kpH, if_pos (by have := mt (nI_le (a := 40) (b := M) · (by omega)) c29; omega), nI_1]⟩
  · refine go_aloadn dX0_keep_32 rfl ?_
    refine go_dup dX0_keep_33 rfl ?_
    refine sg_getI dX0_keep_34 fX0_21 rfl (ac_L ha) hS ?_
    rw [hI_uF_ne (by omega), h2]
    refine go_iconst (v := 1) dX0_keep_37 rfl ?_
    refine go_iadd dX0_keep_38 ?_
    refine sg_putI dX0_keep_39 fX0_21 rfl rfl (ac_L ha) hS ?_
    refine go_goto (tgt := 58) dX0_keep_42 (by decide) ?_
    refine go_return dX0_keep_58 rfl (Nat.zero_le _) (Nat.zero_le _) ?_
    first | exact ⟨rfl, by rw [kpH, if_neg (fun q => nI_ge (b := 40) q (by decide) c29), nI_1, show (40 : Int32) = nI 40 from rfl, pk_rem (by omega) (by decide) (by decide)]⟩ | exact ⟨rfl, by rw [kpH, if_pos (by have := mt (nI_le (a := 40) (b := M) · (by omega)) c29; omega), nI_1]⟩
theorem r_takeBack {l : Launch} {d a b F M : Nat} {h : Hp} (hS : St h) (ha : ActsAt a) (hb : TownAt b) (A : AI h a F M) : Ex l (d + 2) mX0_takeBack [.ref a, .ref b] h (some (.int (if M = 0 then -1 else nI (M - 1)))) (if M = 0 then h else unB (uI h a 2 (nI (M - 1))) b (a + 1) (19 * ((F + (M - 1)) % 40)) 8) := by
  obtain ⟨⟨h1, h1'⟩, h2, h2'⟩ := A
  have hab : ¬ Tu b (a + 1) := by unfold Tu; rcases ha with rfl | rfl <;> rcases hb with rfl | rfl <;> omega
  have hab2 : ¬ Tu b a := by unfold Tu; rcases ha with rfl | rfl <;> rcases hb with rfl | rfl <;> omega
  obtain ⟨x1, x2, x3⟩ := ix19 (k := F + (M - 1)) (by omega)
  refine run_lv [some (.ref a), some (.ref b)] (go := ?_)
  refine go_aloadn dX0_takeBack_0 rfl ?_
  refine sg_getI dX0_takeBack_1 fX0_21 rfl (ac_L ha) hS ?_
  rw [h2]
  by_cases z : M = 0
  · subst z
    rw [if_pos rfl, if_pos rfl]
    refine go_iconst (v := 1) dX0_takeBack_4 rfl ?_
    refine go_icmp_ge (tgt := 10) dX0_takeBack_5 (by decide) (fun c5 => ?_) (fun c5 => ?_)
    · exact absurd c5 (by decide)
    · refine go_iconst (v := -1) dX0_takeBack_8 rfl ?_
      refine go_ireturn dX0_takeBack_9 rfl rfl (Nat.zero_le _) (Nat.zero_le _) ?_
      exact ⟨rfl, rfl⟩
  · rw [if_neg z, if_neg z]
    have e2 : nI M - 1 = nI (M - 1) := by rw [show (1 : Int32) = nI 1 from rfl, pk_sub (by omega)]
    refine go_iconst (v := 1) dX0_takeBack_4 rfl ?_
    refine go_icmp_ge (tgt := 10) dX0_takeBack_5 (by decide) (fun c5 => ?_) (fun c5 => ?_)
    · refine go_aloadn dX0_takeBack_10 rfl ?_
      refine go_dup dX0_takeBack_11 rfl ?_
      refine sg_getI dX0_takeBack_12 fX0_21 rfl (ac_L ha) hS ?_
      rw [h2]
      refine go_iconst (v := 1) dX0_takeBack_15 rfl ?_
      refine go_isub dX0_takeBack_16 ?_
      rw [e2]
      refine sg_putI dX0_takeBack_17 fX0_21 rfl rfl (ac_L ha) hS ?_
      refine go_aloadn dX0_takeBack_20 rfl ?_
      refine go_aloadn dX0_takeBack_21 rfl ?_
      refine sg_getR dX0_takeBack_22 fX0_13 rfl (ac_L ha) hS (ac_r0 hS ha) ?_
      refine go_aloadn dX0_takeBack_25 rfl ?_
      refine sg_getI dX0_takeBack_26 fX0_17 rfl (ac_L ha) hS ?_
      rw [hI_uI_ne (by simp), h1]
      refine go_aloadn dX0_takeBack_29 rfl ?_
      refine sg_getI dX0_takeBack_30 fX0_21 rfl (ac_L ha) hS ?_
      rw [hI_uI_eq]
      refine go_iadd dX0_takeBack_33 ?_
      rw [nI_add]
      refine go_bipush (v := 40) dX0_takeBack_34 rfl ?_
      refine go_irem dX0_takeBack_36 (by decide) ?_
      rw [x1]
      refine go_bipush (v := 19) dX0_takeBack_37 rfl ?_
      refine go_imul dX0_takeBack_39 ?_
      rw [x2]
      refine sg_cV0 (M' := mX6_unpack) ([.ref (a + 1), .int (nI (19 * ((F + (M - 1)) % 40)))]) dX0_takeBack_40 lX0_34 vX6_unpack (tw_L hb) (by decide) rfl hS (r_unpack hS hb (ac_0 ha) hab (by decide) x3) rfl (Nat.le_of_ble_eq_true rfl) (Nat.zero_le _) (Nat.zero_le _) ?_
      have hS := (fu_B (h := uI h a 2 (nI (M - 1))) (b := b) (a := a + 1) (fr := 19 * ((F + (M - 1)) % 40)) 8).St hS
      refine go_aloadn dX0_takeBack_43 rfl ?_
      refine sg_getI dX0_takeBack_44 fX0_21 rfl (ac_L ha) hS ?_
      refine go_ireturn dX0_takeBack_47 rfl rfl (Nat.zero_le _) (Nat.zero_le _) ?_
      exact ⟨by rw [(fu_B (h := uI h a 2 (nI (M - 1))) (b := b) (a := a + 1) (fr := 19 * ((F + (M - 1)) % 40)) 8).2.2.2 a 2 hab2, hI_uI_eq], rfl⟩
    · exact absurd (nI_le (a := 1) (by omega) (by omega)) c5
/-! City -/
theorem r_putCode {l : Launch} {d c L : Nat} {h : Hp} {v : Int32} (hS : St h) (hc : CityAt c) (hL : hI h c 13 = nI L) (hL7 : L < 700) : Ex l (d + 1) mX1_putCode [.ref c, .int v] h none (uI (uI h (c + 9) L v) c 13 (nI (L + 1))) := by
  refine run_lv [some (.ref c), some (.int v)] (go := ?_)
  refine go_aloadn dX1_putCode_0 rfl ?_
  refine sg_getI dX1_putCode_1 fX1_71 rfl (ct_L hc) hS ?_
  refine go_sipush (v := 700) dX1_putCode_4 rfl ?_
  refine go_icmp_ge (tgt := 30) dX1_putCode_7 (by decide) (fun c7 => ?_) (fun c7 => ?_)
  · exact absurd (hL ▸ c7) (nI_ge (b := 700) hL7 (by decide))
  · refine go_aloadn dX1_putCode_10 rfl ?_
    refine sg_getR dX1_putCode_11 fX1_36 rfl (ct_L hc) hS (ct_r12 hS hc) ?_
    refine go_aloadn dX1_putCode_14 rfl ?_
    refine sg_getI dX1_putCode_15 fX1_71 rfl (ct_L hc) hS ?_
    refine go_iloadn dX1_putCode_18 rfl ?_
    refine sg_iast dX1_putCode_19 (ct_12 hc) hS (by rw [hL]; exact vp_in_nI hL7 (by decide)) ?_
    rw [hL, cl_nI (by omega)]
    refine go_aloadn dX1_putCode_20 rfl ?_
    refine go_dup dX1_putCode_21 rfl ?_
    refine sg_getI dX1_putCode_22 fX1_71 rfl (ct_L hc) hS ?_
    rw [hI_uI_ne (fun q => by omega), hL]
    refine go_iconst (v := 1) dX1_putCode_25 rfl ?_
    refine go_iadd dX1_putCode_26 ?_
    refine sg_putI dX1_putCode_27 fX1_71 rfl rfl (ct_L hc) hS ?_
    refine go_return dX1_putCode_30 rfl (Nat.zero_le _) (Nat.zero_le _) ?_
    exact ⟨rfl, by rw [nI_1]⟩
def clA (h : Hp) (c : Nat) : Hp := uI (uI (uI (uI h c 0 3) c 1 0) c 2 0) c 3 10
def clB (g : Hp) (c : Nat) : Hp := flH (flH (flH (flH (flH (flH (flH (flH g (c + 1) 8 0) (c + 2) 8 0) (c + 3) 8 0) (c + 4) 48 0) (c + 5) 10 0) (c + 6) 10 0) (c + 7) 10 0) (c + 8) 10 (-1)
def clC (g : Hp) (c : Nat) : Hp := uI (uI (uI (uI (uI g c 13 0) (c + 10) 0 0) (c + 10) 1 0) (c + 11) 0 0) (c + 11) 1 0
theorem r_cClear {l : Launch} {d c : Nat} {h : Hp} (hS : St h) (hc : CityAt c) : Ex l (d + 2) mX1_clear [.ref c] h none (clC (clB (clA h c) c) c) := by
  refine run_lv [some (.ref c)] (go := ?_)
  refine go_aloadn dX1_clear_0 rfl ?_
  refine go_iconst (v := 3) dX1_clear_1 rfl ?_
  refine sg_putI dX1_clear_2 fX1_52 rfl rfl (ct_L hc) hS ?_
  refine go_aloadn dX1_clear_5 rfl ?_
  refine go_iconst (v := 0) dX1_clear_6 rfl ?_
  refine sg_putI dX1_clear_7 fX1_56 rfl rfl (ct_L hc) hS ?_
  refine go_aloadn dX1_clear_10 rfl ?_
  refine go_iconst (v := 0) dX1_clear_11 rfl ?_
  refine sg_putI dX1_clear_12 fX1_59 rfl rfl (ct_L hc) hS ?_
  refine go_aloadn dX1_clear_15 rfl ?_
  refine go_bipush (v := 10) dX1_clear_16 rfl ?_
  refine sg_putI dX1_clear_18 fX1_62 rfl rfl (ct_L hc) hS ?_
  refine go_aloadn dX1_clear_21 rfl ?_
  refine sg_getR dX1_clear_22 fX1_9 rfl (ct_L hc) hS (ct_r4 hS hc) ?_
  refine go_iconst (v := 0) dX1_clear_25 rfl ?_
  refine sg_cS0 (M' := mJ7_fill_53178) ([.ref (c + 1), .int 0]) dX1_clear_26 lX1_65 sJ7_fill_53178 hS (r_fill hS (ct_4 hc) (by decide)) rfl (Nat.le_of_ble_eq_true rfl) (Nat.zero_le _) (Nat.zero_le _) ?_
  refine go_aloadn dX1_clear_29 rfl ?_
  refine sg_getR dX1_clear_30 fX1_15 rfl (ct_L hc) hS (ct_r5 hS hc) ?_
  refine go_iconst (v := 0) dX1_clear_33 rfl ?_
  refine sg_cS0 (M' := mJ7_fill_53178) ([.ref (c + 2), .int 0]) dX1_clear_34 lX1_65 sJ7_fill_53178 hS (r_fill hS (ct_5 hc) (by decide)) rfl (Nat.le_of_ble_eq_true rfl) (Nat.zero_le _) (Nat.zero_le _) ?_
  refine go_aloadn dX1_clear_37 rfl ?_
  refine sg_getR dX1_clear_38 fX1_18 rfl (ct_L hc) hS (ct_r6 hS hc) ?_
  refine go_iconst (v := 0) dX1_clear_41 rfl ?_
  refine sg_cS0 (M' := mJ7_fill_53178) ([.ref (c + 3), .int 0]) dX1_clear_42 lX1_65 sJ7_fill_53178 hS (r_fill hS (ct_6 hc) (by decide)) rfl (Nat.le_of_ble_eq_true rfl) (Nat.zero_le _) (Nat.zero_le _) ?_
  refine go_aloadn dX1_clear_45 rfl ?_
  refine sg_getR dX1_clear_46 fX1_21 rfl (ct_L hc) hS (ct_r7 hS hc) ?_
  refine go_iconst (v := 0) dX1_clear_49 rfl ?_
  refine sg_cS0 (M' := mJ7_fill_53178) ([.ref (c + 4), .int 0]) dX1_clear_50 lX1_65 sJ7_fill_53178 hS (r_fill hS (ct_7 hc) (by decide)) rfl (Nat.le_of_ble_eq_true rfl) (Nat.zero_le _) (Nat.zero_le _) ?_
  refine go_aloadn dX1_clear_53 rfl ?_
  refine sg_getR dX1_clear_54 fX1_24 rfl (ct_L hc) hS (ct_r8 hS hc) ?_
  refine go_iconst (v := 0) dX1_clear_57 rfl ?_
  refine sg_cS0 (M' := mJ7_fill_53178) ([.ref (c + 5), .int 0]) dX1_clear_58 lX1_65 sJ7_fill_53178 hS (r_fill hS (ct_8 hc) (by decide)) rfl (Nat.le_of_ble_eq_true rfl) (Nat.zero_le _) (Nat.zero_le _) ?_
  refine go_aloadn dX1_clear_61 rfl ?_
  refine sg_getR dX1_clear_62 fX1_27 rfl (ct_L hc) hS (ct_r9 hS hc) ?_
  refine go_iconst (v := 0) dX1_clear_65 rfl ?_
  refine sg_cS0 (M' := mJ7_fill_53178) ([.ref (c + 6), .int 0]) dX1_clear_66 lX1_65 sJ7_fill_53178 hS (r_fill hS (ct_9 hc) (by decide)) rfl (Nat.le_of_ble_eq_true rfl) (Nat.zero_le _) (Nat.zero_le _) ?_
  refine go_aloadn dX1_clear_69 rfl ?_
  refine sg_getR dX1_clear_70 fX1_30 rfl (ct_L hc) hS (ct_r10 hS hc) ?_
  refine go_iconst (v := 0) dX1_clear_73 rfl ?_
  refine sg_cS0 (M' := mJ7_fill_53178) ([.ref (c + 7), .int 0]) dX1_clear_74 lX1_65 sJ7_fill_53178 hS (r_fill hS (ct_10 hc) (by decide)) rfl (Nat.le_of_ble_eq_true rfl) (Nat.zero_le _) (Nat.zero_le _) ?_
  refine go_aloadn dX1_clear_77 rfl ?_
  refine sg_getR dX1_clear_78 fX1_33 rfl (ct_L hc) hS (ct_r11 hS hc) ?_
  refine go_iconst (v := -1) dX1_clear_81 rfl ?_
  refine sg_cS0 (M' := mJ7_fill_53178) ([.ref (c + 8), .int (-1)]) dX1_clear_82 lX1_65 sJ7_fill_53178 hS (r_fill hS (ct_11 hc) (by decide)) rfl (Nat.le_of_ble_eq_true rfl) (Nat.zero_le _) (Nat.zero_le _) ?_
  refine go_aloadn dX1_clear_85 rfl ?_
  refine go_iconst (v := 0) dX1_clear_86 rfl ?_
  refine sg_putI dX1_clear_87 fX1_71 rfl rfl (ct_L hc) hS ?_
  refine go_aloadn dX1_clear_90 rfl ?_
  refine sg_getR dX1_clear_91 fX1_42 rfl (ct_L hc) hS (ct_r14 hS hc) ?_
  refine go_iconst (v := 0) dX1_clear_94 rfl ?_
  refine sg_putI dX1_clear_95 fX1_74 rfl rfl (ru_L (ct_sh hc)) hS ?_
  refine go_aloadn dX1_clear_98 rfl ?_
  refine sg_getR dX1_clear_99 fX1_42 rfl (ct_L hc) hS (ct_r14 hS hc) ?_
  refine go_iconst (v := 0) dX1_clear_102 rfl ?_
  refine sg_putI dX1_clear_103 fX1_77 rfl rfl (ru_L (ct_sh hc)) hS ?_
  refine go_aloadn dX1_clear_106 rfl ?_
  refine sg_getR dX1_clear_107 fX1_46 rfl (ct_L hc) hS (ct_r15 hS hc) ?_
  refine go_iconst (v := 0) dX1_clear_110 rfl ?_
  refine sg_putI dX1_clear_111 fX1_74 rfl rfl (ru_L (ct_re hc)) hS ?_
  refine go_aloadn dX1_clear_114 rfl ?_
  refine sg_getR dX1_clear_115 fX1_46 rfl (ct_L hc) hS (ct_r15 hS hc) ?_
  refine go_iconst (v := 0) dX1_clear_118 rfl ?_
  refine sg_putI dX1_clear_119 fX1_77 rfl rfl (ru_L (ct_re hc)) hS ?_
  refine go_return dX1_clear_122 rfl (Nat.zero_le _) (Nat.zero_le _) ?_
  exact ⟨rfl, rfl⟩
