/-! constructors -/
def nwR (h : Hp) (a k : Nat) : Hp := uR (uN h) a k (some (hN h))
theorem oi_in : inG (.instanceMethod Lib.objectInit) := ⟨ch1_2 _ (List.mem_of_getElem? (i := 0) rfl), rfl⟩
theorem oi_co : inG (.code Lib.objectInit ⟨#[0xb1]⟩ 1 none) := ⟨ch1_2 _ (List.mem_of_getElem? (i := 1) rfl), rfl⟩
theorem ar_0 : inG (.arrayClass (ftOf 0)) := ⟨ch1_6 _ (List.mem_of_getElem? (i := 2) rfl), rfl⟩
theorem ar_1 : inG (.arrayClass (ftOf 1)) := ⟨ch1_6 _ (List.mem_of_getElem? (i := 1) rfl), rfl⟩
theorem ar_2 : inG (.arrayClass (ftOf 2)) := ⟨ch9_10 _ (List.mem_of_getElem? (i := 14) rfl), rfl⟩
theorem ar_3 : inG (.arrayClass (ftOf 3)) := ⟨ch7_12 _ (List.mem_of_getElem? (i := 10) rfl), rfl⟩
theorem oi_X0 : inG (.methodLink RX0 3 Lib.objectInit) := ⟨ch2_3 _ (List.mem_of_getElem? (i := 13) rfl), rfl⟩
theorem ins_X0 : inG (.instantiable (clR 0) (clN 0)) := ⟨ch2_3 _ (List.mem_of_getElem? (i := 9) rfl), rfl⟩
theorem cb_X0 : CB mX0_init 0 := ⟨rfl, ⟨ch2_3 _ (List.mem_of_getElem? (i := 12) rfl), rfl⟩, iniX0, by decide, by decide +kernel, by decide⟩
theorem im_X0 : inG (.instanceMethod yX0_init) := ⟨ch2_3 _ (List.mem_of_getElem? (i := 11) rfl), rfl⟩
theorem oi_X1 : inG (.methodLink RX1 3 Lib.objectInit) := ⟨ch1_6 _ (List.mem_of_getElem? (i := 8) rfl), rfl⟩
theorem ins_X1 : inG (.instantiable (clR 1) (clN 1)) := ⟨ch1_6 _ (List.mem_of_getElem? (i := 4) rfl), rfl⟩
theorem cb_X1 : CB mX1_init 0 := ⟨rfl, ⟨ch1_6 _ (List.mem_of_getElem? (i := 7) rfl), rfl⟩, iniX1, by decide, by decide +kernel, by decide⟩
theorem im_X1 : inG (.instanceMethod yX1_init) := ⟨ch1_6 _ (List.mem_of_getElem? (i := 6) rfl), rfl⟩
theorem oi_X2 : inG (.methodLink RX2 3 Lib.objectInit) := ⟨ch2_4 _ (List.mem_of_getElem? (i := 14) rfl), rfl⟩
theorem ins_X2 : inG (.instantiable (clR 2) (clN 2)) := ⟨ch2_4 _ (List.mem_of_getElem? (i := 10) rfl), rfl⟩
theorem cb_X2 : CB mX2_init 0 := ⟨rfl, ⟨ch2_4 _ (List.mem_of_getElem? (i := 13) rfl), rfl⟩, iniX2, by decide, by decide +kernel, by decide⟩
theorem im_X2 : inG (.instanceMethod yX2_init) := ⟨ch2_4 _ (List.mem_of_getElem? (i := 12) rfl), rfl⟩
theorem oi_X3 : inG (.methodLink RX3 3 Lib.objectInit) := ⟨ch1_2 _ (List.mem_of_getElem? (i := 7) rfl), rfl⟩
theorem ins_X3 : inG (.instantiable (clR 3) (clN 3)) := ⟨ch1_2 _ (List.mem_of_getElem? (i := 3) rfl), rfl⟩
theorem cb_X3 : CB mX3_init 0 := ⟨rfl, ⟨ch1_2 _ (List.mem_of_getElem? (i := 6) rfl), rfl⟩, iniX3, by decide, by decide +kernel, by decide⟩
theorem im_X3 : inG (.instanceMethod yX3_init) := ⟨ch1_2 _ (List.mem_of_getElem? (i := 5) rfl), rfl⟩
theorem oi_X4 : inG (.methodLink RX4 1 Lib.objectInit) := ⟨ch1_6 _ (List.mem_of_getElem? (i := 14) rfl), rfl⟩
theorem ins_X4 : inG (.instantiable (clR 4) (clN 4)) := ⟨ch1_6 _ (List.mem_of_getElem? (i := 10) rfl), rfl⟩
theorem cb_X4 : CB mX4_init 0 := ⟨rfl, ⟨ch1_6 _ (List.mem_of_getElem? (i := 13) rfl), rfl⟩, iniX4, by decide, by decide +kernel, by decide⟩
theorem im_X4 : inG (.instanceMethod yX4_init) := ⟨ch1_6 _ (List.mem_of_getElem? (i := 12) rfl), rfl⟩
theorem oi_X5 : inG (.methodLink RX5 3 Lib.objectInit) := ⟨ch2_9 _ (List.mem_of_getElem? (i := 2) rfl), rfl⟩
theorem ins_X5 : inG (.instantiable (clR 5) (clN 5)) := ⟨ch2_8 _ (List.mem_of_getElem? (i := 14) rfl), rfl⟩
theorem cb_X5 : CB mX5_init 0 := ⟨rfl, ⟨ch2_9 _ (List.mem_of_getElem? (i := 1) rfl), rfl⟩, iniX5, by decide, by decide +kernel, by decide⟩
theorem im_X5 : inG (.instanceMethod yX5_init) := ⟨ch2_9 _ (List.mem_of_getElem? (i := 0) rfl), rfl⟩
theorem oi_X6 : inG (.methodLink RX6 3 Lib.objectInit) := ⟨ch1_14 _ (List.mem_of_getElem? (i := 4) rfl), rfl⟩
theorem ins_X6 : inG (.instantiable (clR 6) (clN 6)) := ⟨ch1_14 _ (List.mem_of_getElem? (i := 0) rfl), rfl⟩
theorem cb_X6 : CB mX6_init 0 := ⟨rfl, ⟨ch1_14 _ (List.mem_of_getElem? (i := 3) rfl), rfl⟩, iniX6, by decide, by decide +kernel, by decide⟩
theorem im_X6 : inG (.instanceMethod yX6_init) := ⟨ch1_14 _ (List.mem_of_getElem? (i := 2) rfl), rfl⟩
theorem oi_X7 : inG (.methodLink RX7 3 Lib.objectInit) := ⟨ch2_6 _ (List.mem_of_getElem? (i := 2) rfl), rfl⟩
theorem ins_X7 : inG (.instantiable (clR 7) (clN 7)) := ⟨ch2_5 _ (List.mem_of_getElem? (i := 14) rfl), rfl⟩
theorem cb_X7 : CB mX7_init 0 := ⟨rfl, ⟨ch2_6 _ (List.mem_of_getElem? (i := 1) rfl), rfl⟩, iniX7, by decide, by decide +kernel, by decide⟩
theorem im_X7 : inG (.instanceMethod yX7_init) := ⟨ch2_6 _ (List.mem_of_getElem? (i := 0) rfl), rfl⟩
theorem oi_X8 : inG (.methodLink RX8 3 Lib.objectInit) := ⟨ch2_7 _ (List.mem_of_getElem? (i := 9) rfl), rfl⟩
theorem ins_X8 : inG (.instantiable (clR 8) (clN 8)) := ⟨ch2_7 _ (List.mem_of_getElem? (i := 5) rfl), rfl⟩
theorem cb_X8 : CB mX8_init 0 := ⟨rfl, ⟨ch2_7 _ (List.mem_of_getElem? (i := 8) rfl), rfl⟩, iniX8, by decide, by decide +kernel, by decide⟩
theorem im_X8 : inG (.instanceMethod yX8_init) := ⟨ch2_7 _ (List.mem_of_getElem? (i := 7) rfl), rfl⟩
theorem oi_X9 : inG (.methodLink RX9 1 Lib.objectInit) := ⟨ch1_1 _ (List.mem_of_getElem? (i := 15) rfl), rfl⟩
theorem ins_X9 : inG (.instantiable (clR 9) (clN 9)) := ⟨ch1_1 _ (List.mem_of_getElem? (i := 11) rfl), rfl⟩
theorem cb_X9 : CB mX9_init 0 := ⟨rfl, ⟨ch1_1 _ (List.mem_of_getElem? (i := 14) rfl), rfl⟩, iniX9, by decide, by decide +kernel, by decide⟩
theorem im_X9 : inG (.instanceMethod yX9_init) := ⟨ch1_1 _ (List.mem_of_getElem? (i := 13) rfl), rfl⟩
theorem oi_X10 : inG (.methodLink RX10 1 Lib.objectInit) := ⟨ch7_0 _ (List.mem_of_getElem? (i := 14) rfl), rfl⟩
theorem ins_X10 : inG (.instantiable (clR 10) (clN 10)) := ⟨ch7_0 _ (List.mem_of_getElem? (i := 10) rfl), rfl⟩
theorem cb_X10 : CB mX10_init 0 := ⟨rfl, ⟨ch7_0 _ (List.mem_of_getElem? (i := 13) rfl), rfl⟩, iniX10, by decide, by decide +kernel, by decide⟩
theorem im_X10 : inG (.instanceMethod yX10_init) := ⟨ch7_0 _ (List.mem_of_getElem? (i := 12) rfl), rfl⟩
theorem clk_X1_39 : inG (.classLink RX1 39 (clR 4)) := ⟨ch1_6 _ (List.mem_of_getElem? (i := 9) rfl), rfl⟩
theorem clk_X7_9 : inG (.classLink RX7 9 (clR 6)) := ⟨ch2_6 _ (List.mem_of_getElem? (i := 3) rfl), rfl⟩
theorem clk_X9_21 : inG (.classLink RX9 21 (clR 3)) := ⟨ch1_2 _ (List.mem_of_getElem? (i := 2) rfl), rfl⟩
theorem clk_X9_28 : inG (.classLink RX9 28 (clR 1)) := ⟨ch1_6 _ (List.mem_of_getElem? (i := 3) rfl), rfl⟩
theorem clk_X9_38 : inG (.classLink RX9 38 (clR 6)) := ⟨ch1_13 _ (List.mem_of_getElem? (i := 15) rfl), rfl⟩
theorem clk_X9_45 : inG (.classLink RX9 45 (clR 0)) := ⟨ch2_3 _ (List.mem_of_getElem? (i := 8) rfl), rfl⟩
theorem clk_X9_52 : inG (.classLink RX9 52 (clR 2)) := ⟨ch2_4 _ (List.mem_of_getElem? (i := 9) rfl), rfl⟩
theorem clk_X9_68 : inG (.classLink RX9 68 (clR 7)) := ⟨ch2_5 _ (List.mem_of_getElem? (i := 13) rfl), rfl⟩
theorem clk_X9_75 : inG (.classLink RX9 75 (clR 8)) := ⟨ch2_7 _ (List.mem_of_getElem? (i := 4) rfl), rfl⟩
theorem clk_X9_82 : inG (.classLink RX9 82 (clR 5)) := ⟨ch2_8 _ (List.mem_of_getElem? (i := 13) rfl), rfl⟩
theorem clk_L_8 : inG (.classLink RL 8 (clR 9)) := ⟨ch1_1 _ (List.mem_of_getElem? (i := 10) rfl), rfl⟩
theorem clk_L_111 : inG (.classLink RL 111 (clR 10)) := ⟨ch7_0 _ (List.mem_of_getElem? (i := 9) rfl), rfl⟩
def iX4 (h : Hp) (a : Nat) : Hp := h
theorem i_X4 {l : Launch} {d : Nat} {h : Hp} {a : Nat} (ha : RuleAt a) (he : hN h = a + 1) : Run l (d + 1) (0, 0) mX4_init [.ref a] h (fun v h1 => v = none ∧ h1 = iX4 h a) noX := by
  refine run_lv [some (.ref a)] (go := ?_)
  refine go_aloadn dX4_init_0 rfl ?_
  refine go_obj dX4_init_1 oi_X4 oi_in oi_co (Nat.le_of_ble_eq_true rfl) (by simp only [rmOf]; omega) (by simp only [rmOf]; omega) ?_
  refine go_return dX4_init_4 rfl (Nat.le_of_ble_eq_true rfl) (Nat.le_of_ble_eq_true rfl) ⟨rfl, rfl⟩
def iX0 (h : Hp) (a : Nat) : Hp := nwR (h) a 0
theorem i_X0 {l : Launch} {d : Nat} {h : Hp} {a : Nat} (ha : ActsAt a) (he : hN h = a + 1) : Run l (d + 1) (1, 760) mX0_init [.ref a] h (fun v h1 => v = none ∧ h1 = iX0 h a) noX := by
  refine run_lv [some (.ref a)] (go := ?_)
  refine go_aloadn dX0_init_0 rfl ?_
  refine go_obj dX0_init_1 oi_X0 oi_in oi_co (Nat.le_of_ble_eq_true rfl) (by simp only [rmOf]; omega) (by simp only [rmOf]; omega) ?_
  refine go_aloadn dX0_init_4 rfl ?_
  refine go_sipush (v := 760) dX0_init_5 rfl ?_
  refine go_newa (ty := 0) (len := 760) (by decide) dX0_init_8 ar_0 (show lay (hN h + 0) = _ by rw [he]; rcases ha with rfl | rfl <;> rfl) (by decide) (by decide +kernel) (by decide) rfl (Nat.le_of_ble_eq_true rfl) (Nat.le_of_ble_eq_true rfl) ?_
  refine go_putFR dX0_init_10 fX0_13 rfl rfl rfl rfl (ac_L ha) (show _ < hN h + 1 by omega) ?_
  refine go_return dX0_init_13 rfl (Nat.le_of_ble_eq_true rfl) (Nat.le_of_ble_eq_true rfl) ⟨rfl, rfl⟩
def iX2 (h : Hp) (a : Nat) : Hp := nwR (nwR (nwR (h) a 1) a 2) a 3
theorem i_X2 {l : Launch} {d : Nat} {h : Hp} {a : Nat} (ha : NotesAt a) (he : hN h = a + 1) : Run l (d + 1) (3, 24) mX2_init [.ref a] h (fun v h1 => v = none ∧ h1 = iX2 h a) noX := by
  refine run_lv [some (.ref a)] (go := ?_)
  refine go_aloadn dX2_init_0 rfl ?_
  refine go_obj dX2_init_1 oi_X2 oi_in oi_co (Nat.le_of_ble_eq_true rfl) (by simp only [rmOf]; omega) (by simp only [rmOf]; omega) ?_
  refine go_aloadn dX2_init_4 rfl ?_
  refine go_bipush (v := 8) dX2_init_5 rfl ?_
  refine go_newa (ty := 0) (len := 8) (by decide) dX2_init_7 ar_0 (show lay (hN h + 0) = _ by rw [he]; rcases ha with rfl | rfl <;> rfl) (by decide) (by decide +kernel) (by decide) rfl (Nat.le_of_ble_eq_true rfl) (Nat.le_of_ble_eq_true rfl) ?_
  refine go_putFR dX2_init_9 fX2_11 rfl rfl rfl rfl (no_L ha) (show _ < hN h + 1 by omega) ?_
  refine go_aloadn dX2_init_12 rfl ?_
  refine go_bipush (v := 8) dX2_init_13 rfl ?_
  refine go_newa (ty := 0) (len := 8) (by decide) dX2_init_15 ar_0 (show lay (hN h + 1) = _ by rw [he]; rcases ha with rfl | rfl <;> rfl) (by decide) (by decide +kernel) (by decide) rfl (Nat.le_of_ble_eq_true rfl) (Nat.le_of_ble_eq_true rfl) ?_
  refine go_putFR dX2_init_17 fX2_15 rfl rfl rfl rfl (no_L ha) (show _ < hN h + 2 by omega) ?_
  refine go_aloadn dX2_init_20 rfl ?_
  refine go_bipush (v := 8) dX2_init_21 rfl ?_
  refine go_newa (ty := 0) (len := 8) (by decide) dX2_init_23 ar_0 (show lay (hN h + 2) = _ by rw [he]; rcases ha with rfl | rfl <;> rfl) (by decide) (by decide +kernel) (by decide) rfl (Nat.le_of_ble_eq_true rfl) (Nat.le_of_ble_eq_true rfl) ?_
  refine go_putFR dX2_init_25 fX2_18 rfl rfl rfl rfl (no_L ha) (show _ < hN h + 3 by omega) ?_
  refine go_return dX2_init_28 rfl (Nat.le_of_ble_eq_true rfl) (Nat.le_of_ble_eq_true rfl) ⟨rfl, rfl⟩
def iX3 (h : Hp) (a : Nat) : Hp := nwR (nwR (h) a 0) a 12
theorem i_X3 {l : Launch} {d : Nat} {h : Hp} {a : Nat} (ha : a = 3) (he : hN h = a + 1) : Run l (d + 1) (2, 128) mX3_init [.ref a] h (fun v h1 => v = none ∧ h1 = iX3 h a) noX := by
  subst ha
  refine run_lv [some (.ref 3)] (go := ?_)
  refine go_aloadn dX3_init_0 rfl ?_
  refine go_obj dX3_init_1 oi_X3 oi_in oi_co (Nat.le_of_ble_eq_true rfl) (by simp only [rmOf]; omega) (by simp only [rmOf]; omega) ?_
  refine go_aloadn dX3_init_4 rfl ?_
  refine go_iconst (v := 0) dX3_init_5 rfl ?_
  refine go_newa (ty := 1) (len := 0) (by decide) dX3_init_6 ar_1 (show lay (hN h + 0) = _ by rw [he]; rfl) (by decide) (by decide +kernel) (by decide) rfl (Nat.le_of_ble_eq_true rfl) (Nat.le_of_ble_eq_true rfl) ?_
  refine go_putR dX3_init_8 fX3_9 rfl rfl (rd_L rfl) (show _ < hN h + 1 by omega) ?_
  refine go_aloadn dX3_init_11 rfl ?_
  refine go_sipush (v := 128) dX3_init_12 rfl ?_
  refine go_newa (ty := 0) (len := 128) (by decide) dX3_init_15 ar_0 (show lay (hN h + 1) = _ by rw [he]; rfl) (by decide) (by decide +kernel) (by decide) rfl (Nat.le_of_ble_eq_true rfl) (Nat.le_of_ble_eq_true rfl) ?_
  refine go_putFR dX3_init_17 fX3_15 rfl rfl rfl rfl (rd_L rfl) (show _ < hN h + 2 by omega) ?_
  refine go_return dX3_init_20 rfl (Nat.le_of_ble_eq_true rfl) (Nat.le_of_ble_eq_true rfl) ⟨rfl, rfl⟩
def iX5 (h : Hp) (a : Nat) : Hp := nwR (nwR (nwR (h) a 0) a 1) a 2
theorem i_X5 {l : Launch} {d : Nat} {h : Hp} {a : Nat} (ha : a = 73) (he : hN h = a + 1) : Run l (d + 1) (3, 274) mX5_init [.ref a] h (fun v h1 => v = none ∧ h1 = iX5 h a) noX := by
  subst ha
  refine run_lv [some (.ref 73)] (go := ?_)
  refine go_aloadn dX5_init_0 rfl ?_
  refine go_obj dX5_init_1 oi_X5 oi_in oi_co (Nat.le_of_ble_eq_true rfl) (by simp only [rmOf]; omega) (by simp only [rmOf]; omega) ?_
  refine go_aloadn dX5_init_4 rfl ?_
  refine go_bipush (v := 8) dX5_init_5 rfl ?_
  refine go_newa (ty := 0) (len := 8) (by decide) dX5_init_7 ar_0 (show lay (hN h + 0) = _ by rw [he]; rfl) (by decide) (by decide +kernel) (by decide) rfl (Nat.le_of_ble_eq_true rfl) (Nat.le_of_ble_eq_true rfl) ?_
  refine go_putFR dX5_init_9 fX5_9 rfl rfl rfl rfl (ti_L rfl) (show _ < hN h + 1 by omega) ?_
  refine go_aloadn dX5_init_12 rfl ?_
  refine go_sipush (v := 256) dX5_init_13 rfl ?_
  refine go_newa (ty := 0) (len := 256) (by decide) dX5_init_16 ar_0 (show lay (hN h + 1) = _ by rw [he]; rfl) (by decide) (by decide +kernel) (by decide) rfl (Nat.le_of_ble_eq_true rfl) (Nat.le_of_ble_eq_true rfl) ?_
  refine go_putFR dX5_init_18 fX5_15 rfl rfl rfl rfl (ti_L rfl) (show _ < hN h + 2 by omega) ?_
  refine go_aloadn dX5_init_21 rfl ?_
  refine go_bipush (v := 10) dX5_init_22 rfl ?_
  refine go_newa (ty := 0) (len := 10) (by decide) dX5_init_24 ar_0 (show lay (hN h + 2) = _ by rw [he]; rfl) (by decide) (by decide +kernel) (by decide) rfl (Nat.le_of_ble_eq_true rfl) (Nat.le_of_ble_eq_true rfl) ?_
  refine go_putFR dX5_init_26 fX5_18 rfl rfl rfl rfl (ti_L rfl) (show _ < hN h + 3 by omega) ?_
  refine go_return dX5_init_29 rfl (Nat.le_of_ble_eq_true rfl) (Nat.le_of_ble_eq_true rfl) ⟨rfl, rfl⟩
def iX6 (h : Hp) (a : Nat) : Hp := nwR (nwR (nwR (nwR (nwR (nwR (nwR (nwR (nwR (nwR (nwR (h) a 3) a 4) a 5) a 6) a 7) a 8) a 9) a 10) a 11) a 12) a 13
theorem i_X6 {l : Launch} {d : Nat} {h : Hp} {a : Nat} (ha : TownAt a) (he : hN h = a + 1) : Run l (d + 1) (11, 191) mX6_init [.ref a] h (fun v h1 => v = none ∧ h1 = iX6 h a) noX := by
  refine run_lv [some (.ref a)] (go := ?_)
  refine go_aloadn dX6_init_0 rfl ?_
  refine go_obj dX6_init_1 oi_X6 oi_in oi_co (Nat.le_of_ble_eq_true rfl) (by simp only [rmOf]; omega) (by simp only [rmOf]; omega) ?_
  refine go_aloadn dX6_init_4 rfl ?_
  refine go_bipush (v := 8) dX6_init_5 rfl ?_
  refine go_newa (ty := 0) (len := 8) (by decide) dX6_init_7 ar_0 (show lay (hN h + 0) = _ by rw [he]; rcases ha with rfl | rfl <;> rfl) (by decide) (by decide +kernel) (by decide) rfl (Nat.le_of_ble_eq_true rfl) (Nat.le_of_ble_eq_true rfl) ?_
  refine go_putFR dX6_init_9 fX6_9 rfl rfl rfl rfl (tw_L ha) (show _ < hN h + 1 by omega) ?_
  refine go_aloadn dX6_init_12 rfl ?_
  refine go_bipush (v := 8) dX6_init_13 rfl ?_
  refine go_newa (ty := 0) (len := 8) (by decide) dX6_init_15 ar_0 (show lay (hN h + 1) = _ by rw [he]; rcases ha with rfl | rfl <;> rfl) (by decide) (by decide +kernel) (by decide) rfl (Nat.le_of_ble_eq_true rfl) (Nat.le_of_ble_eq_true rfl) ?_
  refine go_putFR dX6_init_17 fX6_15 rfl rfl rfl rfl (tw_L ha) (show _ < hN h + 2 by omega) ?_
  refine go_aloadn dX6_init_20 rfl ?_
  refine go_bipush (v := 48) dX6_init_21 rfl ?_
  refine go_newa (ty := 0) (len := 48) (by decide) dX6_init_23 ar_0 (show lay (hN h + 2) = _ by rw [he]; rcases ha with rfl | rfl <;> rfl) (by decide) (by decide +kernel) (by decide) rfl (Nat.le_of_ble_eq_true rfl) (Nat.le_of_ble_eq_true rfl) ?_
  refine go_putFR dX6_init_25 fX6_18 rfl rfl rfl rfl (tw_L ha) (show _ < hN h + 3 by omega) ?_
  refine go_aloadn dX6_init_28 rfl ?_
  refine go_bipush (v := 10) dX6_init_29 rfl ?_
  refine go_newa (ty := 0) (len := 10) (by decide) dX6_init_31 ar_0 (show lay (hN h + 3) = _ by rw [he]; rcases ha with rfl | rfl <;> rfl) (by decide) (by decide +kernel) (by decide) rfl (Nat.le_of_ble_eq_true rfl) (Nat.le_of_ble_eq_true rfl) ?_
  refine go_putFR dX6_init_33 fX6_21 rfl rfl rfl rfl (tw_L ha) (show _ < hN h + 4 by omega) ?_
  refine go_aloadn dX6_init_36 rfl ?_
  refine go_bipush (v := 10) dX6_init_37 rfl ?_
  refine go_newa (ty := 0) (len := 10) (by decide) dX6_init_39 ar_0 (show lay (hN h + 4) = _ by rw [he]; rcases ha with rfl | rfl <;> rfl) (by decide) (by decide +kernel) (by decide) rfl (Nat.le_of_ble_eq_true rfl) (Nat.le_of_ble_eq_true rfl) ?_
  refine go_putFR dX6_init_41 fX6_24 rfl rfl rfl rfl (tw_L ha) (show _ < hN h + 5 by omega) ?_
  refine go_aloadn dX6_init_44 rfl ?_
  refine go_bipush (v := 10) dX6_init_45 rfl ?_
  refine go_newa (ty := 0) (len := 10) (by decide) dX6_init_47 ar_0 (show lay (hN h + 5) = _ by rw [he]; rcases ha with rfl | rfl <;> rfl) (by decide) (by decide +kernel) (by decide) rfl (Nat.le_of_ble_eq_true rfl) (Nat.le_of_ble_eq_true rfl) ?_
  refine go_putFR dX6_init_49 fX6_27 rfl rfl rfl rfl (tw_L ha) (show _ < hN h + 6 by omega) ?_
  refine go_aloadn dX6_init_52 rfl ?_
  refine go_bipush (v := 10) dX6_init_53 rfl ?_
  refine go_newa (ty := 0) (len := 10) (by decide) dX6_init_55 ar_0 (show lay (hN h + 6) = _ by rw [he]; rcases ha with rfl | rfl <;> rfl) (by decide) (by decide +kernel) (by decide) rfl (Nat.le_of_ble_eq_true rfl) (Nat.le_of_ble_eq_true rfl) ?_
  refine go_putFR dX6_init_57 fX6_30 rfl rfl rfl rfl (tw_L ha) (show _ < hN h + 7 by omega) ?_
  refine go_aloadn dX6_init_60 rfl ?_
  refine go_bipush (v := 6) dX6_init_61 rfl ?_
  refine go_newa (ty := 0) (len := 6) (by decide) dX6_init_63 ar_0 (show lay (hN h + 7) = _ by rw [he]; rcases ha with rfl | rfl <;> rfl) (by decide) (by decide +kernel) (by decide) rfl (Nat.le_of_ble_eq_true rfl) (Nat.le_of_ble_eq_true rfl) ?_
  refine go_putFR dX6_init_65 fX6_33 rfl rfl rfl rfl (tw_L ha) (show _ < hN h + 8 by omega) ?_
  refine go_aloadn dX6_init_68 rfl ?_
  refine go_bipush (v := 8) dX6_init_69 rfl ?_
  refine go_newa (ty := 0) (len := 8) (by decide) dX6_init_71 ar_0 (show lay (hN h + 8) = _ by rw [he]; rcases ha with rfl | rfl <;> rfl) (by decide) (by decide +kernel) (by decide) rfl (Nat.le_of_ble_eq_true rfl) (Nat.le_of_ble_eq_true rfl) ?_
  refine go_putFR dX6_init_73 fX6_36 rfl rfl rfl rfl (tw_L ha) (show _ < hN h + 9 by omega) ?_
  refine go_aloadn dX6_init_76 rfl ?_
  refine go_bipush (v := 9) dX6_init_77 rfl ?_
  refine go_newa (ty := 0) (len := 9) (by decide) dX6_init_79 ar_0 (show lay (hN h + 9) = _ by rw [he]; rcases ha with rfl | rfl <;> rfl) (by decide) (by decide +kernel) (by decide) rfl (Nat.le_of_ble_eq_true rfl) (Nat.le_of_ble_eq_true rfl) ?_
  refine go_putFR dX6_init_81 fX6_41 rfl rfl rfl rfl (tw_L ha) (show _ < hN h + 10 by omega) ?_
  refine go_aloadn dX6_init_84 rfl ?_
  refine go_bipush (v := 64) dX6_init_85 rfl ?_
  refine go_newa (ty := 0) (len := 64) (by decide) dX6_init_87 ar_0 (show lay (hN h + 10) = _ by rw [he]; rcases ha with rfl | rfl <;> rfl) (by decide) (by decide +kernel) (by decide) rfl (Nat.le_of_ble_eq_true rfl) (Nat.le_of_ble_eq_true rfl) ?_
  refine go_putFR dX6_init_89 fX6_44 rfl rfl rfl rfl (tw_L ha) (show _ < hN h + 11 by omega) ?_
  refine go_return dX6_init_92 rfl (Nat.le_of_ble_eq_true rfl) (Nat.le_of_ble_eq_true rfl) ⟨rfl, rfl⟩
def iX8 (h : Hp) (a : Nat) : Hp := nwR (nwR (h) a 3) a 4
theorem i_X8 {l : Launch} {d : Nat} {h : Hp} {a : Nat} (ha : a = 70) (he : hN h = a + 1) : Run l (d + 1) (2, 792) mX8_init [.ref a] h (fun v h1 => v = none ∧ h1 = iX8 h a) noX := by
  subst ha
  refine run_lv [some (.ref 70)] (go := ?_)
  refine go_aloadn dX8_init_0 rfl ?_
  refine go_obj dX8_init_1 oi_X8 oi_in oi_co (Nat.le_of_ble_eq_true rfl) (by simp only [rmOf]; omega) (by simp only [rmOf]; omega) ?_
  refine go_aloadn dX8_init_4 rfl ?_
  refine go_bipush (v := 72) dX8_init_5 rfl ?_
  refine go_newa (ty := 0) (len := 72) (by decide) dX8_init_7 ar_0 (show lay (hN h + 0) = _ by rw [he]; rfl) (by decide) (by decide +kernel) (by decide) rfl (Nat.le_of_ble_eq_true rfl) (Nat.le_of_ble_eq_true rfl) ?_
  refine go_putFR dX8_init_9 fX8_11 rfl rfl rfl rfl (va_L rfl) (show _ < hN h + 1 by omega) ?_
  refine go_aloadn dX8_init_12 rfl ?_
  refine go_sipush (v := 720) dX8_init_13 rfl ?_
  refine go_newa (ty := 0) (len := 720) (by decide) dX8_init_16 ar_0 (show lay (hN h + 1) = _ by rw [he]; rfl) (by decide) (by decide +kernel) (by decide) rfl (Nat.le_of_ble_eq_true rfl) (Nat.le_of_ble_eq_true rfl) ?_
  refine go_putFR dX8_init_18 fX8_15 rfl rfl rfl rfl (va_L rfl) (show _ < hN h + 2 by omega) ?_
  refine go_return dX8_init_21 rfl (Nat.le_of_ble_eq_true rfl) (Nat.le_of_ble_eq_true rfl) ⟨rfl, rfl⟩
def iX7 (h : Hp) (a : Nat) : Hp := nwR (nwR (uR (iX6 (uN (h)) (hN h + 0)) a 0 (some (hN h + 0))) a 2) a 3
theorem i_X7 {l : Launch} {d : Nat} {h : Hp} {a : Nat} (ha : a = 55) (he : hN h = a + 1) : Run l (d + 2) (14, 213) mX7_init [.ref a] h (fun v h1 => v = none ∧ h1 = iX7 h a) noX := by
  subst ha
  refine run_lv [some (.ref 55)] (go := ?_)
  refine go_aloadn dX7_init_0 rfl ?_
  refine go_obj dX7_init_1 oi_X7 oi_in oi_co (Nat.le_of_ble_eq_true rfl) (by simp only [rmOf]; omega) (by simp only [rmOf]; omega) ?_
  refine go_aloadn dX7_init_4 rfl ?_
  refine go_new (ci := 6) dX7_init_5 clk_X7_9 ins_X6 iniX6 (by decide) (show lay (hN h + 0) = _ by rw [he]; rfl) rfl (Nat.le_of_ble_eq_true rfl) (Nat.le_of_ble_eq_true rfl) ?_
  refine go_dup dX7_init_8 rfl ?_
  refine go_callIN_ dX7_init_9 (List.mem_of_getElem? (i := 6) rfl) cb_X6 rfl im_X6 rfl (i_X6 (d := d) (show TownAt (hN h + 0) by rw [he]; simp [TownAt]) rfl) (Nat.le_of_ble_eq_true rfl) (by simp only [rmOf]; omega) (by simp only [rmOf]; omega) (Nat.le_of_ble_eq_true rfl) (Nat.le_of_ble_eq_true rfl) (fun _ => rfl) (fun v0 h0 q0 => ?_)
  obtain ⟨rfl, rfl⟩ := q0
  refine go_putFR dX7_init_12 fX7_12 rfl rfl rfl rfl (tr_L rfl) (show _ < hN h + 12 by omega) ?_
  refine go_aloadn dX7_init_15 rfl ?_
  refine go_iconst (v := 4) dX7_init_16 rfl ?_
  refine go_newa (ty := 0) (len := 4) (by decide) dX7_init_17 ar_0 (show lay (hN h + 12) = _ by rw [he]; rfl) (by decide) (by decide +kernel) (by decide) rfl (Nat.le_of_ble_eq_true rfl) (Nat.le_of_ble_eq_true rfl) ?_
  refine go_putFR dX7_init_19 fX7_18 rfl rfl rfl rfl (tr_L rfl) (show _ < hN h + 13 by omega) ?_
  refine go_aloadn dX7_init_22 rfl ?_
  refine go_iconst (v := 4) dX7_init_23 rfl ?_
  refine go_newa (ty := 0) (len := 4) (by decide) dX7_init_24 ar_0 (show lay (hN h + 13) = _ by rw [he]; rfl) (by decide) (by decide +kernel) (by decide) rfl (Nat.le_of_ble_eq_true rfl) (Nat.le_of_ble_eq_true rfl) ?_
  refine go_putFR dX7_init_26 fX7_22 rfl rfl rfl rfl (tr_L rfl) (show _ < hN h + 14 by omega) ?_
  refine go_return dX7_init_29 rfl (Nat.le_of_ble_eq_true rfl) (Nat.le_of_ble_eq_true rfl) ⟨rfl, rfl⟩
def jX1 (h : Hp) (a : Nat) : Hp := uR (iX4 (uN (uR (iX4 (uN (nwR (nwR (nwR (nwR (nwR (nwR (nwR (nwR (nwR (h) a 4) a 5) a 6) a 7) a 8) a 9) a 10) a 11) a 12)) (hN h + 9)) a 14 (some (hN h + 9)))) (hN h + 10)) a 15 (some (hN h + 10))
theorem jX1_4 {h : Hp} {a : Nat} (he : hN h = a + 1) : hR (jX1 h a) a 4 = some (a + 1) := by
  have he1 : h.2.2.2 = a + 1 := he
  simp [jX1, iX4, nwR, hR, uR, up2, uN, hN, he1] <;> omega
theorem jX1_5 {h : Hp} {a : Nat} (he : hN h = a + 1) : hR (jX1 h a) a 5 = some (a + 2) := by
  have he1 : h.2.2.2 = a + 1 := he
  simp [jX1, iX4, nwR, hR, uR, up2, uN, hN, he1] <;> omega
theorem jX1_6 {h : Hp} {a : Nat} (he : hN h = a + 1) : hR (jX1 h a) a 6 = some (a + 3) := by
  have he1 : h.2.2.2 = a + 1 := he
  simp [jX1, iX4, nwR, hR, uR, up2, uN, hN, he1] <;> omega
theorem jX1_7 {h : Hp} {a : Nat} (he : hN h = a + 1) : hR (jX1 h a) a 7 = some (a + 4) := by
  have he1 : h.2.2.2 = a + 1 := he
  simp [jX1, iX4, nwR, hR, uR, up2, uN, hN, he1] <;> omega
theorem jX1_8 {h : Hp} {a : Nat} (he : hN h = a + 1) : hR (jX1 h a) a 8 = some (a + 5) := by
  have he1 : h.2.2.2 = a + 1 := he
  simp [jX1, iX4, nwR, hR, uR, up2, uN, hN, he1] <;> omega
theorem jX1_9 {h : Hp} {a : Nat} (he : hN h = a + 1) : hR (jX1 h a) a 9 = some (a + 6) := by
  have he1 : h.2.2.2 = a + 1 := he
  simp [jX1, iX4, nwR, hR, uR, up2, uN, hN, he1] <;> omega
theorem jX1_10 {h : Hp} {a : Nat} (he : hN h = a + 1) : hR (jX1 h a) a 10 = some (a + 7) := by
  have he1 : h.2.2.2 = a + 1 := he
  simp [jX1, iX4, nwR, hR, uR, up2, uN, hN, he1] <;> omega
theorem jX1_11 {h : Hp} {a : Nat} (he : hN h = a + 1) : hR (jX1 h a) a 11 = some (a + 8) := by
  have he1 : h.2.2.2 = a + 1 := he
  simp [jX1, iX4, nwR, hR, uR, up2, uN, hN, he1] <;> omega
theorem jX1_12 {h : Hp} {a : Nat} (he : hN h = a + 1) : hR (jX1 h a) a 12 = some (a + 9) := by
  have he1 : h.2.2.2 = a + 1 := he
  simp [jX1, iX4, nwR, hR, uR, up2, uN, hN, he1] <;> omega
theorem jX1_14 {h : Hp} {a : Nat} (he : hN h = a + 1) : hR (jX1 h a) a 14 = some (a + 10) := by
  have he1 : h.2.2.2 = a + 1 := he
  simp [jX1, iX4, nwR, hR, uR, up2, uN, hN, he1] <;> omega
theorem jX1_15 {h : Hp} {a : Nat} (he : hN h = a + 1) : hR (jX1 h a) a 15 = some (a + 11) := by
  have he1 : h.2.2.2 = a + 1 := he
  simp [jX1, iX4, nwR, hR, uR, up2, uN, hN, he1] <;> omega
def iX1 (h : Hp) (a : Nat) : Hp := clH (jX1 h a) a
theorem i_X1 {l : Launch} {d : Nat} {h : Hp} {a : Nat} (ha : CityAt a) (he : hN h = a + 1) : Run l (d + 3) (11, 816) mX1_init [.ref a] h (fun v h1 => v = none ∧ h1 = iX1 h a) noX := by
  refine run_lv [some (.ref a)] (go := ?_)
  refine go_aloadn dX1_init_0 rfl ?_
  refine go_obj dX1_init_1 oi_X1 oi_in oi_co (Nat.le_of_ble_eq_true rfl) (by simp only [rmOf]; omega) (by simp only [rmOf]; omega) ?_
  refine go_aloadn dX1_init_4 rfl ?_
  refine go_bipush (v := 8) dX1_init_5 rfl ?_
  refine go_newa (ty := 0) (len := 8) (by decide) dX1_init_7 ar_0 (show lay (hN h + 0) = _ by rw [he]; rcases ha with rfl | rfl <;> rfl) (by decide) (by decide +kernel) (by decide) rfl (Nat.le_of_ble_eq_true rfl) (Nat.le_of_ble_eq_true rfl) ?_
  refine go_putFR dX1_init_9 fX1_9 rfl rfl rfl rfl (ct_L ha) (show _ < hN h + 1 by omega) ?_
  refine go_aloadn dX1_init_12 rfl ?_
  refine go_bipush (v := 8) dX1_init_13 rfl ?_
  refine go_newa (ty := 0) (len := 8) (by decide) dX1_init_15 ar_0 (show lay (hN h + 1) = _ by rw [he]; rcases ha with rfl | rfl <;> rfl) (by decide) (by decide +kernel) (by decide) rfl (Nat.le_of_ble_eq_true rfl) (Nat.le_of_ble_eq_true rfl) ?_
  refine go_putFR dX1_init_17 fX1_15 rfl rfl rfl rfl (ct_L ha) (show _ < hN h + 2 by omega) ?_
  refine go_aloadn dX1_init_20 rfl ?_
  refine go_bipush (v := 8) dX1_init_21 rfl ?_
  refine go_newa (ty := 0) (len := 8) (by decide) dX1_init_23 ar_0 (show lay (hN h + 2) = _ by rw [he]; rcases ha with rfl | rfl <;> rfl) (by decide) (by decide +kernel) (by decide) rfl (Nat.le_of_ble_eq_true rfl) (Nat.le_of_ble_eq_true rfl) ?_
  refine go_putFR dX1_init_25 fX1_18 rfl rfl rfl rfl (ct_L ha) (show _ < hN h + 3 by omega) ?_
  refine go_aloadn dX1_init_28 rfl ?_
  refine go_bipush (v := 48) dX1_init_29 rfl ?_
  refine go_newa (ty := 0) (len := 48) (by decide) dX1_init_31 ar_0 (show lay (hN h + 3) = _ by rw [he]; rcases ha with rfl | rfl <;> rfl) (by decide) (by decide +kernel) (by decide) rfl (Nat.le_of_ble_eq_true rfl) (Nat.le_of_ble_eq_true rfl) ?_
  refine go_putFR dX1_init_33 fX1_21 rfl rfl rfl rfl (ct_L ha) (show _ < hN h + 4 by omega) ?_
  refine go_aloadn dX1_init_36 rfl ?_
  refine go_bipush (v := 10) dX1_init_37 rfl ?_
  refine go_newa (ty := 0) (len := 10) (by decide) dX1_init_39 ar_0 (show lay (hN h + 4) = _ by rw [he]; rcases ha with rfl | rfl <;> rfl) (by decide) (by decide +kernel) (by decide) rfl (Nat.le_of_ble_eq_true rfl) (Nat.le_of_ble_eq_true rfl) ?_
  refine go_putFR dX1_init_41 fX1_24 rfl rfl rfl rfl (ct_L ha) (show _ < hN h + 5 by omega) ?_
  refine go_aloadn dX1_init_44 rfl ?_
  refine go_bipush (v := 10) dX1_init_45 rfl ?_
  refine go_newa (ty := 0) (len := 10) (by decide) dX1_init_47 ar_0 (show lay (hN h + 5) = _ by rw [he]; rcases ha with rfl | rfl <;> rfl) (by decide) (by decide +kernel) (by decide) rfl (Nat.le_of_ble_eq_true rfl) (Nat.le_of_ble_eq_true rfl) ?_
  refine go_putFR dX1_init_49 fX1_27 rfl rfl rfl rfl (ct_L ha) (show _ < hN h + 6 by omega) ?_
  refine go_aloadn dX1_init_52 rfl ?_
  refine go_bipush (v := 10) dX1_init_53 rfl ?_
  refine go_newa (ty := 0) (len := 10) (by decide) dX1_init_55 ar_0 (show lay (hN h + 6) = _ by rw [he]; rcases ha with rfl | rfl <;> rfl) (by decide) (by decide +kernel) (by decide) rfl (Nat.le_of_ble_eq_true rfl) (Nat.le_of_ble_eq_true rfl) ?_
  refine go_putFR dX1_init_57 fX1_30 rfl rfl rfl rfl (ct_L ha) (show _ < hN h + 7 by omega) ?_
  refine go_aloadn dX1_init_60 rfl ?_
  refine go_bipush (v := 10) dX1_init_61 rfl ?_
  refine go_newa (ty := 0) (len := 10) (by decide) dX1_init_63 ar_0 (show lay (hN h + 7) = _ by rw [he]; rcases ha with rfl | rfl <;> rfl) (by decide) (by decide +kernel) (by decide) rfl (Nat.le_of_ble_eq_true rfl) (Nat.le_of_ble_eq_true rfl) ?_
  refine go_putFR dX1_init_65 fX1_33 rfl rfl rfl rfl (ct_L ha) (show _ < hN h + 8 by omega) ?_
  refine go_aloadn dX1_init_68 rfl ?_
  refine go_sipush (v := 700) dX1_init_69 rfl ?_
  refine go_newa (ty := 0) (len := 700) (by decide) dX1_init_72 ar_0 (show lay (hN h + 8) = _ by rw [he]; rcases ha with rfl | rfl <;> rfl) (by decide) (by decide +kernel) (by decide) rfl (Nat.le_of_ble_eq_true rfl) (Nat.le_of_ble_eq_true rfl) ?_
  refine go_putFR dX1_init_74 fX1_36 rfl rfl rfl rfl (ct_L ha) (show _ < hN h + 9 by omega) ?_
  refine go_aloadn dX1_init_77 rfl ?_
  refine go_new (ci := 4) dX1_init_78 clk_X1_39 ins_X4 iniX4 (by decide) (show lay (hN h + 9) = _ by rw [he]; rcases ha with rfl | rfl <;> rfl) rfl (Nat.le_of_ble_eq_true rfl) (Nat.le_of_ble_eq_true rfl) ?_
  refine go_dup dX1_init_81 rfl ?_
  refine go_callIN_ dX1_init_82 (List.mem_of_getElem? (i := 1) rfl) cb_X4 rfl im_X4 rfl (i_X4 (d := d) (show RuleAt (hN h + 9) by rw [he]; rcases ha with rfl | rfl <;> simp [RuleAt]) rfl) (Nat.le_of_ble_eq_true rfl) (by simp only [rmOf]; omega) (by simp only [rmOf]; omega) (Nat.le_of_ble_eq_true rfl) (Nat.le_of_ble_eq_true rfl) (fun _ => rfl) (fun v0 h0 q0 => ?_)
  obtain ⟨rfl, rfl⟩ := q0
  refine go_putFR dX1_init_85 fX1_42 rfl rfl rfl rfl (ct_L ha) (show _ < hN h + 10 by omega) ?_
  refine go_aloadn dX1_init_88 rfl ?_
  refine go_new (ci := 4) dX1_init_89 clk_X1_39 ins_X4 iniX4 (by decide) (show lay (hN h + 10) = _ by rw [he]; rcases ha with rfl | rfl <;> rfl) rfl (Nat.le_of_ble_eq_true rfl) (Nat.le_of_ble_eq_true rfl) ?_
  refine go_dup dX1_init_92 rfl ?_
  refine go_callIN_ dX1_init_93 (List.mem_of_getElem? (i := 1) rfl) cb_X4 rfl im_X4 rfl (i_X4 (d := d) (show RuleAt (hN h + 10) by rw [he]; rcases ha with rfl | rfl <;> simp [RuleAt]) rfl) (Nat.le_of_ble_eq_true rfl) (by simp only [rmOf]; omega) (by simp only [rmOf]; omega) (Nat.le_of_ble_eq_true rfl) (Nat.le_of_ble_eq_true rfl) (fun _ => rfl) (fun v0 h0 q0 => ?_)
  obtain ⟨rfl, rfl⟩ := q0
  refine go_putFR dX1_init_96 fX1_46 rfl rfl rfl rfl (ct_L ha) (show _ < hN h + 11 by omega) ?_
  refine go_aloadn dX1_init_99 rfl ?_
  refine ns_cV0 [] dX1_init_100 lX1_49 vX1_clear (ct_L ha) (by decide) rfl (show _ < hN h + 11 by omega) (fun _ => rfl) (n_cClear (d := d) ha (show _ ≤ hN h + 11 by omega) (jX1_4 he) (jX1_5 he) (jX1_6 he) (jX1_7 he) (jX1_8 he) (jX1_9 he) (jX1_10 he) (jX1_11 he) (jX1_14 he) (jX1_15 he)) rfl (Nat.le_of_ble_eq_true rfl) (by simp only [rmOf]; omega) (by simp only [rmOf]; omega) (Nat.le_of_ble_eq_true rfl) (Nat.le_of_ble_eq_true rfl) ?_
  refine go_return dX1_init_103 rfl (Nat.le_of_ble_eq_true rfl) (Nat.le_of_ble_eq_true rfl) ⟨rfl, rfl⟩
