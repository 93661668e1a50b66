/-! constructors -/
def nwR (h : Hp) (a k : Nat) : Hp := uR (uN h) a k (some (hN h))
theorem oi_in : inG (.instanceMethod Lib.objectInit) := ⟨ch1_2 _ (List.mem_of_getElem? (i := 0) rfl), rfl⟩
theorem oi_co : inG (.code Lib.objectInit ⟨#[0xb1]⟩ 1 none) := ⟨ch1_2 _ (List.mem_of_getElem? (i := 1) rfl), rfl⟩
theorem ar_0 : inG (.arrayClass (ftOf 0)) := ⟨ch1_6 _ (List.mem_of_getElem? (i := 2) rfl), rfl⟩
theorem ar_1 : inG (.arrayClass (ftOf 1)) := ⟨ch1_6 _ (List.mem_of_getElem? (i := 1) rfl), rfl⟩
theorem ar_2 : inG (.arrayClass (ftOf 2)) := ⟨ch9_10 _ (List.mem_of_getElem? (i := 14) rfl), rfl⟩
theorem ar_3 : inG (.arrayClass (ftOf 3)) := ⟨ch7_12 _ (List.mem_of_getElem? (i := 10) rfl), rfl⟩
theorem oi_X0 : inG (.methodLink RX0 3 Lib.objectInit) := ⟨ch2_3 _ (List.mem_of_getElem? (i := 13) rfl), rfl⟩
theorem ins_X0 : inG (.instantiable (clR 0) (clN 0)) := ⟨ch2_3 _ (List.mem_of_getElem? (i := 9) rfl), rfl⟩
theorem cb_X0 : CB mX0_init 0 := ⟨rfl, ⟨ch2_3 _ (List.mem_of_getElem? (i := 12) rfl), rfl⟩, iniX0, by decide, by decide +kernel, by decide⟩
theorem im_X0 : inG (.instanceMethod yX0_init) := ⟨ch2_3 _ (List.mem_of_getElem? (i := 11) rfl), rfl⟩
theorem oi_X1 : inG (.methodLink RX1 3 Lib.objectInit) := ⟨ch1_6 _ (List.mem_of_getElem? (i := 8) rfl), rfl⟩
theorem ins_X1 : inG (.instantiable (clR 1) (clN 1)) := ⟨ch1_6 _ (List.mem_of_getElem? (i := 4) rfl), rfl⟩
theorem cb_X1 : CB mX1_init 0 := ⟨rfl, ⟨ch1_6 _ (List.mem_of_getElem? (i := 7) rfl), rfl⟩, iniX1, by decide, by decide +kernel, by decide⟩
theorem im_X1 : inG (.instanceMethod yX1_init) := ⟨ch1_6 _ (List.mem_of_getElem? (i := 6) rfl), rfl⟩
theorem oi_X2 : inG (.methodLink RX2 3 Lib.objectInit) := ⟨ch2_4 _ (List.mem_of_getElem? (i := 14) rfl), rfl⟩
theorem ins_X2 : inG (.instantiable (clR 2) (clN 2)) := ⟨ch2_4 _ (List.mem_of_getElem? (i := 10) rfl), rfl⟩
theorem cb_X2 : CB mX2_init 0 := ⟨rfl, ⟨ch2_4 _ (List.mem_of_getElem? (i := 13) rfl), rfl⟩, iniX2, by decide, by decide +kernel, by decide⟩
theorem im_X2 : inG (.instanceMethod yX2_init) := ⟨ch2_4 _ (List.mem_of_getElem? (i := 12) rfl), rfl⟩
theorem oi_X3 : inG (.methodLink RX3 3 Lib.objectInit) := ⟨ch1_2 _ (List.mem_of_getElem? (i := 7) rfl), rfl⟩
theorem ins_X3 : inG (.instantiable (clR 3) (clN 3)) := ⟨ch1_2 _ (List.mem_of_getElem? (i := 3) rfl), rfl⟩
theorem cb_X3 : CB mX3_init 0 := ⟨rfl, ⟨ch1_2 _ (List.mem_of_getElem? (i := 6) rfl), rfl⟩, iniX3, by decide, by decide +kernel, by decide⟩
theorem im_X3 : inG (.instanceMethod yX3_init) := ⟨ch1_2 _ (List.mem_of_getElem? (i := 5) rfl), rfl⟩
theorem oi_X4 : inG (.methodLink RX4 1 Lib.objectInit) := ⟨ch1_6 _ (List.mem_of_getElem? (i := 14) rfl), rfl⟩
theorem ins_X4 : inG (.instantiable (clR 4) (clN 4)) := ⟨ch1_6 _ (List.mem_of_getElem? (i := 10) rfl), rfl⟩
theorem cb_X4 : CB mX4_init 0 := ⟨rfl, ⟨ch1_6 _ (List.mem_of_getElem? (i := 13) rfl), rfl⟩, iniX4, by decide, by decide +kernel, by decide⟩
theorem im_X4 : inG (.instanceMethod yX4_init) := ⟨ch1_6 _ (List.mem_of_getElem? (i := 12) rfl), rfl⟩
theorem oi_X5 : inG (.methodLink RX5 3 Lib.objectInit) := ⟨ch2_9 _ (List.mem_of_getElem? (i := 2) rfl), rfl⟩
theorem ins_X5 : inG (.instantiable (clR 5) (clN 5)) := ⟨ch2_8 _ (List.mem_of_getElem? (i := 14) rfl), rfl⟩
theorem cb_X5 : CB mX5_init 0 := ⟨rfl, ⟨ch2_9 _ (List.mem_of_getElem? (i := 1) rfl), rfl⟩, iniX5, by decide, by decide +kernel, by decide⟩
theorem im_X5 : inG (.instanceMethod yX5_init) := ⟨ch2_9 _ (List.mem_of_getElem? (i := 0) rfl), rfl⟩
theorem oi_X6 : inG (.methodLink RX6 3 Lib.objectInit) := ⟨ch1_14 _ (List.mem_of_getElem? (i := 4) rfl), rfl⟩
theorem ins_X6 : inG (.instantiable (clR 6) (clN 6)) := ⟨ch1_14 _ (List.mem_of_getElem? (i := 0) rfl), rfl⟩
theorem cb_X6 : CB mX6_init 0 := ⟨rfl, ⟨ch1_14 _ (List.mem_of_getElem? (i := 3) rfl), rfl⟩, iniX6, by decide, by decide +kernel, by decide⟩
theorem im_X6 : inG (.instanceMethod yX6_init) := ⟨ch1_14 _ (List.mem_of_getElem? (i := 2) rfl), rfl⟩
theorem oi_X7 : inG (.methodLink RX7 3 Lib.objectInit) := ⟨ch2_6 _ (List.mem_of_getElem? (i := 2) rfl), rfl⟩
theorem ins_X7 : inG (.instantiable (clR 7) (clN 7)) := ⟨ch2_5 _ (List.mem_of_getElem? (i := 14) rfl), rfl⟩
theorem cb_X7 : CB mX7_init 0 := ⟨rfl, ⟨ch2_6 _ (List.mem_of_getElem? (i := 1) rfl), rfl⟩, iniX7, by decide, by decide +kernel, by decide⟩
theorem im_X7 : inG (.instanceMethod yX7_init) := ⟨ch2_6 _ (List.mem_of_getElem? (i := 0) rfl), rfl⟩
theorem oi_X8 : inG (.methodLink RX8 3 Lib.objectInit) := ⟨ch2_7 _ (List.mem_of_getElem? (i := 9) rfl), rfl⟩
theorem ins_X8 : inG (.instantiable (clR 8) (clN 8)) := ⟨ch2_7 _ (List.mem_of_getElem? (i := 5) rfl), rfl⟩
theorem cb_X8 : CB mX8_init 0 := ⟨rfl, ⟨ch2_7 _ (List.mem_of_getElem? (i := 8) rfl), rfl⟩, iniX8, by decide, by decide +kernel, by decide⟩
theorem im_X8 : inG (.instanceMethod yX8_init) := ⟨ch2_7 _ (List.mem_of_getElem? (i := 7) rfl), rfl⟩
theorem oi_X9 : inG (.methodLink RX9 1 Lib.objectInit) := ⟨ch1_1 _ (List.mem_of_getElem? (i := 15) rfl), rfl⟩
theorem ins_X9 : inG (.instantiable (clR 9) (clN 9)) := ⟨ch1_1 _ (List.mem_of_getElem? (i := 11) rfl), rfl⟩
theorem cb_X9 : CB mX9_init 0 := ⟨rfl, ⟨ch1_1 _ (List.mem_of_getElem? (i := 14) rfl), rfl⟩, iniX9, by decide, by decide +kernel, by decide⟩
theorem im_X9 : inG (.instanceMethod yX9_init) := ⟨ch1_1 _ (List.mem_of_getElem? (i := 13) rfl), rfl⟩
theorem oi_X10 : inG (.methodLink RX10 1 Lib.objectInit) := ⟨ch7_0 _ (List.mem_of_getElem? (i := 14) rfl), rfl⟩
theorem ins_X10 : inG (.instantiable (clR 10) (clN 10)) := ⟨ch7_0 _ (List.mem_of_getElem? (i := 10) rfl), rfl⟩
theorem cb_X10 : CB mX10_init 0 := ⟨rfl, ⟨ch7_0 _ (List.mem_of_getElem? (i := 13) rfl), rfl⟩, iniX10, by decide, by decide +kernel, by decide⟩
theorem im_X10 : inG (.instanceMethod yX10_init) := ⟨ch7_0 _ (List.mem_of_getElem? (i := 12) rfl), rfl⟩
theorem clk_X1_39 : inG (.classLink RX1 39 (clR 4)) := ⟨ch1_6 _ (List.mem_of_getElem? (i := 9) rfl), rfl⟩
theorem clk_X7_9 : inG (.classLink RX7 9 (clR 6)) := ⟨ch2_6 _ (List.mem_of_getElem? (i := 3) rfl), rfl⟩
theorem clk_X9_21 : inG (.classLink RX9 21 (clR 3)) := ⟨ch1_2 _ (List.mem_of_getElem? (i := 2) rfl), rfl⟩
theorem clk_X9_28 : inG (.classLink RX9 28 (clR 1)) := ⟨ch1_6 _ (List.mem_of_getElem? (i := 3) rfl), rfl⟩
theorem clk_X9_38 : inG (.classLink RX9 38 (clR 6)) := ⟨ch1_13 _ (List.mem_of_getElem? (i := 15) rfl), rfl⟩
theorem clk_X9_45 : inG (.classLink RX9 45 (clR 0)) := ⟨ch2_3 _ (List.mem_of_getElem? (i := 8) rfl), rfl⟩
theorem clk_X9_52 : inG (.classLink RX9 52 (clR 2)) := ⟨ch2_4 _ (List.mem_of_getElem? (i := 9) rfl), rfl⟩
theorem clk_X9_68 : inG (.classLink RX9 68 (clR 7)) := ⟨ch2_5 _ (List.mem_of_getElem? (i := 13) rfl), rfl⟩
theorem clk_X9_75 : inG (.classLink RX9 75 (clR 8)) := ⟨ch2_7 _ (List.mem_of_getElem? (i := 4) rfl), rfl⟩
theorem clk_X9_82 : inG (.classLink RX9 82 (clR 5)) := ⟨ch2_8 _ (List.mem_of_getElem? (i := 13) rfl), rfl⟩
theorem clk_L_8 : inG (.classLink RL 8 (clR 9)) := ⟨ch1_1 _ (List.mem_of_getElem? (i := 10) rfl), rfl⟩
theorem clk_L_111 : inG (.classLink RL 111 (clR 10)) := ⟨ch7_0 _ (List.mem_of_getElem? (i := 9) rfl), rfl⟩
def iX4 (h : Hp) (a : Nat) : Hp := h
theorem i_X4 {l : Launch} {d : Nat} {h : Hp} {a : Nat} (ha : RuleAt a) (he : hN h = a + 1) : Run l (d + 1) (0, 0) mX4_init [.ref a] h (fun v h1 => v = none ∧ h1 = iX4 h a) noX := by
  refine run_lv [some (.ref a)] (go := ?_)
  refine go_aloadn dX4_init_0 rfl ?_
  refine go_obj dX4_init_1 oi_X4 oi_in oi_co (Nat.le_of_ble_eq_true rfl) (by simp only [rmOf]; omega) (by simp only [rmOf]; omega) ?_
  refine go_return dX4_init_4 rfl (Nat.le_of_ble_eq_true rfl) (Nat.le_of_ble_eq_true rfl) ⟨rfl, rfl⟩
def iX0 (h : Hp) (a : Nat) : Hp := nwR (h) a 0
theorem i_X0 {l : Launch} {d : Nat} {h : Hp} {a : Nat} (ha : ActsAt a) (he : hN h = a + 1) : Run l (d + 1) (1, 760) mX0_init [.ref a] h (fun v h1 => v = none ∧ h1 = iX0 h a) noX := by
  refine run_lv [some (.ref a)] (go := ?_)
  refine go_aloadn dX0_init_0 rfl ?_
  refine go_obj dX0_init_1 oi_X0 oi_in oi_co (Nat.le_of_ble_eq_true rfl) (by simp only [rmOf]; omega) (by simp only [rmOf]; omega) ?_
  refine go_aloadn dX0_init_4 rfl ?_
  refine go_sipush (v := 760) dX0_init_5 rfl ?_
  refine go_newa (ty := 0) (len := 760) (by decide) dX0_init_8 ar_0 (show lay (hN h + 0) = _ by rw [he]; rcases ha with rfl | rfl <;> rfl) (by decide) (by decide +kernel) (by decide) rfl (Nat.le_of_ble_eq_true rfl) (Nat.le_of_ble_eq_true rfl) ?_
  refine go_putFR dX0_init_10 fX0_13 rfl rfl rfl rfl (ac_L ha) (show _ < hN h + 1 by omega) ?_
  refine go_return dX0_init_13 rfl (Nat.le_of_ble_eq_true rfl) (Nat.le_of_ble_eq_true rfl) ⟨rfl, rfl⟩
